/-! ===== the class: what fits; draws; a scene's copy ===== -/
def nF (pg : Nat → Nat) : Nat := (pg 0 - 48) * (pg 1 - 48)
def fitsF (pg : Nat → Nat) (N p : Nat) : Bool :=
  if p = 0 then decide (pg 0 = 50 ∨ pg 0 = 51) else if p = 1 then decide (50 ≤ pg 1 ∧ pg 1 ≤ 52) else
  if p = 2 ∨ p = 3 + N then decide (pg p = 59) else if p < 3 + N then decide (pg p = 46 ∨ pg p = 35) else
  if (p - (4 + N)) % 3 = 0 then (kindIx (pg p)).isSome else if (p - (4 + N)) % 3 = 1 then openF pg N ((p - (4 + N)) / 3) else decide (pg p = 44 ∧ (p - (4 + N)) / 3 < 3)
theorem kxFrom_lt (c : Nat) : ∀ n i j, kxFrom c n i = some j → j < i + n := by
  intro n
  induction n with
  | zero => intro i j h; cases h
  | succ n ih =>
    intro i j h
    unfold kxFrom at h
    split at h
    · cases h; omega
    · have := ih _ _ h; omega
theorem kindIx_lt {c j : Nat} (h : kindIx c = some j) : j < 5 := by have := kxFrom_lt c 5 0 j h; omega
theorem fits_N {pg : Nat → Nat} {N : Nat} (h0 : fitsF pg N 0 = true) (h1 : fitsF pg N 1 = true) : 48 ≤ pg 0 ∧ 48 ≤ pg 1 ∧ 4 ≤ nF pg ∧ nF pg ≤ 12 ∧ 2 ≤ pg 0 - 48 ∧ pg 0 - 48 ≤ 3 ∧ 2 ≤ pg 1 - 48 ∧ pg 1 - 48 ≤ 4 := by
  simp only [fitsF, if_true, decide_eq_true_eq] at h0
  simp only [fitsF, if_true, decide_eq_true_eq] at h1
  have h1 : 50 ≤ pg 1 ∧ pg 1 ≤ 52 := by simpa using h1
  unfold nF
  have e1 : pg 1 = 50 ∨ pg 1 = 51 ∨ pg 1 = 52 := by omega
  rcases h0 with h0 | h0 <;> rcases e1 with e1 | e1 | e1 <;> rw [h0, e1] <;> decide
def ftFrom (pg : Nat → Nat) (N : Nat) : Nat → Nat → Nat
  | 0, p => p
  | n + 1, p => if fitsF pg N p = true then ftFrom pg N n (p + 1) else p
def faultF (pg : Nat → Nat) (sz : Nat) : Nat := ftFrom pg (nF pg) sz 0
theorem ftFrom_all {pg : Nat → Nat} {N : Nat} : ∀ n p, ftFrom pg N n p = p + n → ∀ q, p ≤ q → q < p + n → fitsF pg N q = true := by
  intro n
  induction n with
  | zero => intro p _ q h1 h2; omega
  | succ n ih =>
    intro p h q h1 h2
    unfold ftFrom at h
    split at h
    · by_cases e : q = p
      · rw [e]; assumption
      · exact ih (p + 1) (by omega) q (by omega) (by omega)
    · omega
theorem ftFrom_le {pg : Nat → Nat} {N : Nat} : ∀ n p, ftFrom pg N n p ≤ p + n := by
  intro n
  induction n with
  | zero => intro p; exact Nat.le_refl _
  | succ n ih =>
    intro p
    unfold ftFrom
    split
    · have := ih (p + 1); omega
    · omega
theorem clF_N {pg : Nat → Nat} {sz : Nat} (hsz : 2 ≤ sz) (h0 : 48 ≤ pg 0) (h1 : 48 ≤ pg 1) : clF pg sz = nI (nF pg) := by
  unfold clF atF nF
  rw [if_pos (by omega), if_pos (by omega), pk_sub h0, pk_sub h1, pk_mul]
section
variable {w : mW} {sz : Nat} {cl : Int32} {pg : Nat → Nat}
theorem c_fits (h1 : w[1]? = some (oP sz cl)) (h8 : w[8]? = some (nA 30 pg)) (hsz : sz ≤ 30) (hpg : ∀ i, pg i < 127) (N p : Nat) (hp : p < sz) (hN : 2 ≤ p → cl = nI N ∧ N ≤ 12) : JR 5 mX2_fits [.ref 1, .int (nI p)] w (.int (bI (fitsF pg N p))) w := by
  have hat : atF pg sz p = nI (pg p) := if_pos hp
  have hc := hpg p
  refine j_start (ls := [.ref 1, .int (nI p), .null, .null, .null]) rfl ?_
  by_cases p0 : p = 0
  · subst p0
    refine j_aload_n iX2_fits_0 rfl ?_
    refine j_iload_n iX2_fits_1 rfl ?_
    refine j_V1R okX2_at lk_X2_40 iX2_fits_2 (by omega) (by repeat (first | assumption | refine wset_ne (by decide) ?_ | exact wset_lt (by (try simp only [List.length_set]); exact wsome (by assumption)))) rfl (c_at h1 h8 hsz 0 (by decide)) rfl (Nat.le_of_ble_eq_true rfl) (Nat.le_of_ble_eq_true rfl) ?_
    rw [hat]
    refine j_istore_n iX2_fits_5 (by decide) rfl ?_
    dsimp only [List.set]
    refine j_iload_n iX2_fits_6 rfl ?_
    refine j_if_neN (tgt := 28) iX2_fits_7 (by decide) (by omega) (fun hno => by exfalso; omega) (fun _ => ?_)
    refine j_iload_n iX2_fits_10 rfl ?_
    refine j_bipush (v := nI 50) iX2_fits_11 (by decide) ?_
    refine j_icmp_eqN (tgt := 22) iX2_fits_13 (by decide) (by omega) (by omega) (fun h13 => ?_) (fun h13 => ?_)
    · refine j_iconst (v := nI 1) iX2_fits_22 (by decide) ?_
      refine j_goto (tgt := 27) iX2_fits_23 (by decide) ?_
      refine j_iret iX2_fits_27 rfl (by first | rfl | exact nar_bI _ | exact nar_bP) (⟨by unfold fitsF; rw [if_pos rfl]; first | (rw [decide_eq_true (Or.inl h13)]; rfl) | (rw [decide_eq_true (Or.inr h19)]; rfl) | (rw [decide_eq_false (fun z => z.elim h13 h19)]; rfl), rfl⟩)
    · refine j_iload_n iX2_fits_16 rfl ?_
      refine j_bipush (v := nI 51) iX2_fits_17 (by decide) ?_
      refine j_icmp_neN (tgt := 26) iX2_fits_19 (by decide) (by omega) (by omega) (fun h19 => ?_) (fun h19 => ?_)
      · refine j_iconst (v := nI 0) iX2_fits_26 (by decide) ?_
        refine j_iret iX2_fits_27 rfl (by first | rfl | exact nar_bI _ | exact nar_bP) (⟨by unfold fitsF; rw [if_pos rfl]; first | (rw [decide_eq_true (Or.inl h13)]; rfl) | (rw [decide_eq_true (Or.inr h19)]; rfl) | (rw [decide_eq_false (fun z => z.elim h13 h19)]; rfl), rfl⟩)
      · refine j_iconst (v := nI 1) iX2_fits_22 (by decide) ?_
        refine j_goto (tgt := 27) iX2_fits_23 (by decide) ?_
        refine j_iret iX2_fits_27 rfl (by first | rfl | exact nar_bI _ | exact nar_bP) (⟨by unfold fitsF; rw [if_pos rfl]; first | (rw [decide_eq_true (Or.inl h13)]; rfl) | (rw [decide_eq_true (Or.inr h19)]; rfl) | (rw [decide_eq_false (fun z => z.elim h13 h19)]; rfl), rfl⟩)
  · by_cases p1 : p = 1
    · subst p1
      refine j_aload_n iX2_fits_0 rfl ?_
      refine j_iload_n iX2_fits_1 rfl ?_
      refine j_V1R okX2_at lk_X2_40 iX2_fits_2 (by omega) (by repeat (first | assumption | refine wset_ne (by decide) ?_ | exact wset_lt (by (try simp only [List.length_set]); exact wsome (by assumption)))) rfl (c_at h1 h8 hsz 1 (by decide)) rfl (Nat.le_of_ble_eq_true rfl) (Nat.le_of_ble_eq_true rfl) ?_
      rw [hat]
      refine j_istore_n iX2_fits_5 (by decide) rfl ?_
      dsimp only [List.set]
      refine j_iload_n iX2_fits_6 rfl ?_
      refine j_if_neN (tgt := 28) iX2_fits_7 (by decide) (by omega) (fun _ => ?_) (fun hno => by exfalso; omega)
      refine j_iload_n iX2_fits_28 rfl ?_
      refine j_iconst (v := nI 1) iX2_fits_29 (by decide) ?_
      refine j_icmp_neN (tgt := 51) iX2_fits_30 (by decide) (by omega) (by omega) (fun hno => by exfalso; omega) (fun _ => ?_)
      refine j_iload_n iX2_fits_33 rfl ?_
      refine j_bipush (v := nI 50) iX2_fits_34 (by decide) ?_
      refine j_icmp_ltN (tgt := 49) iX2_fits_36 (by decide) (by omega) (by omega) (fun h36 => ?_) (fun h36 => ?_)
      · refine j_iconst (v := nI 0) iX2_fits_49 (by decide) ?_
        refine j_iret iX2_fits_50 rfl (by first | rfl | exact nar_bI _ | exact nar_bP) (⟨by unfold fitsF; rw [if_neg (by decide), if_pos rfl]; first | (rw [decide_eq_true ⟨h36, h42⟩]; rfl) | (rw [decide_eq_false (fun z => absurd z.1 (by omega))]; rfl) | (rw [decide_eq_false (fun z => absurd z.2 (by omega))]; rfl), rfl⟩)
      · refine j_iload_n iX2_fits_39 rfl ?_
        refine j_bipush (v := nI 52) iX2_fits_40 (by decide) ?_
        refine j_icmp_gtN (tgt := 49) iX2_fits_42 (by decide) (by omega) (by omega) (fun h42 => ?_) (fun h42 => ?_)
        · refine j_iconst (v := nI 0) iX2_fits_49 (by decide) ?_
          refine j_iret iX2_fits_50 rfl (by first | rfl | exact nar_bI _ | exact nar_bP) (⟨by unfold fitsF; rw [if_neg (by decide), if_pos rfl]; first | (rw [decide_eq_true ⟨h36, h42⟩]; rfl) | (rw [decide_eq_false (fun z => absurd z.1 (by omega))]; rfl) | (rw [decide_eq_false (fun z => absurd z.2 (by omega))]; rfl), rfl⟩)
        · refine j_iconst (v := nI 1) iX2_fits_45 (by decide) ?_
          refine j_goto (tgt := 50) iX2_fits_46 (by decide) ?_
          refine j_iret iX2_fits_50 rfl (by first | rfl | exact nar_bI _ | exact nar_bP) (⟨by unfold fitsF; rw [if_neg (by decide), if_pos rfl]; first | (rw [decide_eq_true ⟨h36, h42⟩]; rfl) | (rw [decide_eq_false (fun z => absurd z.1 (by omega))]; rfl) | (rw [decide_eq_false (fun z => absurd z.2 (by omega))]; rfl), rfl⟩)
    · obtain ⟨rfl, hN12⟩ := hN (by omega)
      have T : fitsF pg N p = if p = 2 ∨ p = 3 + N then decide (pg p = 59) else if p < 3 + N then decide (pg p = 46 ∨ pg p = 35) else
          if (p - (4 + N)) % 3 = 0 then (kindIx (pg p)).isSome else if (p - (4 + N)) % 3 = 1 then openF pg N ((p - (4 + N)) / 3) else decide (pg p = 44 ∧ (p - (4 + N)) / 3 < 3) := by
        unfold fitsF
        rw [if_neg p0, if_neg p1]
      have K66 : (p = 2 ∨ p = 3 + N) → J 5 mX2_fits 66 [.ref 1, .int (nI p), .int (nI (pg p)), .null, .null] [] w (fun v u => v = some (.int (bI (fitsF pg N p))) ∧ u = w) := by
        intro h
        rw [T, if_pos h]
        refine j_iload_n iX2_fits_66 rfl ?_
        refine j_bipush (v := nI 59) iX2_fits_67 (by decide) ?_
        refine j_icmp_neN (tgt := 76) iX2_fits_69 (by decide) (by omega) (by omega) (fun h69 => ?_) (fun h69 => ?_)
        · refine j_iconst (v := nI 0) iX2_fits_76 (by decide) ?_
          refine j_iret iX2_fits_77 rfl (by first | rfl | exact nar_bI _ | exact nar_bP) (⟨by first | (rw [decide_eq_true h69]; rfl) | (rw [decide_eq_false h69]; rfl), rfl⟩)
        · refine j_iconst (v := nI 1) iX2_fits_72 (by decide) ?_
          refine j_goto (tgt := 77) iX2_fits_73 (by decide) ?_
          refine j_iret iX2_fits_77 rfl (by first | rfl | exact nar_bI _ | exact nar_bP) (⟨by first | (rw [decide_eq_true h69]; rfl) | (rw [decide_eq_false h69]; rfl), rfl⟩)
      have K78 : ¬ (p = 2 ∨ p = 3 + N) → J 5 mX2_fits 78 [.ref 1, .int (nI p), .int (nI (pg p)), .null, .null] [] w (fun v u => v = some (.int (bI (fitsF pg N p))) ∧ u = w) := by
        intro h
        rw [T, if_neg h]
        by_cases hlt : p < 3 + N
        · rw [if_pos hlt]
          refine j_iload_n iX2_fits_78 rfl ?_
          refine j_iconst (v := nI 3) iX2_fits_79 (by decide) ?_
          refine j_aload_n iX2_fits_80 rfl ?_
          refine j_get fk_X2_26 iX2_fits_81 (by repeat (first | assumption | refine wset_ne (by decide) ?_ | exact wset_lt (by (try simp only [List.length_set]); exact wsome (by assumption)))) (by rfl) ?_
          refine j_iaddN iX2_fits_84  ?_
          refine j_icmp_geN (tgt := 106) iX2_fits_85 (by decide) (by omega) (by omega) (fun hno => by exfalso; omega) (fun _ => ?_)
          refine j_iload_n iX2_fits_88 rfl ?_
          refine j_bipush (v := nI 46) iX2_fits_89 (by decide) ?_
          refine j_icmp_eqN (tgt := 100) iX2_fits_91 (by decide) (by omega) (by omega) (fun h91 => ?_) (fun h91 => ?_)
          · refine j_iconst (v := nI 1) iX2_fits_100 (by decide) ?_
            refine j_goto (tgt := 105) iX2_fits_101 (by decide) ?_
            refine j_iret iX2_fits_105 rfl (by first | rfl | exact nar_bI _ | exact nar_bP) (⟨by first | (rw [decide_eq_true (Or.inl h91)]; rfl) | (rw [decide_eq_true (Or.inr h97)]; rfl) | (rw [decide_eq_false (fun z => z.elim h91 h97)]; rfl), rfl⟩)
          · refine j_iload_n iX2_fits_94 rfl ?_
            refine j_bipush (v := nI 35) iX2_fits_95 (by decide) ?_
            refine j_icmp_neN (tgt := 104) iX2_fits_97 (by decide) (by omega) (by omega) (fun h97 => ?_) (fun h97 => ?_)
            · refine j_iconst (v := nI 0) iX2_fits_104 (by decide) ?_
              refine j_iret iX2_fits_105 rfl (by first | rfl | exact nar_bI _ | exact nar_bP) (⟨by first | (rw [decide_eq_true (Or.inl h91)]; rfl) | (rw [decide_eq_true (Or.inr h97)]; rfl) | (rw [decide_eq_false (fun z => z.elim h91 h97)]; rfl), rfl⟩)
            · refine j_iconst (v := nI 1) iX2_fits_100 (by decide) ?_
              refine j_goto (tgt := 105) iX2_fits_101 (by decide) ?_
              refine j_iret iX2_fits_105 rfl (by first | rfl | exact nar_bI _ | exact nar_bP) (⟨by first | (rw [decide_eq_true (Or.inl h91)]; rfl) | (rw [decide_eq_true (Or.inr h97)]; rfl) | (rw [decide_eq_false (fun z => z.elim h91 h97)]; rfl), rfl⟩)
        · rw [if_neg hlt]
          have hge : 4 + N ≤ p := by omega
          have hm : (p - (4 + N)) % 3 < 3 := Nat.mod_lt _ (by decide)
          have hd : (p - (4 + N)) / 3 < 30 := by omega
          by_cases m0 : (p - (4 + N)) % 3 = 0
          · rw [if_pos m0]
            cases hk : kindIx (pg p) with
            | none =>
              refine j_iload_n iX2_fits_78 rfl ?_
              refine j_iconst (v := nI 3) iX2_fits_79 (by decide) ?_
              refine j_aload_n iX2_fits_80 rfl ?_
              refine j_get fk_X2_26 iX2_fits_81 (by repeat (first | assumption | refine wset_ne (by decide) ?_ | exact wset_lt (by (try simp only [List.length_set]); exact wsome (by assumption)))) (by rfl) ?_
              refine j_iaddN iX2_fits_84  ?_
              refine j_icmp_geN (tgt := 106) iX2_fits_85 (by decide) (by omega) (by omega) (fun _ => ?_) (fun hno => by exfalso; omega)
              refine j_iload_n iX2_fits_106 rfl ?_
              refine j_aload_n iX2_fits_107 rfl ?_
              refine j_iconst (v := nI 0) iX2_fits_108 (by decide) ?_
              refine j_V1R okX2_kindPlace lk_X2_33 iX2_fits_109 (by omega) (by repeat (first | assumption | refine wset_ne (by decide) ?_ | exact wset_lt (by (try simp only [List.length_set]); exact wsome (by assumption)))) rfl (c_kindPlaceN h1 0) rfl (Nat.le_of_ble_eq_true rfl) (Nat.le_of_ble_eq_true rfl) ?_
              refine j_isubN iX2_fits_112 (by omega) ?_
              refine j_iconst (v := nI 3) iX2_fits_113 (by decide) ?_
              refine j_idivN iX2_fits_114 (by omega) (by omega) (by omega) ?_
              refine j_top (y := nI ((p - (4 + N)) / 3)) (by rfl) ?_
              refine j_istore_n iX2_fits_115 (by decide) rfl ?_
              dsimp only [List.set]
              refine j_iload_n iX2_fits_116 rfl ?_
              refine j_aload_n iX2_fits_117 rfl ?_
              refine j_iconst (v := nI 0) iX2_fits_118 (by decide) ?_
              refine j_V1R okX2_kindPlace lk_X2_33 iX2_fits_119 (by omega) (by repeat (first | assumption | refine wset_ne (by decide) ?_ | exact wset_lt (by (try simp only [List.length_set]); exact wsome (by assumption)))) rfl (c_kindPlaceN h1 0) rfl (Nat.le_of_ble_eq_true rfl) (Nat.le_of_ble_eq_true rfl) ?_
              refine j_isubN iX2_fits_122 (by omega) ?_
              refine j_iconst (v := nI 3) iX2_fits_123 (by decide) ?_
              refine j_iremN iX2_fits_124 (by omega) (by omega) (by omega) ?_
              refine j_top (y := nI ((p - (4 + N)) % 3)) (by rfl) ?_
              refine j_istore iX2_fits_125 (by decide) rfl ?_
              dsimp only [List.set]
              refine j_iload iX2_fits_127 rfl ?_
              refine j_if_neN (tgt := 145) iX2_fits_129 (by decide) (by omega) (fun hno => by exfalso; omega) (fun _ => ?_)
              refine j_iload_n iX2_fits_132 rfl ?_
              refine j_S1R okX2_kindFor lk_X2_43 iX2_fits_133 (by omega) (c_kindFor _ hc) rfl (Nat.le_of_ble_eq_true rfl) (Nat.le_of_ble_eq_true rfl) ?_
              rw [hk]
              refine j_if_lt (tgt := 143) iX2_fits_136 (by decide) (fun _ => ?_) (fun hno => by first | exact absurd hno (by decide) | exact absurd (by decide) hno)
              refine j_iconst (v := nI 0) iX2_fits_143 (by decide) ?_
              refine j_iret iX2_fits_144 rfl (by first | rfl | exact nar_bI _ | exact nar_bP) (⟨rfl, rfl⟩)
            | some j =>
              have hj := kindIx_lt hk
              refine j_iload_n iX2_fits_78 rfl ?_
              refine j_iconst (v := nI 3) iX2_fits_79 (by decide) ?_
              refine j_aload_n iX2_fits_80 rfl ?_
              refine j_get fk_X2_26 iX2_fits_81 (by repeat (first | assumption | refine wset_ne (by decide) ?_ | exact wset_lt (by (try simp only [List.length_set]); exact wsome (by assumption)))) (by rfl) ?_
              refine j_iaddN iX2_fits_84  ?_
              refine j_icmp_geN (tgt := 106) iX2_fits_85 (by decide) (by omega) (by omega) (fun _ => ?_) (fun hno => by exfalso; omega)
              refine j_iload_n iX2_fits_106 rfl ?_
              refine j_aload_n iX2_fits_107 rfl ?_
              refine j_iconst (v := nI 0) iX2_fits_108 (by decide) ?_
              refine j_V1R okX2_kindPlace lk_X2_33 iX2_fits_109 (by omega) (by repeat (first | assumption | refine wset_ne (by decide) ?_ | exact wset_lt (by (try simp only [List.length_set]); exact wsome (by assumption)))) rfl (c_kindPlaceN h1 0) rfl (Nat.le_of_ble_eq_true rfl) (Nat.le_of_ble_eq_true rfl) ?_
              refine j_isubN iX2_fits_112 (by omega) ?_
              refine j_iconst (v := nI 3) iX2_fits_113 (by decide) ?_
              refine j_idivN iX2_fits_114 (by omega) (by omega) (by omega) ?_
              refine j_top (y := nI ((p - (4 + N)) / 3)) (by rfl) ?_
              refine j_istore_n iX2_fits_115 (by decide) rfl ?_
              dsimp only [List.set]
              refine j_iload_n iX2_fits_116 rfl ?_
              refine j_aload_n iX2_fits_117 rfl ?_
              refine j_iconst (v := nI 0) iX2_fits_118 (by decide) ?_
              refine j_V1R okX2_kindPlace lk_X2_33 iX2_fits_119 (by omega) (by repeat (first | assumption | refine wset_ne (by decide) ?_ | exact wset_lt (by (try simp only [List.length_set]); exact wsome (by assumption)))) rfl (c_kindPlaceN h1 0) rfl (Nat.le_of_ble_eq_true rfl) (Nat.le_of_ble_eq_true rfl) ?_
              refine j_isubN iX2_fits_122 (by omega) ?_
              refine j_iconst (v := nI 3) iX2_fits_123 (by decide) ?_
              refine j_iremN iX2_fits_124 (by omega) (by omega) (by omega) ?_
              refine j_top (y := nI ((p - (4 + N)) % 3)) (by rfl) ?_
              refine j_istore iX2_fits_125 (by decide) rfl ?_
              dsimp only [List.set]
              refine j_iload iX2_fits_127 rfl ?_
              refine j_if_neN (tgt := 145) iX2_fits_129 (by decide) (by omega) (fun hno => by exfalso; omega) (fun _ => ?_)
              refine j_iload_n iX2_fits_132 rfl ?_
              refine j_S1R okX2_kindFor lk_X2_43 iX2_fits_133 (by omega) (c_kindFor _ hc) rfl (Nat.le_of_ble_eq_true rfl) (Nat.le_of_ble_eq_true rfl) ?_
              refine j_top (y := nI j) (by rw [hk]; rfl) ?_
              refine j_if_ltN (tgt := 143) iX2_fits_136 (by decide) (by omega) (fun hno => by exfalso; omega) (fun _ => ?_)
              refine j_iconst (v := nI 1) iX2_fits_139 (by decide) ?_
              refine j_goto (tgt := 144) iX2_fits_140 (by decide) ?_
              refine j_iret iX2_fits_144 rfl (by first | rfl | exact nar_bI _ | exact nar_bP) (⟨rfl, rfl⟩)
          · rw [if_neg m0]
            by_cases m1 : (p - (4 + N)) % 3 = 1
            · rw [if_pos m1]
              refine j_iload_n iX2_fits_78 rfl ?_
              refine j_iconst (v := nI 3) iX2_fits_79 (by decide) ?_
              refine j_aload_n iX2_fits_80 rfl ?_
              refine j_get fk_X2_26 iX2_fits_81 (by repeat (first | assumption | refine wset_ne (by decide) ?_ | exact wset_lt (by (try simp only [List.length_set]); exact wsome (by assumption)))) (by rfl) ?_
              refine j_iaddN iX2_fits_84  ?_
              refine j_icmp_geN (tgt := 106) iX2_fits_85 (by decide) (by omega) (by omega) (fun _ => ?_) (fun hno => by exfalso; omega)
              refine j_iload_n iX2_fits_106 rfl ?_
              refine j_aload_n iX2_fits_107 rfl ?_
              refine j_iconst (v := nI 0) iX2_fits_108 (by decide) ?_
              refine j_V1R okX2_kindPlace lk_X2_33 iX2_fits_109 (by omega) (by repeat (first | assumption | refine wset_ne (by decide) ?_ | exact wset_lt (by (try simp only [List.length_set]); exact wsome (by assumption)))) rfl (c_kindPlaceN h1 0) rfl (Nat.le_of_ble_eq_true rfl) (Nat.le_of_ble_eq_true rfl) ?_
              refine j_isubN iX2_fits_112 (by omega) ?_
              refine j_iconst (v := nI 3) iX2_fits_113 (by decide) ?_
              refine j_idivN iX2_fits_114 (by omega) (by omega) (by omega) ?_
              refine j_top (y := nI ((p - (4 + N)) / 3)) (by rfl) ?_
              refine j_istore_n iX2_fits_115 (by decide) rfl ?_
              dsimp only [List.set]
              refine j_iload_n iX2_fits_116 rfl ?_
              refine j_aload_n iX2_fits_117 rfl ?_
              refine j_iconst (v := nI 0) iX2_fits_118 (by decide) ?_
              refine j_V1R okX2_kindPlace lk_X2_33 iX2_fits_119 (by omega) (by repeat (first | assumption | refine wset_ne (by decide) ?_ | exact wset_lt (by (try simp only [List.length_set]); exact wsome (by assumption)))) rfl (c_kindPlaceN h1 0) rfl (Nat.le_of_ble_eq_true rfl) (Nat.le_of_ble_eq_true rfl) ?_
              refine j_isubN iX2_fits_122 (by omega) ?_
              refine j_iconst (v := nI 3) iX2_fits_123 (by decide) ?_
              refine j_iremN iX2_fits_124 (by omega) (by omega) (by omega) ?_
              refine j_top (y := nI ((p - (4 + N)) % 3)) (by rfl) ?_
              refine j_istore iX2_fits_125 (by decide) rfl ?_
              dsimp only [List.set]
              refine j_iload iX2_fits_127 rfl ?_
              refine j_if_neN (tgt := 145) iX2_fits_129 (by decide) (by omega) (fun _ => ?_) (fun hno => by exfalso; omega)
              refine j_iload iX2_fits_145 rfl ?_
              refine j_iconst (v := nI 1) iX2_fits_147 (by decide) ?_
              refine j_icmp_neN (tgt := 157) iX2_fits_148 (by decide) (by omega) (by omega) (fun hno => by exfalso; omega) (fun _ => ?_)
              refine j_aload_n iX2_fits_151 rfl ?_
              refine j_iload_n iX2_fits_152 rfl ?_
              refine j_V1R okX2_isOpenTo lk_X2_53 iX2_fits_153 (by omega) (by repeat (first | assumption | refine wset_ne (by decide) ?_ | exact wset_lt (by (try simp only [List.length_set]); exact wsome (by assumption)))) rfl (c_isOpenTo h1 h8 hsz hN12 hpg _ (by omega)) rfl (Nat.le_of_ble_eq_true rfl) (Nat.le_of_ble_eq_true rfl) ?_
              refine j_iret iX2_fits_156 rfl (by first | rfl | exact nar_bI _ | exact nar_bP) (⟨rfl, rfl⟩)
            · rw [if_neg m1]
              refine j_iload_n iX2_fits_78 rfl ?_
              refine j_iconst (v := nI 3) iX2_fits_79 (by decide) ?_
              refine j_aload_n iX2_fits_80 rfl ?_
              refine j_get fk_X2_26 iX2_fits_81 (by repeat (first | assumption | refine wset_ne (by decide) ?_ | exact wset_lt (by (try simp only [List.length_set]); exact wsome (by assumption)))) (by rfl) ?_
              refine j_iaddN iX2_fits_84  ?_
              refine j_icmp_geN (tgt := 106) iX2_fits_85 (by decide) (by omega) (by omega) (fun _ => ?_) (fun hno => by exfalso; omega)
              refine j_iload_n iX2_fits_106 rfl ?_
              refine j_aload_n iX2_fits_107 rfl ?_
              refine j_iconst (v := nI 0) iX2_fits_108 (by decide) ?_
              refine j_V1R okX2_kindPlace lk_X2_33 iX2_fits_109 (by omega) (by repeat (first | assumption | refine wset_ne (by decide) ?_ | exact wset_lt (by (try simp only [List.length_set]); exact wsome (by assumption)))) rfl (c_kindPlaceN h1 0) rfl (Nat.le_of_ble_eq_true rfl) (Nat.le_of_ble_eq_true rfl) ?_
              refine j_isubN iX2_fits_112 (by omega) ?_
              refine j_iconst (v := nI 3) iX2_fits_113 (by decide) ?_
              refine j_idivN iX2_fits_114 (by omega) (by omega) (by omega) ?_
              refine j_top (y := nI ((p - (4 + N)) / 3)) (by rfl) ?_
              refine j_istore_n iX2_fits_115 (by decide) rfl ?_
              dsimp only [List.set]
              refine j_iload_n iX2_fits_116 rfl ?_
              refine j_aload_n iX2_fits_117 rfl ?_
              refine j_iconst (v := nI 0) iX2_fits_118 (by decide) ?_
              refine j_V1R okX2_kindPlace lk_X2_33 iX2_fits_119 (by omega) (by repeat (first | assumption | refine wset_ne (by decide) ?_ | exact wset_lt (by (try simp only [List.length_set]); exact wsome (by assumption)))) rfl (c_kindPlaceN h1 0) rfl (Nat.le_of_ble_eq_true rfl) (Nat.le_of_ble_eq_true rfl) ?_
              refine j_isubN iX2_fits_122 (by omega) ?_
              refine j_iconst (v := nI 3) iX2_fits_123 (by decide) ?_
              refine j_iremN iX2_fits_124 (by omega) (by omega) (by omega) ?_
              refine j_top (y := nI ((p - (4 + N)) % 3)) (by rfl) ?_
              refine j_istore iX2_fits_125 (by decide) rfl ?_
              dsimp only [List.set]
              refine j_iload iX2_fits_127 rfl ?_
              refine j_if_neN (tgt := 145) iX2_fits_129 (by decide) (by omega) (fun _ => ?_) (fun hno => by exfalso; omega)
              refine j_iload iX2_fits_145 rfl ?_
              refine j_iconst (v := nI 1) iX2_fits_147 (by decide) ?_
              refine j_icmp_neN (tgt := 157) iX2_fits_148 (by decide) (by omega) (by omega) (fun _ => ?_) (fun hno => by exfalso; omega)
              refine j_iload_n iX2_fits_157 rfl ?_
              refine j_bipush (v := nI 44) iX2_fits_158 (by decide) ?_
              refine j_icmp_neN (tgt := 172) iX2_fits_160 (by decide) (by omega) (by omega) (fun h160 => ?_) (fun h160 => ?_)
              · refine j_iconst (v := nI 0) iX2_fits_172 (by decide) ?_
                refine j_iret iX2_fits_173 rfl (by first | rfl | exact nar_bI _ | exact nar_bP) (⟨by first | (rw [decide_eq_true ⟨h160, h165⟩]; rfl) | (rw [decide_eq_false (fun z => h160 z.1)]; rfl) | (rw [decide_eq_false (fun z => absurd z.2 (by omega))]; rfl), rfl⟩)
              · refine j_iload_n iX2_fits_163 rfl ?_
                refine j_iconst (v := nI 3) iX2_fits_164 (by decide) ?_
                refine j_icmp_geN (tgt := 172) iX2_fits_165 (by decide) (by omega) (by omega) (fun h165 => ?_) (fun h165 => ?_)
                · refine j_iconst (v := nI 0) iX2_fits_172 (by decide) ?_
                  refine j_iret iX2_fits_173 rfl (by first | rfl | exact nar_bI _ | exact nar_bP) (⟨by first | (rw [decide_eq_true ⟨h160, h165⟩]; rfl) | (rw [decide_eq_false (fun z => h160 z.1)]; rfl) | (rw [decide_eq_false (fun z => absurd z.2 (by omega))]; rfl), rfl⟩)
                · refine j_iconst (v := nI 1) iX2_fits_168 (by decide) ?_
                  refine j_goto (tgt := 173) iX2_fits_169 (by decide) ?_
                  refine j_iret iX2_fits_173 rfl (by first | rfl | exact nar_bI _ | exact nar_bP) (⟨by first | (rw [decide_eq_true ⟨h160, h165⟩]; rfl) | (rw [decide_eq_false (fun z => h160 z.1)]; rfl) | (rw [decide_eq_false (fun z => absurd z.2 (by omega))]; rfl), rfl⟩)
      refine j_aload_n iX2_fits_0 rfl ?_
      refine j_iload_n iX2_fits_1 rfl ?_
      refine j_V1R okX2_at lk_X2_40 iX2_fits_2 (by omega) (by repeat (first | assumption | refine wset_ne (by decide) ?_ | exact wset_lt (by (try simp only [List.length_set]); exact wsome (by assumption)))) rfl (c_at h1 h8 hsz p (by omega)) rfl (Nat.le_of_ble_eq_true rfl) (Nat.le_of_ble_eq_true rfl) ?_
      rw [hat]
      refine j_istore_n iX2_fits_5 (by decide) rfl ?_
      dsimp only [List.set]
      refine j_iload_n iX2_fits_6 rfl ?_
      refine j_if_neN (tgt := 28) iX2_fits_7 (by decide) (by omega) (fun _ => ?_) (fun hno => by exfalso; omega)
      refine j_iload_n iX2_fits_28 rfl ?_
      refine j_iconst (v := nI 1) iX2_fits_29 (by decide) ?_
      refine j_icmp_neN (tgt := 51) iX2_fits_30 (by decide) (by omega) (by omega) (fun _ => ?_) (fun hno => by exfalso; omega)
      refine j_iload_n iX2_fits_51 rfl ?_
      refine j_iconst (v := nI 2) iX2_fits_52 (by decide) ?_
      refine j_icmp_eqN (tgt := 66) iX2_fits_53 (by decide) (by omega) (by omega) (fun h53 => ?_) (fun h53 => ?_)
      · first | exact J.fg (K66 (Or.inl h53)) (by first | (simp [LF]; done) | (simp [LF, bI]; done)) | exact J.fg (K66 (Or.inr h63)) (by first | (simp [LF]; done) | (simp [LF, bI]; done))
      · refine j_iload_n iX2_fits_56 rfl ?_
        refine j_iconst (v := nI 3) iX2_fits_57 (by decide) ?_
        refine j_aload_n iX2_fits_58 rfl ?_
        refine j_get fk_X2_26 iX2_fits_59 (by repeat (first | assumption | refine wset_ne (by decide) ?_ | exact wset_lt (by (try simp only [List.length_set]); exact wsome (by assumption)))) (by rfl) ?_
        refine j_iaddN iX2_fits_62  ?_
        refine j_icmp_neN (tgt := 78) iX2_fits_63 (by decide) (by omega) (by omega) (fun h63 => ?_) (fun h63 => ?_)
        · exact J.fg (K78 (fun z => z.elim h53 h63)) (by first | (simp [LF]; done) | (simp [LF, bI]; done))
        · first | exact J.fg (K66 (Or.inl h53)) (by first | (simp [LF]; done) | (simp [LF, bI]; done)) | exact J.fg (K66 (Or.inr h63)) (by first | (simp [LF]; done) | (simp [LF, bI]; done))
theorem c_firstFault (h1 : w[1]? = some (oP sz cl)) (h8 : w[8]? = some (nA 30 pg)) (hsz : sz ≤ 30) (hpg : ∀ i, pg i < 127) (hcl : 2 ≤ sz → cl = clF pg sz) : JR 6 mX2_firstFault [.ref 1] w (.int (nI (faultF pg sz))) w := by
  have L : ∀ (n p : Nat), p + n = sz → (∀ q, q < p → fitsF pg (nF pg) q = true) → J 6 mX2_firstFault 2 [.ref 1, .int (nI p)] [] w (fun v u => v = some (.int (nI (ftFrom pg (nF pg) n p))) ∧ u = w) := by
    intro n
    induction n with
    | zero =>
      intro p hp hq
      have e : sz = p := by omega
      subst e
      refine j_iload_n iX2_firstFault_2 rfl ?_
      refine j_aload_n iX2_firstFault_3 rfl ?_
      refine j_get fk_X2_15 iX2_firstFault_4 (by repeat (first | assumption | refine wset_ne (by decide) ?_ | exact wset_lt (by (try simp only [List.length_set]); exact wsome (by assumption)))) (by rfl) ?_
      refine j_icmp_geN (tgt := 26) iX2_firstFault_7 (by decide) (by omega) (by omega) (fun _ => ?_) (fun hno => by exfalso; omega)
      refine j_aload_n iX2_firstFault_26 rfl ?_
      refine j_get fk_X2_15 iX2_firstFault_27 (by repeat (first | assumption | refine wset_ne (by decide) ?_ | exact wset_lt (by (try simp only [List.length_set]); exact wsome (by assumption)))) (by rfl) ?_
      refine j_iret iX2_firstFault_30 rfl (by first | rfl | exact nar_bI _ | exact nar_bP) (⟨rfl, rfl⟩)
    | succ n ih =>
      intro p hp hq
      have hN : 2 ≤ p → cl = nI (nF pg) ∧ nF pg ≤ 12 := fun h2 => by
        have hf := fits_N (hq 0 (by omega)) (hq 1 (by omega))
        exact ⟨(hcl (by omega)).trans (clF_N (by omega) hf.1 hf.2.1), hf.2.2.2.1⟩
      refine j_iload_n iX2_firstFault_2 rfl ?_
      refine j_aload_n iX2_firstFault_3 rfl ?_
      refine j_get fk_X2_15 iX2_firstFault_4 (by repeat (first | assumption | refine wset_ne (by decide) ?_ | exact wset_lt (by (try simp only [List.length_set]); exact wsome (by assumption)))) (by rfl) ?_
      refine j_icmp_geN (tgt := 26) iX2_firstFault_7 (by decide) (by omega) (by omega) (fun hno => by exfalso; omega) (fun _ => ?_)
      refine j_aload_n iX2_firstFault_10 rfl ?_
      refine j_iload_n iX2_firstFault_11 rfl ?_
      refine j_V1R okX2_fits lk_X2_29 iX2_firstFault_12 (by omega) (by repeat (first | assumption | refine wset_ne (by decide) ?_ | exact wset_lt (by (try simp only [List.length_set]); exact wsome (by assumption)))) rfl (c_fits h1 h8 hsz hpg (nF pg) p (by omega) hN) rfl (Nat.le_of_ble_eq_true rfl) (Nat.le_of_ble_eq_true rfl) ?_
      refine j_if_neB (tgt := 20) iX2_firstFault_15 (by decide) (fun h15 => ?_) (fun h15 => ?_)
      · refine j_iincN iX2_firstFault_20 rfl (by decide) rfl ?_
        dsimp only [List.set]
        refine j_goto (tgt := 2) iX2_firstFault_23 (by decide) ?_
        exact (by simpa only [ftFrom, if_pos h15] using ih (p + 1) (by omega) (fun q hq2 => by rcases Nat.lt_succ_iff_lt_or_eq.mp hq2 with z | z; exact hq q z; rw [z]; exact h15))
      · refine j_iload_n iX2_firstFault_18 rfl ?_
        refine j_iret iX2_firstFault_19 rfl (by first | rfl | exact nar_bI _ | exact nar_bP) (⟨by simp only [ftFrom, if_neg (nt h15)], rfl⟩)
  refine j_start (ls := [.ref 1, .null]) rfl ?_
  refine j_iconst (v := nI 0) iX2_firstFault_0 (by decide) ?_
  refine j_istore_n iX2_firstFault_1 (by decide) rfl ?_
  dsimp only [List.set]
  exact L sz 0 (by omega) (fun q hq => absurd hq (Nat.not_lt_zero _))
def wholeF (pg : Nat → Nat) (sz : Nat) : Bool := decide (faultF pg sz = sz ∧ 2 ≤ sz ∧ 4 + nF pg < sz ∧ (sz - (4 + nF pg)) % 3 = 2)
theorem fault_N {pg : Nat → Nat} {sz : Nat} (h : faultF pg sz = sz) (hsz : 2 ≤ sz) : 48 ≤ pg 0 ∧ 48 ≤ pg 1 ∧ 4 ≤ nF pg ∧ nF pg ≤ 12 ∧ 2 ≤ pg 0 - 48 ∧ pg 0 - 48 ≤ 3 ∧ 2 ≤ pg 1 - 48 ∧ pg 1 - 48 ≤ 4 :=
  fits_N (ftFrom_all sz 0 (by rw [Nat.zero_add]; exact h) 0 (Nat.le_refl _) (by omega)) (ftFrom_all sz 0 (by rw [Nat.zero_add]; exact h) 1 (by omega) (by omega))
theorem c_isWhole (h1 : w[1]? = some (oP sz cl)) (h8 : w[8]? = some (nA 30 pg)) (hsz : sz ≤ 30) (hpg : ∀ i, pg i < 127) (hcl : cl = if sz < 2 then nI 0 else clF pg sz) : JR 7 mX2_isWhole [.ref 1] w (.int (bI (wholeF pg sz))) w := by
  have hcl2 : 2 ≤ sz → cl = clF pg sz := fun h => by rw [hcl, if_neg (by omega)]
  have hfl : faultF pg sz ≤ sz := by have := ftFrom_le (pg := pg) (N := nF pg) sz 0; unfold faultF; omega
  refine j_start (ls := [.ref 1, .null]) rfl ?_
  by_cases hf : faultF pg sz = sz
  · by_cases h2 : 2 ≤ sz
    · have hn := fault_N hf h2
      have e : cl = nI (nF pg) := (hcl2 h2).trans (clF_N h2 hn.1 hn.2.1)
      subst e
      by_cases h4 : 4 + nF pg < sz
      · refine j_aload_n iX2_isWhole_0 rfl ?_
        refine j_get fk_X2_15 iX2_isWhole_1 (by repeat (first | assumption | refine wset_ne (by decide) ?_ | exact wset_lt (by (try simp only [List.length_set]); exact wsome (by assumption)))) (by rfl) ?_
        refine j_aload_n iX2_isWhole_4 rfl ?_
        refine j_iconst (v := nI 0) iX2_isWhole_5 (by decide) ?_
        refine j_V1R okX2_kindPlace lk_X2_33 iX2_isWhole_6 (by omega) (by repeat (first | assumption | refine wset_ne (by decide) ?_ | exact wset_lt (by (try simp only [List.length_set]); exact wsome (by assumption)))) rfl (c_kindPlaceN h1 0) rfl (Nat.le_of_ble_eq_true rfl) (Nat.le_of_ble_eq_true rfl) ?_
        refine j_isubN iX2_isWhole_9 (by omega) ?_
        refine j_top (y := nI (sz - (4 + nF pg))) (by rfl) ?_
        refine j_istore_n iX2_isWhole_10 (by decide) rfl ?_
        dsimp only [List.set]
        refine j_aload_n iX2_isWhole_11 rfl ?_
        refine j_V0R okX2_firstFault lk_X2_37 iX2_isWhole_12 (by omega) (by repeat (first | assumption | refine wset_ne (by decide) ?_ | exact wset_lt (by (try simp only [List.length_set]); exact wsome (by assumption)))) rfl (c_firstFault h1 h8 hsz hpg hcl2) rfl (Nat.le_of_ble_eq_true rfl) (Nat.le_of_ble_eq_true rfl) ?_
        refine j_aload_n iX2_isWhole_15 rfl ?_
        refine j_get fk_X2_15 iX2_isWhole_16 (by repeat (first | assumption | refine wset_ne (by decide) ?_ | exact wset_lt (by (try simp only [List.length_set]); exact wsome (by assumption)))) (by rfl) ?_
        refine j_icmp_neN (tgt := 37) iX2_isWhole_19 (by decide) (by omega) (by omega) (fun hno => by exfalso; omega) (fun _ => ?_)
        refine j_iload_n iX2_isWhole_22 rfl ?_
        refine j_if_leN (tgt := 37) iX2_isWhole_23 (by decide) (by omega) (fun hno => by exfalso; omega) (fun _ => ?_)
        refine j_iload_n iX2_isWhole_26 rfl ?_
        refine j_iconst (v := nI 3) iX2_isWhole_27 (by decide) ?_
        refine j_iremN iX2_isWhole_28 (by omega) (by omega) (by omega) ?_
        refine j_iconst (v := nI 2) iX2_isWhole_29 (by decide) ?_
        refine j_icmp_neN (tgt := 37) iX2_isWhole_30 (by decide) (by omega) (by omega) (fun h30 => ?_) (fun h30 => ?_)
        · refine j_iconst (v := nI 0) iX2_isWhole_37 (by decide) ?_
          refine j_iret iX2_isWhole_38 rfl (by first | rfl | exact nar_bI _ | exact nar_bP) (⟨by unfold wholeF; first | (rw [decide_eq_true ⟨hf, h2, h4, h30⟩]; rfl) | (rw [decide_eq_false (fun z => h30 z.2.2.2)]; rfl), rfl⟩)
        · refine j_iconst (v := nI 1) iX2_isWhole_33 (by decide) ?_
          refine j_goto (tgt := 38) iX2_isWhole_34 (by decide) ?_
          refine j_iret iX2_isWhole_38 rfl (by first | rfl | exact nar_bI _ | exact nar_bP) (⟨by unfold wholeF; first | (rw [decide_eq_true ⟨hf, h2, h4, h30⟩]; rfl) | (rw [decide_eq_false (fun z => h30 z.2.2.2)]; rfl), rfl⟩)
      · have hle : nI sz - nI (4 + nF pg) ≤ 0 := by
          by_cases he : sz = 4 + nF pg
          · rw [he, Int32.sub_self]; decide
          · exact Int32.le_of_lt (pk_sneg (by omega) (by omega))
        refine j_aload_n iX2_isWhole_0 rfl ?_
        refine j_get fk_X2_15 iX2_isWhole_1 (by repeat (first | assumption | refine wset_ne (by decide) ?_ | exact wset_lt (by (try simp only [List.length_set]); exact wsome (by assumption)))) (by rfl) ?_
        refine j_aload_n iX2_isWhole_4 rfl ?_
        refine j_iconst (v := nI 0) iX2_isWhole_5 (by decide) ?_
        refine j_V1R okX2_kindPlace lk_X2_33 iX2_isWhole_6 (by omega) (by repeat (first | assumption | refine wset_ne (by decide) ?_ | exact wset_lt (by (try simp only [List.length_set]); exact wsome (by assumption)))) rfl (c_kindPlaceN h1 0) rfl (Nat.le_of_ble_eq_true rfl) (Nat.le_of_ble_eq_true rfl) ?_
        refine j_isub iX2_isWhole_9 ?_
        refine j_top (y := nI sz - nI (4 + nF pg)) (by rfl) ?_
        refine j_istore_n iX2_isWhole_10 (by decide) rfl ?_
        dsimp only [List.set]
        refine j_aload_n iX2_isWhole_11 rfl ?_
        refine j_V0R okX2_firstFault lk_X2_37 iX2_isWhole_12 (by omega) (by repeat (first | assumption | refine wset_ne (by decide) ?_ | exact wset_lt (by (try simp only [List.length_set]); exact wsome (by assumption)))) rfl (c_firstFault h1 h8 hsz hpg hcl2) rfl (Nat.le_of_ble_eq_true rfl) (Nat.le_of_ble_eq_true rfl) ?_
        refine j_aload_n iX2_isWhole_15 rfl ?_
        refine j_get fk_X2_15 iX2_isWhole_16 (by repeat (first | assumption | refine wset_ne (by decide) ?_ | exact wset_lt (by (try simp only [List.length_set]); exact wsome (by assumption)))) (by rfl) ?_
        refine j_icmp_neN (tgt := 37) iX2_isWhole_19 (by decide) (by omega) (by omega) (fun hno => by exfalso; omega) (fun _ => ?_)
        refine j_iload_n iX2_isWhole_22 rfl ?_
        refine j_if_le (tgt := 37) iX2_isWhole_23 (by decide) (fun _ => ?_) (fun hno => by first | exact absurd hno (hle) | exact absurd (hle) hno)
        refine j_iconst (v := nI 0) iX2_isWhole_37 (by decide) ?_
        refine j_iret iX2_isWhole_38 rfl (by first | rfl | exact nar_bI _ | exact nar_bP) (⟨by unfold wholeF; rw [decide_eq_false (fun z => h4 z.2.2.1)]; rfl, rfl⟩)
    · have e : cl = nI 0 := by rw [hcl, if_pos (by omega)]
      subst e
      have hlt : nI sz - nI (4 + 0 + 3 * 0) < 0 := pk_sneg (by decide) (by omega)
      refine j_aload_n iX2_isWhole_0 rfl ?_
      refine j_get fk_X2_15 iX2_isWhole_1 (by repeat (first | assumption | refine wset_ne (by decide) ?_ | exact wset_lt (by (try simp only [List.length_set]); exact wsome (by assumption)))) (by rfl) ?_
      refine j_aload_n iX2_isWhole_4 rfl ?_
      refine j_iconst (v := nI 0) iX2_isWhole_5 (by decide) ?_
      refine j_V1R okX2_kindPlace lk_X2_33 iX2_isWhole_6 (by omega) (by repeat (first | assumption | refine wset_ne (by decide) ?_ | exact wset_lt (by (try simp only [List.length_set]); exact wsome (by assumption)))) rfl (c_kindPlaceN h1 0) rfl (Nat.le_of_ble_eq_true rfl) (Nat.le_of_ble_eq_true rfl) ?_
      refine j_isub iX2_isWhole_9 ?_
      refine j_istore_n iX2_isWhole_10 (by decide) rfl ?_
      dsimp only [List.set]
      refine j_aload_n iX2_isWhole_11 rfl ?_
      refine j_V0R okX2_firstFault lk_X2_37 iX2_isWhole_12 (by omega) (by repeat (first | assumption | refine wset_ne (by decide) ?_ | exact wset_lt (by (try simp only [List.length_set]); exact wsome (by assumption)))) rfl (c_firstFault h1 h8 hsz hpg hcl2) rfl (Nat.le_of_ble_eq_true rfl) (Nat.le_of_ble_eq_true rfl) ?_
      refine j_aload_n iX2_isWhole_15 rfl ?_
      refine j_get fk_X2_15 iX2_isWhole_16 (by repeat (first | assumption | refine wset_ne (by decide) ?_ | exact wset_lt (by (try simp only [List.length_set]); exact wsome (by assumption)))) (by rfl) ?_
      refine j_icmp_neN (tgt := 37) iX2_isWhole_19 (by decide) (by omega) (by omega) (fun hno => by exfalso; omega) (fun _ => ?_)
      refine j_iload_n iX2_isWhole_22 rfl ?_
      refine j_if_le (tgt := 37) iX2_isWhole_23 (by decide) (fun _ => ?_) (fun hno => by first | exact absurd hno (Int32.le_of_lt hlt) | exact absurd (Int32.le_of_lt hlt) hno)
      refine j_iconst (v := nI 0) iX2_isWhole_37 (by decide) ?_
      refine j_iret iX2_isWhole_38 rfl (by first | rfl | exact nar_bI _ | exact nar_bP) (⟨by unfold wholeF; rw [decide_eq_false (fun z => h2 z.2.1)]; rfl, rfl⟩)
  · refine j_aload_n iX2_isWhole_0 rfl ?_
    refine j_get fk_X2_15 iX2_isWhole_1 (by repeat (first | assumption | refine wset_ne (by decide) ?_ | exact wset_lt (by (try simp only [List.length_set]); exact wsome (by assumption)))) (by rfl) ?_
    refine j_aload_n iX2_isWhole_4 rfl ?_
    refine j_iconst (v := nI 0) iX2_isWhole_5 (by decide) ?_
    refine j_V1R okX2_kindPlace lk_X2_33 iX2_isWhole_6 (by omega) (by repeat (first | assumption | refine wset_ne (by decide) ?_ | exact wset_lt (by (try simp only [List.length_set]); exact wsome (by assumption)))) rfl (c_kindPlace h1 (nI 0)) rfl (Nat.le_of_ble_eq_true rfl) (Nat.le_of_ble_eq_true rfl) ?_
    refine j_isub iX2_isWhole_9 ?_
    refine j_istore_n iX2_isWhole_10 (by decide) rfl ?_
    dsimp only [List.set]
    refine j_aload_n iX2_isWhole_11 rfl ?_
    refine j_V0R okX2_firstFault lk_X2_37 iX2_isWhole_12 (by omega) (by repeat (first | assumption | refine wset_ne (by decide) ?_ | exact wset_lt (by (try simp only [List.length_set]); exact wsome (by assumption)))) rfl (c_firstFault h1 h8 hsz hpg hcl2) rfl (Nat.le_of_ble_eq_true rfl) (Nat.le_of_ble_eq_true rfl) ?_
    refine j_aload_n iX2_isWhole_15 rfl ?_
    refine j_get fk_X2_15 iX2_isWhole_16 (by repeat (first | assumption | refine wset_ne (by decide) ?_ | exact wset_lt (by (try simp only [List.length_set]); exact wsome (by assumption)))) (by rfl) ?_
    refine j_icmp_neN (tgt := 37) iX2_isWhole_19 (by decide) (by omega) (by omega) (fun _ => ?_) (fun hno => by exfalso; omega)
    refine j_iconst (v := nI 0) iX2_isWhole_37 (by decide) ?_
    refine j_iret iX2_isWhole_38 rfl (by first | rfl | exact nar_bI _ | exact nar_bP) (⟨by unfold wholeF; rw [decide_eq_false (fun z => hf z.1)]; rfl, rfl⟩)
end
/-! draws -/
abbrev oD (s : Nat) : mE := .inr (0, [.int (nI s)])
def nsd (s : Nat) : Nat := (1103515245 * s + 12345) % 2147483648
theorem nsd_lt (s : Nat) : nsd s < 2 ^ 31 := Nat.mod_lt _ (by decide)
theorem lN_and (a b : Nat) : lN a &&& lN b = lN (a &&& b) := by
  apply Int64.toBitVec_inj.mp
  show BitVec.ofNat 64 a &&& BitVec.ofNat 64 b = BitVec.ofNat 64 (a &&& b)
  exact BitVec.ofNat_and.symm
theorem sdL (s : Nat) : ((1103515245 : Int64) * lN s + 12345) &&& 2147483647 = lN (nsd s) := by
  rw [show (1103515245 : Int64) = lN 1103515245 from rfl, show (12345 : Int64) = lN 12345 from rfl, show (2147483647 : Int64) = lN 2147483647 from rfl, lN_mul, lN_add, lN_and]
  have e : ∀ x : Nat, x &&& 2147483647 = x % 2147483648 := fun x => Nat.and_two_pow_sub_one_eq_mod x 31
  rw [e]
  rfl
theorem c_next {w : mW} {s : Nat} (h7 : w[7]? = some (oD s)) (hs : s < 2 ^ 31) (b : Nat) (hb : 0 < b) (hb2 : b < 2 ^ 31) : JR 0 mX0_next [.ref 7, .int (nI b)] w (.int (nI (nsd s / 65536 % b))) (w.set 7 (oD (nsd s))) := by
  have hn := nsd_lt s
  refine j_start (ls := [.ref 7, .int (nI b)]) rfl ?_
  refine j_aload_n iX0_next_0 rfl ?_
  refine j_ldc2 iX0_next_1 kc_X0_7 ?_
  refine j_aload_n iX0_next_4 rfl ?_
  refine j_get fk_X0_9 iX0_next_5 (by repeat (first | assumption | refine wset_ne (by decide) ?_ | exact wset_lt (by (try simp only [List.length_set]); exact wsome (by assumption)))) (by rfl) ?_
  refine j_i2l iX0_next_8 ?_
  refine j_lmul iX0_next_9 ?_
  refine j_ldc2 iX0_next_10 kc_X0_15 ?_
  refine j_ladd iX0_next_13 ?_
  refine j_ldc2 iX0_next_14 kc_X0_17 ?_
  refine j_land iX0_next_17 ?_
  refine j_l2i iX0_next_18 ?_
  refine j_top (y := nI (nsd s)) (by rw [nI_l hs, sdL, lN_i]) ?_
  refine j_put fk_X0_9 iX0_next_19 (by repeat (first | assumption | refine wset_ne (by decide) ?_ | exact wset_lt (by (try simp only [List.length_set]); exact wsome (by assumption)))) (by intro; rfl) (by intro; rfl) (Nat.le_of_ble_eq_true rfl) ?_
  dsimp only [List.set]
  refine j_iload_n iX0_next_22 rfl ?_
  refine j_if_leN (tgt := 38) iX0_next_23 (by decide) (by omega) (fun hno => by exfalso; omega) (fun _ => ?_)
  refine j_aload_n iX0_next_26 rfl ?_
  refine j_get fk_X0_9 iX0_next_27 (by repeat (first | assumption | refine wset_ne (by decide) ?_ | exact wset_lt (by (try simp only [List.length_set]); exact wsome (by assumption)))) (by rfl) ?_
  refine j_ldc iX0_next_30 kc_X0_19 ?_
  refine j_top (y := nI 65536) (by decide) ?_
  refine j_idivN iX0_next_32 (by omega) (by omega) (by omega) ?_
  refine j_iload_n iX0_next_33 rfl ?_
  refine j_iremN iX0_next_34 (by omega) (by omega) (by omega) ?_
  refine j_goto (tgt := 39) iX0_next_35 (by decide) ?_
  refine j_iret iX0_next_39 rfl (by first | rfl | exact nar_bI _ | exact nar_bP) (⟨rfl, rfl⟩)
theorem c_copy_kept {w : mW} {fr lp lps sn fr2 lp2 lps2 sn2 : Nat} {ks sts sof sso ks2 sts2 sof2 sso2 : Nat → Nat} (ha : w[4]? = some (oS fr2 lp2 lps2 sn2 19 20 21 22)) (hb : w[3]? = some (oS fr lp lps sn 15 16 17 18)) (hs0 : w[15]? = some (nA 4 ks)) (hs1 : w[16]? = some (nA 4 sts)) (hs2 : w[17]? = some (nA 6 sof)) (hs3 : w[18]? = some (nA 6 sso)) (hd0 : w[19]? = some (nA 4 ks2)) (hd1 : w[20]? = some (nA 4 sts2)) (hd2 : w[21]? = some (nA 6 sof2)) (hd3 : w[22]? = some (nA 6 sso2)) :
    JV 0 mX3_copy [.ref 4, .ref 3] w (((((w.set 4 (oS fr lp lps sn 19 20 21 22)).set 19 (nA 4 ks)).set 20 (nA 4 sts)).set 21 (nA 6 sof)).set 22 (nA 6 sso)) := by
  have L2 : ∀ (v : mW), v[3]? = some (oS fr lp lps sn 15 16 17 18) → v[4]? = some (oS fr lp lps sn 19 20 21 22) → v[17]? = some (nA 6 sof) → v[18]? = some (nA 6 sso) → ∀ (x0 x1 : Nat → Nat), v[21]? = some (nA 6 x0) → v[22]? = some (nA 6 x1) →
      ∀ (n i : Nat) (h1 h2 : Nat → Nat), i + n = 6 → (∀ j, j < i → h1 j = sof j) → (∀ j, j < i → h2 j = sso j) → J 0 mX3_copy 71 [.ref 4, .ref 3, .int (nI i)] [] ((v.set 21 (nA 6 h1)).set 22 (nA 6 h2)) (fun r u => r = none ∧ u = (v.set 21 (nA 6 sof)).set 22 (nA 6 sso)) := by
    intro v q1 q2 q3 q4 x0 x1 q5 q6 n
    induction n with
    | zero =>
      intro i h1 h2 hi e1 e2
      refine j_arrN (a := 22) (n := 6) (f := h2) (g := sso) (fun j hj => e2 j (by omega)) (by repeat (first | assumption | refine wset_ne (by decide) ?_ | exact wset_lt (by (try simp only [List.length_set]); exact wsome (by assumption)))) ?_
      rw [wset2, List.set_comm _ _ (show (21 : Nat) ≠ 22 by decide)]
      refine j_arrN (a := 21) (n := 6) (f := h1) (g := sof) (fun j hj => e1 j (by omega)) (by repeat (first | assumption | refine wset_ne (by decide) ?_ | exact wset_lt (by (try simp only [List.length_set]); exact wsome (by assumption)))) ?_
      rw [wset2, List.set_comm _ _ (show (22 : Nat) ≠ 21 by decide)]
      refine j_iload_n iX3_copy_71 rfl ?_
      refine j_bipush (v := nI 6) iX3_copy_72 (by decide) ?_
      refine j_icmp_geN (tgt := 107) iX3_copy_74 (by decide) (by omega) (by omega) (fun _ => ?_) (fun hno => by exfalso; omega)
      refine j_vret iX3_copy_107 rfl (⟨rfl, rfl⟩)
    | succ n ih =>
      intro i h1 h2 hi e1 e2
      have ih2 := ih (i + 1) (un h1 i (sof i)) (un h2 i (sso i)) (by omega) (un_upto e1 rfl) (un_upto e2 rfl)
      refine j_iload_n iX3_copy_71 rfl ?_
      refine j_bipush (v := nI 6) iX3_copy_72 (by decide) ?_
      refine j_icmp_geN (tgt := 107) iX3_copy_74 (by decide) (by omega) (by omega) (fun hno => by exfalso; omega) (fun _ => ?_)
      refine j_aload_n iX3_copy_77 rfl ?_
      refine j_get fk_X3_18 iX3_copy_78 (by repeat (first | assumption | refine wset_ne (by decide) ?_ | exact wset_lt (by (try simp only [List.length_set]); exact wsome (by assumption)))) (by rfl) ?_
      refine j_iload_n iX3_copy_81 rfl ?_
      refine j_aload_n iX3_copy_82 rfl ?_
      refine j_get fk_X3_18 iX3_copy_83 (by repeat (first | assumption | refine wset_ne (by decide) ?_ | exact wset_lt (by (try simp only [List.length_set]); exact wsome (by assumption)))) (by rfl) ?_
      refine j_iload_n iX3_copy_86 rfl ?_
      refine j_ialdN iX3_copy_87 (by repeat (first | assumption | refine wset_ne (by decide) ?_ | exact wset_lt (by (try simp only [List.length_set]); exact wsome (by assumption)))) (by omega) ?_
      refine j_iastN iX3_copy_88 (by repeat (first | assumption | refine wset_ne (by decide) ?_ | exact wset_lt (by (try simp only [List.length_set]); exact wsome (by assumption)))) (by omega) ?_
      refine j_aload_n iX3_copy_89 rfl ?_
      refine j_get fk_X3_21 iX3_copy_90 (by repeat (first | assumption | refine wset_ne (by decide) ?_ | exact wset_lt (by (try simp only [List.length_set]); exact wsome (by assumption)))) (by rfl) ?_
      refine j_iload_n iX3_copy_93 rfl ?_
      refine j_aload_n iX3_copy_94 rfl ?_
      refine j_get fk_X3_21 iX3_copy_95 (by repeat (first | assumption | refine wset_ne (by decide) ?_ | exact wset_lt (by (try simp only [List.length_set]); exact wsome (by assumption)))) (by rfl) ?_
      refine j_iload_n iX3_copy_98 rfl ?_
      refine j_ialdN iX3_copy_99 (by repeat (first | assumption | refine wset_ne (by decide) ?_ | exact wset_lt (by (try simp only [List.length_set]); exact wsome (by assumption)))) (by omega) ?_
      refine j_iastN iX3_copy_100 (by repeat (first | assumption | refine wset_ne (by decide) ?_ | exact wset_lt (by (try simp only [List.length_set]); exact wsome (by assumption)))) (by omega) ?_
      refine j_iincN iX3_copy_101 rfl (by decide) rfl ?_
      dsimp only [List.set]
      refine j_goto (tgt := 71) iX3_copy_104 (by decide) ?_
      rw [List.set_comm _ _ (show (22 : Nat) ≠ 21 by decide), wset2, wset2]; exact ih2
  have L1 : ∀ (v : mW), v[3]? = some (oS fr lp lps sn 15 16 17 18) → v[4]? = some (oS fr lp lps sn 19 20 21 22) → v[15]? = some (nA 4 ks) → v[16]? = some (nA 4 sts) → v[17]? = some (nA 6 sof) → v[18]? = some (nA 6 sso) → ∀ (x0 x1 x2 x3 : Nat → Nat), v[19]? = some (nA 4 x0) → v[20]? = some (nA 4 x1) → v[21]? = some (nA 6 x2) → v[22]? = some (nA 6 x3) →
      ∀ (n i : Nat) (h1 h2 : Nat → Nat), i + n = 4 → (∀ j, j < i → h1 j = ks j) → (∀ j, j < i → h2 j = sts j) → J 0 mX3_copy 34 [.ref 4, .ref 3, .int (nI i)] [] ((v.set 19 (nA 4 h1)).set 20 (nA 4 h2)) (fun r u => r = none ∧ u = (((v.set 19 (nA 4 ks)).set 20 (nA 4 sts)).set 21 (nA 6 sof)).set 22 (nA 6 sso)) := by
    intro v q1 q2 q3 q4 q5 q6 x0 x1 x2 x3 p0 p1 p2 p3 n
    induction n with
    | zero =>
      intro i h1 h2 hi e1 e2
      refine j_arrN (a := 20) (n := 4) (f := h2) (g := sts) (fun j hj => e2 j (by omega)) (by repeat (first | assumption | refine wset_ne (by decide) ?_ | exact wset_lt (by (try simp only [List.length_set]); exact wsome (by assumption)))) ?_
      rw [wset2, List.set_comm _ _ (show (19 : Nat) ≠ 20 by decide)]
      refine j_arrN (a := 19) (n := 4) (f := h1) (g := ks) (fun j hj => e1 j (by omega)) (by repeat (first | assumption | refine wset_ne (by decide) ?_ | exact wset_lt (by (try simp only [List.length_set]); exact wsome (by assumption)))) ?_
      rw [wset2, List.set_comm _ _ (show (20 : Nat) ≠ 19 by decide)]
      have z2 : ((v.set 19 (nA 4 ks)).set 20 (nA 4 sts))[21]? = some (nA 6 x2) := (by repeat (first | assumption | refine wset_ne (by decide) ?_ | exact wset_lt (by (try simp only [List.length_set]); exact wsome (by assumption))))
      have z3 : ((v.set 19 (nA 4 ks)).set 20 (nA 4 sts))[22]? = some (nA 6 x3) := (by repeat (first | assumption | refine wset_ne (by decide) ?_ | exact wset_lt (by (try simp only [List.length_set]); exact wsome (by assumption))))
      refine j_iload_n iX3_copy_34 rfl ?_
      refine j_iconst (v := nI 4) iX3_copy_35 (by decide) ?_
      refine j_icmp_geN (tgt := 69) iX3_copy_36 (by decide) (by omega) (by omega) (fun _ => ?_) (fun hno => by exfalso; omega)
      refine j_iconst (v := nI 0) iX3_copy_69 (by decide) ?_
      refine j_istore_n iX3_copy_70 (by decide) rfl ?_
      dsimp only [List.set]
      exact (by have := L2 ((v.set 19 (nA 4 ks)).set 20 (nA 4 sts)) (by repeat (first | assumption | refine wset_ne (by decide) ?_ | exact wset_lt (by (try simp only [List.length_set]); exact wsome (by assumption)))) (by repeat (first | assumption | refine wset_ne (by decide) ?_ | exact wset_lt (by (try simp only [List.length_set]); exact wsome (by assumption)))) (by repeat (first | assumption | refine wset_ne (by decide) ?_ | exact wset_lt (by (try simp only [List.length_set]); exact wsome (by assumption)))) (by repeat (first | assumption | refine wset_ne (by decide) ?_ | exact wset_lt (by (try simp only [List.length_set]); exact wsome (by assumption)))) x2 x3 z2 z3 6 0 x2 x3 rfl (fun j hj => absurd hj (Nat.not_lt_zero _)) (fun j hj => absurd hj (Nat.not_lt_zero _)); rw [wset_eq z2, wset_eq z3] at this; exact this)
    | succ n ih =>
      intro i h1 h2 hi e1 e2
      have ih2 := ih (i + 1) (un h1 i (ks i)) (un h2 i (sts i)) (by omega) (un_upto e1 rfl) (un_upto e2 rfl)
      refine j_iload_n iX3_copy_34 rfl ?_
      refine j_iconst (v := nI 4) iX3_copy_35 (by decide) ?_
      refine j_icmp_geN (tgt := 69) iX3_copy_36 (by decide) (by omega) (by omega) (fun hno => by exfalso; omega) (fun _ => ?_)
      refine j_aload_n iX3_copy_39 rfl ?_
      refine j_get fk_X3_9 iX3_copy_40 (by repeat (first | assumption | refine wset_ne (by decide) ?_ | exact wset_lt (by (try simp only [List.length_set]); exact wsome (by assumption)))) (by rfl) ?_
      refine j_iload_n iX3_copy_43 rfl ?_
      refine j_aload_n iX3_copy_44 rfl ?_
      refine j_get fk_X3_9 iX3_copy_45 (by repeat (first | assumption | refine wset_ne (by decide) ?_ | exact wset_lt (by (try simp only [List.length_set]); exact wsome (by assumption)))) (by rfl) ?_
      refine j_iload_n iX3_copy_48 rfl ?_
      refine j_ialdN iX3_copy_49 (by repeat (first | assumption | refine wset_ne (by decide) ?_ | exact wset_lt (by (try simp only [List.length_set]); exact wsome (by assumption)))) (by omega) ?_
      refine j_iastN iX3_copy_50 (by repeat (first | assumption | refine wset_ne (by decide) ?_ | exact wset_lt (by (try simp only [List.length_set]); exact wsome (by assumption)))) (by omega) ?_
      refine j_aload_n iX3_copy_51 rfl ?_
      refine j_get fk_X3_15 iX3_copy_52 (by repeat (first | assumption | refine wset_ne (by decide) ?_ | exact wset_lt (by (try simp only [List.length_set]); exact wsome (by assumption)))) (by rfl) ?_
      refine j_iload_n iX3_copy_55 rfl ?_
      refine j_aload_n iX3_copy_56 rfl ?_
      refine j_get fk_X3_15 iX3_copy_57 (by repeat (first | assumption | refine wset_ne (by decide) ?_ | exact wset_lt (by (try simp only [List.length_set]); exact wsome (by assumption)))) (by rfl) ?_
      refine j_iload_n iX3_copy_60 rfl ?_
      refine j_ialdN iX3_copy_61 (by repeat (first | assumption | refine wset_ne (by decide) ?_ | exact wset_lt (by (try simp only [List.length_set]); exact wsome (by assumption)))) (by omega) ?_
      refine j_iastN iX3_copy_62 (by repeat (first | assumption | refine wset_ne (by decide) ?_ | exact wset_lt (by (try simp only [List.length_set]); exact wsome (by assumption)))) (by omega) ?_
      refine j_iincN iX3_copy_63 rfl (by decide) rfl ?_
      dsimp only [List.set]
      refine j_goto (tgt := 34) iX3_copy_66 (by decide) ?_
      rw [List.set_comm _ _ (show (20 : Nat) ≠ 19 by decide), wset2, wset2]; exact ih2
  refine j_start (ls := [.ref 4, .ref 3, .null]) rfl ?_
  have y0 : (w.set 4 (oS fr lp lps sn 19 20 21 22))[19]? = some (nA 4 ks2) := (by repeat (first | assumption | refine wset_ne (by decide) ?_ | exact wset_lt (by (try simp only [List.length_set]); exact wsome (by assumption))))
  have y1 : (w.set 4 (oS fr lp lps sn 19 20 21 22))[20]? = some (nA 4 sts2) := (by repeat (first | assumption | refine wset_ne (by decide) ?_ | exact wset_lt (by (try simp only [List.length_set]); exact wsome (by assumption))))
  refine j_aload_n iX3_copy_0 rfl ?_
  refine j_aload_n iX3_copy_1 rfl ?_
  refine j_get fk_X3_32 iX3_copy_2 (by repeat (first | assumption | refine wset_ne (by decide) ?_ | exact wset_lt (by (try simp only [List.length_set]); exact wsome (by assumption)))) (by rfl) ?_
  refine j_put fk_X3_32 iX3_copy_5 (by repeat (first | assumption | refine wset_ne (by decide) ?_ | exact wset_lt (by (try simp only [List.length_set]); exact wsome (by assumption)))) (by intro; rfl) (by intro; rfl) (Nat.le_of_ble_eq_true rfl) ?_
  dsimp only [List.set]
  refine j_aload_n iX3_copy_8 rfl ?_
  refine j_aload_n iX3_copy_9 rfl ?_
  refine j_get fk_X3_24 iX3_copy_10 (by repeat (first | assumption | refine wset_ne (by decide) ?_ | exact wset_lt (by (try simp only [List.length_set]); exact wsome (by assumption)))) (by rfl) ?_
  refine j_put fk_X3_24 iX3_copy_13 (by repeat (first | assumption | refine wset_ne (by decide) ?_ | exact wset_lt (by (try simp only [List.length_set]); exact wsome (by assumption)))) (by intro; rfl) (by intro; rfl) (Nat.le_of_ble_eq_true rfl) ?_
  dsimp only [List.set]
  refine j_aload_n iX3_copy_16 rfl ?_
  refine j_aload_n iX3_copy_17 rfl ?_
  refine j_get fk_X3_38 iX3_copy_18 (by repeat (first | assumption | refine wset_ne (by decide) ?_ | exact wset_lt (by (try simp only [List.length_set]); exact wsome (by assumption)))) (by rfl) ?_
  refine j_put fk_X3_38 iX3_copy_21 (by repeat (first | assumption | refine wset_ne (by decide) ?_ | exact wset_lt (by (try simp only [List.length_set]); exact wsome (by assumption)))) (by intro; rfl) (by intro; rfl) (Nat.le_of_ble_eq_true rfl) ?_
  dsimp only [List.set]
  refine j_aload_n iX3_copy_24 rfl ?_
  refine j_aload_n iX3_copy_25 rfl ?_
  refine j_get fk_X3_35 iX3_copy_26 (by repeat (first | assumption | refine wset_ne (by decide) ?_ | exact wset_lt (by (try simp only [List.length_set]); exact wsome (by assumption)))) (by rfl) ?_
  refine j_put fk_X3_35 iX3_copy_29 (by repeat (first | assumption | refine wset_ne (by decide) ?_ | exact wset_lt (by (try simp only [List.length_set]); exact wsome (by assumption)))) (by intro; rfl) (by intro; rfl) (Nat.le_of_ble_eq_true rfl) ?_
  dsimp only [List.set]
  rw [wset2, wset2, wset2]
  refine j_iconst (v := nI 0) iX3_copy_32 (by decide) ?_
  refine j_istore_n iX3_copy_33 (by decide) rfl ?_
  dsimp only [List.set]
  exact (by have := L1 (w.set 4 (oS fr lp lps sn 19 20 21 22)) (by repeat (first | assumption | refine wset_ne (by decide) ?_ | exact wset_lt (by (try simp only [List.length_set]); exact wsome (by assumption)))) (by repeat (first | assumption | refine wset_ne (by decide) ?_ | exact wset_lt (by (try simp only [List.length_set]); exact wsome (by assumption)))) (by repeat (first | assumption | refine wset_ne (by decide) ?_ | exact wset_lt (by (try simp only [List.length_set]); exact wsome (by assumption)))) (by repeat (first | assumption | refine wset_ne (by decide) ?_ | exact wset_lt (by (try simp only [List.length_set]); exact wsome (by assumption)))) (by repeat (first | assumption | refine wset_ne (by decide) ?_ | exact wset_lt (by (try simp only [List.length_set]); exact wsome (by assumption)))) (by repeat (first | assumption | refine wset_ne (by decide) ?_ | exact wset_lt (by (try simp only [List.length_set]); exact wsome (by assumption)))) ks2 sts2 sof2 sso2 y0 y1 (by repeat (first | assumption | refine wset_ne (by decide) ?_ | exact wset_lt (by (try simp only [List.length_set]); exact wsome (by assumption)))) (by repeat (first | assumption | refine wset_ne (by decide) ?_ | exact wset_lt (by (try simp only [List.length_set]); exact wsome (by assumption)))) 4 0 ks2 sts2 rfl (fun j hj => absurd hj (Nat.not_lt_zero _)) (fun j hj => absurd hj (Nat.not_lt_zero _)); rw [wset_eq y0, wset_eq y1] at this; exact this)
theorem c_copy_back {w : mW} {fr lp lps sn fr2 lp2 lps2 sn2 : Nat} {ks sts sof sso ks2 sts2 sof2 sso2 : Nat → Nat} (ha : w[3]? = some (oS fr2 lp2 lps2 sn2 15 16 17 18)) (hb : w[4]? = some (oS fr lp lps sn 19 20 21 22)) (hs0 : w[19]? = some (nA 4 ks)) (hs1 : w[20]? = some (nA 4 sts)) (hs2 : w[21]? = some (nA 6 sof)) (hs3 : w[22]? = some (nA 6 sso)) (hd0 : w[15]? = some (nA 4 ks2)) (hd1 : w[16]? = some (nA 4 sts2)) (hd2 : w[17]? = some (nA 6 sof2)) (hd3 : w[18]? = some (nA 6 sso2)) :
    JV 0 mX3_copy [.ref 3, .ref 4] w (((((w.set 3 (oS fr lp lps sn 15 16 17 18)).set 15 (nA 4 ks)).set 16 (nA 4 sts)).set 17 (nA 6 sof)).set 18 (nA 6 sso)) := by
  have L2 : ∀ (v : mW), v[4]? = some (oS fr lp lps sn 19 20 21 22) → v[3]? = some (oS fr lp lps sn 15 16 17 18) → v[21]? = some (nA 6 sof) → v[22]? = some (nA 6 sso) → ∀ (x0 x1 : Nat → Nat), v[17]? = some (nA 6 x0) → v[18]? = some (nA 6 x1) →
      ∀ (n i : Nat) (h1 h2 : Nat → Nat), i + n = 6 → (∀ j, j < i → h1 j = sof j) → (∀ j, j < i → h2 j = sso j) → J 0 mX3_copy 71 [.ref 3, .ref 4, .int (nI i)] [] ((v.set 17 (nA 6 h1)).set 18 (nA 6 h2)) (fun r u => r = none ∧ u = (v.set 17 (nA 6 sof)).set 18 (nA 6 sso)) := by
    intro v q1 q2 q3 q4 x0 x1 q5 q6 n
    induction n with
    | zero =>
      intro i h1 h2 hi e1 e2
      refine j_arrN (a := 18) (n := 6) (f := h2) (g := sso) (fun j hj => e2 j (by omega)) (by repeat (first | assumption | refine wset_ne (by decide) ?_ | exact wset_lt (by (try simp only [List.length_set]); exact wsome (by assumption)))) ?_
      rw [wset2, List.set_comm _ _ (show (17 : Nat) ≠ 18 by decide)]
      refine j_arrN (a := 17) (n := 6) (f := h1) (g := sof) (fun j hj => e1 j (by omega)) (by repeat (first | assumption | refine wset_ne (by decide) ?_ | exact wset_lt (by (try simp only [List.length_set]); exact wsome (by assumption)))) ?_
      rw [wset2, List.set_comm _ _ (show (18 : Nat) ≠ 17 by decide)]
      refine j_iload_n iX3_copy_71 rfl ?_
      refine j_bipush (v := nI 6) iX3_copy_72 (by decide) ?_
      refine j_icmp_geN (tgt := 107) iX3_copy_74 (by decide) (by omega) (by omega) (fun _ => ?_) (fun hno => by exfalso; omega)
      refine j_vret iX3_copy_107 rfl (⟨rfl, rfl⟩)
    | succ n ih =>
      intro i h1 h2 hi e1 e2
      have ih2 := ih (i + 1) (un h1 i (sof i)) (un h2 i (sso i)) (by omega) (un_upto e1 rfl) (un_upto e2 rfl)
      refine j_iload_n iX3_copy_71 rfl ?_
      refine j_bipush (v := nI 6) iX3_copy_72 (by decide) ?_
      refine j_icmp_geN (tgt := 107) iX3_copy_74 (by decide) (by omega) (by omega) (fun hno => by exfalso; omega) (fun _ => ?_)
      refine j_aload_n iX3_copy_77 rfl ?_
      refine j_get fk_X3_18 iX3_copy_78 (by repeat (first | assumption | refine wset_ne (by decide) ?_ | exact wset_lt (by (try simp only [List.length_set]); exact wsome (by assumption)))) (by rfl) ?_
      refine j_iload_n iX3_copy_81 rfl ?_
      refine j_aload_n iX3_copy_82 rfl ?_
      refine j_get fk_X3_18 iX3_copy_83 (by repeat (first | assumption | refine wset_ne (by decide) ?_ | exact wset_lt (by (try simp only [List.length_set]); exact wsome (by assumption)))) (by rfl) ?_
      refine j_iload_n iX3_copy_86 rfl ?_
      refine j_ialdN iX3_copy_87 (by repeat (first | assumption | refine wset_ne (by decide) ?_ | exact wset_lt (by (try simp only [List.length_set]); exact wsome (by assumption)))) (by omega) ?_
      refine j_iastN iX3_copy_88 (by repeat (first | assumption | refine wset_ne (by decide) ?_ | exact wset_lt (by (try simp only [List.length_set]); exact wsome (by assumption)))) (by omega) ?_
      refine j_aload_n iX3_copy_89 rfl ?_
      refine j_get fk_X3_21 iX3_copy_90 (by repeat (first | assumption | refine wset_ne (by decide) ?_ | exact wset_lt (by (try simp only [List.length_set]); exact wsome (by assumption)))) (by rfl) ?_
      refine j_iload_n iX3_copy_93 rfl ?_
      refine j_aload_n iX3_copy_94 rfl ?_
      refine j_get fk_X3_21 iX3_copy_95 (by repeat (first | assumption | refine wset_ne (by decide) ?_ | exact wset_lt (by (try simp only [List.length_set]); exact wsome (by assumption)))) (by rfl) ?_
      refine j_iload_n iX3_copy_98 rfl ?_
      refine j_ialdN iX3_copy_99 (by repeat (first | assumption | refine wset_ne (by decide) ?_ | exact wset_lt (by (try simp only [List.length_set]); exact wsome (by assumption)))) (by omega) ?_
      refine j_iastN iX3_copy_100 (by repeat (first | assumption | refine wset_ne (by decide) ?_ | exact wset_lt (by (try simp only [List.length_set]); exact wsome (by assumption)))) (by omega) ?_
      refine j_iincN iX3_copy_101 rfl (by decide) rfl ?_
      dsimp only [List.set]
      refine j_goto (tgt := 71) iX3_copy_104 (by decide) ?_
      rw [List.set_comm _ _ (show (18 : Nat) ≠ 17 by decide), wset2, wset2]; exact ih2
  have L1 : ∀ (v : mW), v[4]? = some (oS fr lp lps sn 19 20 21 22) → v[3]? = some (oS fr lp lps sn 15 16 17 18) → v[19]? = some (nA 4 ks) → v[20]? = some (nA 4 sts) → v[21]? = some (nA 6 sof) → v[22]? = some (nA 6 sso) → ∀ (x0 x1 x2 x3 : Nat → Nat), v[15]? = some (nA 4 x0) → v[16]? = some (nA 4 x1) → v[17]? = some (nA 6 x2) → v[18]? = some (nA 6 x3) →
      ∀ (n i : Nat) (h1 h2 : Nat → Nat), i + n = 4 → (∀ j, j < i → h1 j = ks j) → (∀ j, j < i → h2 j = sts j) → J 0 mX3_copy 34 [.ref 3, .ref 4, .int (nI i)] [] ((v.set 15 (nA 4 h1)).set 16 (nA 4 h2)) (fun r u => r = none ∧ u = (((v.set 15 (nA 4 ks)).set 16 (nA 4 sts)).set 17 (nA 6 sof)).set 18 (nA 6 sso)) := by
    intro v q1 q2 q3 q4 q5 q6 x0 x1 x2 x3 p0 p1 p2 p3 n
    induction n with
    | zero =>
      intro i h1 h2 hi e1 e2
      refine j_arrN (a := 16) (n := 4) (f := h2) (g := sts) (fun j hj => e2 j (by omega)) (by repeat (first | assumption | refine wset_ne (by decide) ?_ | exact wset_lt (by (try simp only [List.length_set]); exact wsome (by assumption)))) ?_
      rw [wset2, List.set_comm _ _ (show (15 : Nat) ≠ 16 by decide)]
      refine j_arrN (a := 15) (n := 4) (f := h1) (g := ks) (fun j hj => e1 j (by omega)) (by repeat (first | assumption | refine wset_ne (by decide) ?_ | exact wset_lt (by (try simp only [List.length_set]); exact wsome (by assumption)))) ?_
      rw [wset2, List.set_comm _ _ (show (16 : Nat) ≠ 15 by decide)]
      have z2 : ((v.set 15 (nA 4 ks)).set 16 (nA 4 sts))[17]? = some (nA 6 x2) := (by repeat (first | assumption | refine wset_ne (by decide) ?_ | exact wset_lt (by (try simp only [List.length_set]); exact wsome (by assumption))))
      have z3 : ((v.set 15 (nA 4 ks)).set 16 (nA 4 sts))[18]? = some (nA 6 x3) := (by repeat (first | assumption | refine wset_ne (by decide) ?_ | exact wset_lt (by (try simp only [List.length_set]); exact wsome (by assumption))))
      refine j_iload_n iX3_copy_34 rfl ?_
      refine j_iconst (v := nI 4) iX3_copy_35 (by decide) ?_
      refine j_icmp_geN (tgt := 69) iX3_copy_36 (by decide) (by omega) (by omega) (fun _ => ?_) (fun hno => by exfalso; omega)
      refine j_iconst (v := nI 0) iX3_copy_69 (by decide) ?_
      refine j_istore_n iX3_copy_70 (by decide) rfl ?_
      dsimp only [List.set]
      exact (by have := L2 ((v.set 15 (nA 4 ks)).set 16 (nA 4 sts)) (by repeat (first | assumption | refine wset_ne (by decide) ?_ | exact wset_lt (by (try simp only [List.length_set]); exact wsome (by assumption)))) (by repeat (first | assumption | refine wset_ne (by decide) ?_ | exact wset_lt (by (try simp only [List.length_set]); exact wsome (by assumption)))) (by repeat (first | assumption | refine wset_ne (by decide) ?_ | exact wset_lt (by (try simp only [List.length_set]); exact wsome (by assumption)))) (by repeat (first | assumption | refine wset_ne (by decide) ?_ | exact wset_lt (by (try simp only [List.length_set]); exact wsome (by assumption)))) x2 x3 z2 z3 6 0 x2 x3 rfl (fun j hj => absurd hj (Nat.not_lt_zero _)) (fun j hj => absurd hj (Nat.not_lt_zero _)); rw [wset_eq z2, wset_eq z3] at this; exact this)
    | succ n ih =>
      intro i h1 h2 hi e1 e2
      have ih2 := ih (i + 1) (un h1 i (ks i)) (un h2 i (sts i)) (by omega) (un_upto e1 rfl) (un_upto e2 rfl)
      refine j_iload_n iX3_copy_34 rfl ?_
      refine j_iconst (v := nI 4) iX3_copy_35 (by decide) ?_
      refine j_icmp_geN (tgt := 69) iX3_copy_36 (by decide) (by omega) (by omega) (fun hno => by exfalso; omega) (fun _ => ?_)
      refine j_aload_n iX3_copy_39 rfl ?_
      refine j_get fk_X3_9 iX3_copy_40 (by repeat (first | assumption | refine wset_ne (by decide) ?_ | exact wset_lt (by (try simp only [List.length_set]); exact wsome (by assumption)))) (by rfl) ?_
      refine j_iload_n iX3_copy_43 rfl ?_
      refine j_aload_n iX3_copy_44 rfl ?_
      refine j_get fk_X3_9 iX3_copy_45 (by repeat (first | assumption | refine wset_ne (by decide) ?_ | exact wset_lt (by (try simp only [List.length_set]); exact wsome (by assumption)))) (by rfl) ?_
      refine j_iload_n iX3_copy_48 rfl ?_
      refine j_ialdN iX3_copy_49 (by repeat (first | assumption | refine wset_ne (by decide) ?_ | exact wset_lt (by (try simp only [List.length_set]); exact wsome (by assumption)))) (by omega) ?_
      refine j_iastN iX3_copy_50 (by repeat (first | assumption | refine wset_ne (by decide) ?_ | exact wset_lt (by (try simp only [List.length_set]); exact wsome (by assumption)))) (by omega) ?_
      refine j_aload_n iX3_copy_51 rfl ?_
      refine j_get fk_X3_15 iX3_copy_52 (by repeat (first | assumption | refine wset_ne (by decide) ?_ | exact wset_lt (by (try simp only [List.length_set]); exact wsome (by assumption)))) (by rfl) ?_
      refine j_iload_n iX3_copy_55 rfl ?_
      refine j_aload_n iX3_copy_56 rfl ?_
      refine j_get fk_X3_15 iX3_copy_57 (by repeat (first | assumption | refine wset_ne (by decide) ?_ | exact wset_lt (by (try simp only [List.length_set]); exact wsome (by assumption)))) (by rfl) ?_
      refine j_iload_n iX3_copy_60 rfl ?_
      refine j_ialdN iX3_copy_61 (by repeat (first | assumption | refine wset_ne (by decide) ?_ | exact wset_lt (by (try simp only [List.length_set]); exact wsome (by assumption)))) (by omega) ?_
      refine j_iastN iX3_copy_62 (by repeat (first | assumption | refine wset_ne (by decide) ?_ | exact wset_lt (by (try simp only [List.length_set]); exact wsome (by assumption)))) (by omega) ?_
      refine j_iincN iX3_copy_63 rfl (by decide) rfl ?_
      dsimp only [List.set]
      refine j_goto (tgt := 34) iX3_copy_66 (by decide) ?_
      rw [List.set_comm _ _ (show (16 : Nat) ≠ 15 by decide), wset2, wset2]; exact ih2
  refine j_start (ls := [.ref 3, .ref 4, .null]) rfl ?_
  have y0 : (w.set 3 (oS fr lp lps sn 15 16 17 18))[15]? = some (nA 4 ks2) := (by repeat (first | assumption | refine wset_ne (by decide) ?_ | exact wset_lt (by (try simp only [List.length_set]); exact wsome (by assumption))))
  have y1 : (w.set 3 (oS fr lp lps sn 15 16 17 18))[16]? = some (nA 4 sts2) := (by repeat (first | assumption | refine wset_ne (by decide) ?_ | exact wset_lt (by (try simp only [List.length_set]); exact wsome (by assumption))))
  refine j_aload_n iX3_copy_0 rfl ?_
  refine j_aload_n iX3_copy_1 rfl ?_
  refine j_get fk_X3_32 iX3_copy_2 (by repeat (first | assumption | refine wset_ne (by decide) ?_ | exact wset_lt (by (try simp only [List.length_set]); exact wsome (by assumption)))) (by rfl) ?_
  refine j_put fk_X3_32 iX3_copy_5 (by repeat (first | assumption | refine wset_ne (by decide) ?_ | exact wset_lt (by (try simp only [List.length_set]); exact wsome (by assumption)))) (by intro; rfl) (by intro; rfl) (Nat.le_of_ble_eq_true rfl) ?_
  dsimp only [List.set]
  refine j_aload_n iX3_copy_8 rfl ?_
  refine j_aload_n iX3_copy_9 rfl ?_
  refine j_get fk_X3_24 iX3_copy_10 (by repeat (first | assumption | refine wset_ne (by decide) ?_ | exact wset_lt (by (try simp only [List.length_set]); exact wsome (by assumption)))) (by rfl) ?_
  refine j_put fk_X3_24 iX3_copy_13 (by repeat (first | assumption | refine wset_ne (by decide) ?_ | exact wset_lt (by (try simp only [List.length_set]); exact wsome (by assumption)))) (by intro; rfl) (by intro; rfl) (Nat.le_of_ble_eq_true rfl) ?_
  dsimp only [List.set]
  refine j_aload_n iX3_copy_16 rfl ?_
  refine j_aload_n iX3_copy_17 rfl ?_
  refine j_get fk_X3_38 iX3_copy_18 (by repeat (first | assumption | refine wset_ne (by decide) ?_ | exact wset_lt (by (try simp only [List.length_set]); exact wsome (by assumption)))) (by rfl) ?_
  refine j_put fk_X3_38 iX3_copy_21 (by repeat (first | assumption | refine wset_ne (by decide) ?_ | exact wset_lt (by (try simp only [List.length_set]); exact wsome (by assumption)))) (by intro; rfl) (by intro; rfl) (Nat.le_of_ble_eq_true rfl) ?_
  dsimp only [List.set]
  refine j_aload_n iX3_copy_24 rfl ?_
  refine j_aload_n iX3_copy_25 rfl ?_
  refine j_get fk_X3_35 iX3_copy_26 (by repeat (first | assumption | refine wset_ne (by decide) ?_ | exact wset_lt (by (try simp only [List.length_set]); exact wsome (by assumption)))) (by rfl) ?_
  refine j_put fk_X3_35 iX3_copy_29 (by repeat (first | assumption | refine wset_ne (by decide) ?_ | exact wset_lt (by (try simp only [List.length_set]); exact wsome (by assumption)))) (by intro; rfl) (by intro; rfl) (Nat.le_of_ble_eq_true rfl) ?_
  dsimp only [List.set]
  rw [wset2, wset2, wset2]
  refine j_iconst (v := nI 0) iX3_copy_32 (by decide) ?_
  refine j_istore_n iX3_copy_33 (by decide) rfl ?_
  dsimp only [List.set]
  exact (by have := L1 (w.set 3 (oS fr lp lps sn 15 16 17 18)) (by repeat (first | assumption | refine wset_ne (by decide) ?_ | exact wset_lt (by (try simp only [List.length_set]); exact wsome (by assumption)))) (by repeat (first | assumption | refine wset_ne (by decide) ?_ | exact wset_lt (by (try simp only [List.length_set]); exact wsome (by assumption)))) (by repeat (first | assumption | refine wset_ne (by decide) ?_ | exact wset_lt (by (try simp only [List.length_set]); exact wsome (by assumption)))) (by repeat (first | assumption | refine wset_ne (by decide) ?_ | exact wset_lt (by (try simp only [List.length_set]); exact wsome (by assumption)))) (by repeat (first | assumption | refine wset_ne (by decide) ?_ | exact wset_lt (by (try simp only [List.length_set]); exact wsome (by assumption)))) (by repeat (first | assumption | refine wset_ne (by decide) ?_ | exact wset_lt (by (try simp only [List.length_set]); exact wsome (by assumption)))) ks2 sts2 sof2 sso2 y0 y1 (by repeat (first | assumption | refine wset_ne (by decide) ?_ | exact wset_lt (by (try simp only [List.length_set]); exact wsome (by assumption)))) (by repeat (first | assumption | refine wset_ne (by decide) ?_ | exact wset_lt (by (try simp only [List.length_set]); exact wsome (by assumption)))) 4 0 ks2 sts2 rfl (fun j hj => absurd hj (Nat.not_lt_zero _)) (fun j hj => absurd hj (Nat.not_lt_zero _)); rw [wset_eq y0, wset_eq y1] at this; exact this)
theorem c_copy_trial {w : mW} {fr lp lps sn fr2 lp2 lps2 sn2 : Nat} {ks sts sof sso ks2 sts2 sof2 sso2 : Nat → Nat} (ha : w[5]? = some (oS fr2 lp2 lps2 sn2 23 24 25 26)) (hb : w[3]? = some (oS fr lp lps sn 15 16 17 18)) (hs0 : w[15]? = some (nA 4 ks)) (hs1 : w[16]? = some (nA 4 sts)) (hs2 : w[17]? = some (nA 6 sof)) (hs3 : w[18]? = some (nA 6 sso)) (hd0 : w[23]? = some (nA 4 ks2)) (hd1 : w[24]? = some (nA 4 sts2)) (hd2 : w[25]? = some (nA 6 sof2)) (hd3 : w[26]? = some (nA 6 sso2)) :
    JV 0 mX3_copy [.ref 5, .ref 3] w (((((w.set 5 (oS fr lp lps sn 23 24 25 26)).set 23 (nA 4 ks)).set 24 (nA 4 sts)).set 25 (nA 6 sof)).set 26 (nA 6 sso)) := by
  have L2 : ∀ (v : mW), v[3]? = some (oS fr lp lps sn 15 16 17 18) → v[5]? = some (oS fr lp lps sn 23 24 25 26) → v[17]? = some (nA 6 sof) → v[18]? = some (nA 6 sso) → ∀ (x0 x1 : Nat → Nat), v[25]? = some (nA 6 x0) → v[26]? = some (nA 6 x1) →
      ∀ (n i : Nat) (h1 h2 : Nat → Nat), i + n = 6 → (∀ j, j < i → h1 j = sof j) → (∀ j, j < i → h2 j = sso j) → J 0 mX3_copy 71 [.ref 5, .ref 3, .int (nI i)] [] ((v.set 25 (nA 6 h1)).set 26 (nA 6 h2)) (fun r u => r = none ∧ u = (v.set 25 (nA 6 sof)).set 26 (nA 6 sso)) := by
    intro v q1 q2 q3 q4 x0 x1 q5 q6 n
    induction n with
    | zero =>
      intro i h1 h2 hi e1 e2
      refine j_arrN (a := 26) (n := 6) (f := h2) (g := sso) (fun j hj => e2 j (by omega)) (by repeat (first | assumption | refine wset_ne (by decide) ?_ | exact wset_lt (by (try simp only [List.length_set]); exact wsome (by assumption)))) ?_
      rw [wset2, List.set_comm _ _ (show (25 : Nat) ≠ 26 by decide)]
      refine j_arrN (a := 25) (n := 6) (f := h1) (g := sof) (fun j hj => e1 j (by omega)) (by repeat (first | assumption | refine wset_ne (by decide) ?_ | exact wset_lt (by (try simp only [List.length_set]); exact wsome (by assumption)))) ?_
      rw [wset2, List.set_comm _ _ (show (26 : Nat) ≠ 25 by decide)]
      refine j_iload_n iX3_copy_71 rfl ?_
      refine j_bipush (v := nI 6) iX3_copy_72 (by decide) ?_
      refine j_icmp_geN (tgt := 107) iX3_copy_74 (by decide) (by omega) (by omega) (fun _ => ?_) (fun hno => by exfalso; omega)
      refine j_vret iX3_copy_107 rfl (⟨rfl, rfl⟩)
    | succ n ih =>
      intro i h1 h2 hi e1 e2
      have ih2 := ih (i + 1) (un h1 i (sof i)) (un h2 i (sso i)) (by omega) (un_upto e1 rfl) (un_upto e2 rfl)
      refine j_iload_n iX3_copy_71 rfl ?_
      refine j_bipush (v := nI 6) iX3_copy_72 (by decide) ?_
      refine j_icmp_geN (tgt := 107) iX3_copy_74 (by decide) (by omega) (by omega) (fun hno => by exfalso; omega) (fun _ => ?_)
      refine j_aload_n iX3_copy_77 rfl ?_
      refine j_get fk_X3_18 iX3_copy_78 (by repeat (first | assumption | refine wset_ne (by decide) ?_ | exact wset_lt (by (try simp only [List.length_set]); exact wsome (by assumption)))) (by rfl) ?_
      refine j_iload_n iX3_copy_81 rfl ?_
      refine j_aload_n iX3_copy_82 rfl ?_
      refine j_get fk_X3_18 iX3_copy_83 (by repeat (first | assumption | refine wset_ne (by decide) ?_ | exact wset_lt (by (try simp only [List.length_set]); exact wsome (by assumption)))) (by rfl) ?_
      refine j_iload_n iX3_copy_86 rfl ?_
      refine j_ialdN iX3_copy_87 (by repeat (first | assumption | refine wset_ne (by decide) ?_ | exact wset_lt (by (try simp only [List.length_set]); exact wsome (by assumption)))) (by omega) ?_
      refine j_iastN iX3_copy_88 (by repeat (first | assumption | refine wset_ne (by decide) ?_ | exact wset_lt (by (try simp only [List.length_set]); exact wsome (by assumption)))) (by omega) ?_
      refine j_aload_n iX3_copy_89 rfl ?_
      refine j_get fk_X3_21 iX3_copy_90 (by repeat (first | assumption | refine wset_ne (by decide) ?_ | exact wset_lt (by (try simp only [List.length_set]); exact wsome (by assumption)))) (by rfl) ?_
      refine j_iload_n iX3_copy_93 rfl ?_
      refine j_aload_n iX3_copy_94 rfl ?_
      refine j_get fk_X3_21 iX3_copy_95 (by repeat (first | assumption | refine wset_ne (by decide) ?_ | exact wset_lt (by (try simp only [List.length_set]); exact wsome (by assumption)))) (by rfl) ?_
      refine j_iload_n iX3_copy_98 rfl ?_
      refine j_ialdN iX3_copy_99 (by repeat (first | assumption | refine wset_ne (by decide) ?_ | exact wset_lt (by (try simp only [List.length_set]); exact wsome (by assumption)))) (by omega) ?_
      refine j_iastN iX3_copy_100 (by repeat (first | assumption | refine wset_ne (by decide) ?_ | exact wset_lt (by (try simp only [List.length_set]); exact wsome (by assumption)))) (by omega) ?_
      refine j_iincN iX3_copy_101 rfl (by decide) rfl ?_
      dsimp only [List.set]
      refine j_goto (tgt := 71) iX3_copy_104 (by decide) ?_
      rw [List.set_comm _ _ (show (26 : Nat) ≠ 25 by decide), wset2, wset2]; exact ih2
  have L1 : ∀ (v : mW), v[3]? = some (oS fr lp lps sn 15 16 17 18) → v[5]? = some (oS fr lp lps sn 23 24 25 26) → v[15]? = some (nA 4 ks) → v[16]? = some (nA 4 sts) → v[17]? = some (nA 6 sof) → v[18]? = some (nA 6 sso) → ∀ (x0 x1 x2 x3 : Nat → Nat), v[23]? = some (nA 4 x0) → v[24]? = some (nA 4 x1) → v[25]? = some (nA 6 x2) → v[26]? = some (nA 6 x3) →
      ∀ (n i : Nat) (h1 h2 : Nat → Nat), i + n = 4 → (∀ j, j < i → h1 j = ks j) → (∀ j, j < i → h2 j = sts j) → J 0 mX3_copy 34 [.ref 5, .ref 3, .int (nI i)] [] ((v.set 23 (nA 4 h1)).set 24 (nA 4 h2)) (fun r u => r = none ∧ u = (((v.set 23 (nA 4 ks)).set 24 (nA 4 sts)).set 25 (nA 6 sof)).set 26 (nA 6 sso)) := by
    intro v q1 q2 q3 q4 q5 q6 x0 x1 x2 x3 p0 p1 p2 p3 n
    induction n with
    | zero =>
      intro i h1 h2 hi e1 e2
      refine j_arrN (a := 24) (n := 4) (f := h2) (g := sts) (fun j hj => e2 j (by omega)) (by repeat (first | assumption | refine wset_ne (by decide) ?_ | exact wset_lt (by (try simp only [List.length_set]); exact wsome (by assumption)))) ?_
      rw [wset2, List.set_comm _ _ (show (23 : Nat) ≠ 24 by decide)]
      refine j_arrN (a := 23) (n := 4) (f := h1) (g := ks) (fun j hj => e1 j (by omega)) (by repeat (first | assumption | refine wset_ne (by decide) ?_ | exact wset_lt (by (try simp only [List.length_set]); exact wsome (by assumption)))) ?_
      rw [wset2, List.set_comm _ _ (show (24 : Nat) ≠ 23 by decide)]
      have z2 : ((v.set 23 (nA 4 ks)).set 24 (nA 4 sts))[25]? = some (nA 6 x2) := (by repeat (first | assumption | refine wset_ne (by decide) ?_ | exact wset_lt (by (try simp only [List.length_set]); exact wsome (by assumption))))
      have z3 : ((v.set 23 (nA 4 ks)).set 24 (nA 4 sts))[26]? = some (nA 6 x3) := (by repeat (first | assumption | refine wset_ne (by decide) ?_ | exact wset_lt (by (try simp only [List.length_set]); exact wsome (by assumption))))
      refine j_iload_n iX3_copy_34 rfl ?_
      refine j_iconst (v := nI 4) iX3_copy_35 (by decide) ?_
      refine j_icmp_geN (tgt := 69) iX3_copy_36 (by decide) (by omega) (by omega) (fun _ => ?_) (fun hno => by exfalso; omega)
      refine j_iconst (v := nI 0) iX3_copy_69 (by decide) ?_
      refine j_istore_n iX3_copy_70 (by decide) rfl ?_
      dsimp only [List.set]
      exact (by have := L2 ((v.set 23 (nA 4 ks)).set 24 (nA 4 sts)) (by repeat (first | assumption | refine wset_ne (by decide) ?_ | exact wset_lt (by (try simp only [List.length_set]); exact wsome (by assumption)))) (by repeat (first | assumption | refine wset_ne (by decide) ?_ | exact wset_lt (by (try simp only [List.length_set]); exact wsome (by assumption)))) (by repeat (first | assumption | refine wset_ne (by decide) ?_ | exact wset_lt (by (try simp only [List.length_set]); exact wsome (by assumption)))) (by repeat (first | assumption | refine wset_ne (by decide) ?_ | exact wset_lt (by (try simp only [List.length_set]); exact wsome (by assumption)))) x2 x3 z2 z3 6 0 x2 x3 rfl (fun j hj => absurd hj (Nat.not_lt_zero _)) (fun j hj => absurd hj (Nat.not_lt_zero _)); rw [wset_eq z2, wset_eq z3] at this; exact this)
    | succ n ih =>
      intro i h1 h2 hi e1 e2
      have ih2 := ih (i + 1) (un h1 i (ks i)) (un h2 i (sts i)) (by omega) (un_upto e1 rfl) (un_upto e2 rfl)
      refine j_iload_n iX3_copy_34 rfl ?_
      refine j_iconst (v := nI 4) iX3_copy_35 (by decide) ?_
      refine j_icmp_geN (tgt := 69) iX3_copy_36 (by decide) (by omega) (by omega) (fun hno => by exfalso; omega) (fun _ => ?_)
      refine j_aload_n iX3_copy_39 rfl ?_
      refine j_get fk_X3_9 iX3_copy_40 (by repeat (first | assumption | refine wset_ne (by decide) ?_ | exact wset_lt (by (try simp only [List.length_set]); exact wsome (by assumption)))) (by rfl) ?_
      refine j_iload_n iX3_copy_43 rfl ?_
      refine j_aload_n iX3_copy_44 rfl ?_
      refine j_get fk_X3_9 iX3_copy_45 (by repeat (first | assumption | refine wset_ne (by decide) ?_ | exact wset_lt (by (try simp only [List.length_set]); exact wsome (by assumption)))) (by rfl) ?_
      refine j_iload_n iX3_copy_48 rfl ?_
      refine j_ialdN iX3_copy_49 (by repeat (first | assumption | refine wset_ne (by decide) ?_ | exact wset_lt (by (try simp only [List.length_set]); exact wsome (by assumption)))) (by omega) ?_
      refine j_iastN iX3_copy_50 (by repeat (first | assumption | refine wset_ne (by decide) ?_ | exact wset_lt (by (try simp only [List.length_set]); exact wsome (by assumption)))) (by omega) ?_
      refine j_aload_n iX3_copy_51 rfl ?_
      refine j_get fk_X3_15 iX3_copy_52 (by repeat (first | assumption | refine wset_ne (by decide) ?_ | exact wset_lt (by (try simp only [List.length_set]); exact wsome (by assumption)))) (by rfl) ?_
      refine j_iload_n iX3_copy_55 rfl ?_
      refine j_aload_n iX3_copy_56 rfl ?_
      refine j_get fk_X3_15 iX3_copy_57 (by repeat (first | assumption | refine wset_ne (by decide) ?_ | exact wset_lt (by (try simp only [List.length_set]); exact wsome (by assumption)))) (by rfl) ?_
      refine j_iload_n iX3_copy_60 rfl ?_
      refine j_ialdN iX3_copy_61 (by repeat (first | assumption | refine wset_ne (by decide) ?_ | exact wset_lt (by (try simp only [List.length_set]); exact wsome (by assumption)))) (by omega) ?_
      refine j_iastN iX3_copy_62 (by repeat (first | assumption | refine wset_ne (by decide) ?_ | exact wset_lt (by (try simp only [List.length_set]); exact wsome (by assumption)))) (by omega) ?_
      refine j_iincN iX3_copy_63 rfl (by decide) rfl ?_
      dsimp only [List.set]
      refine j_goto (tgt := 34) iX3_copy_66 (by decide) ?_
      rw [List.set_comm _ _ (show (24 : Nat) ≠ 23 by decide), wset2, wset2]; exact ih2
  refine j_start (ls := [.ref 5, .ref 3, .null]) rfl ?_
  have y0 : (w.set 5 (oS fr lp lps sn 23 24 25 26))[23]? = some (nA 4 ks2) := (by repeat (first | assumption | refine wset_ne (by decide) ?_ | exact wset_lt (by (try simp only [List.length_set]); exact wsome (by assumption))))
  have y1 : (w.set 5 (oS fr lp lps sn 23 24 25 26))[24]? = some (nA 4 sts2) := (by repeat (first | assumption | refine wset_ne (by decide) ?_ | exact wset_lt (by (try simp only [List.length_set]); exact wsome (by assumption))))
  refine j_aload_n iX3_copy_0 rfl ?_
  refine j_aload_n iX3_copy_1 rfl ?_
  refine j_get fk_X3_32 iX3_copy_2 (by repeat (first | assumption | refine wset_ne (by decide) ?_ | exact wset_lt (by (try simp only [List.length_set]); exact wsome (by assumption)))) (by rfl) ?_
  refine j_put fk_X3_32 iX3_copy_5 (by repeat (first | assumption | refine wset_ne (by decide) ?_ | exact wset_lt (by (try simp only [List.length_set]); exact wsome (by assumption)))) (by intro; rfl) (by intro; rfl) (Nat.le_of_ble_eq_true rfl) ?_
  dsimp only [List.set]
  refine j_aload_n iX3_copy_8 rfl ?_
  refine j_aload_n iX3_copy_9 rfl ?_
  refine j_get fk_X3_24 iX3_copy_10 (by repeat (first | assumption | refine wset_ne (by decide) ?_ | exact wset_lt (by (try simp only [List.length_set]); exact wsome (by assumption)))) (by rfl) ?_
  refine j_put fk_X3_24 iX3_copy_13 (by repeat (first | assumption | refine wset_ne (by decide) ?_ | exact wset_lt (by (try simp only [List.length_set]); exact wsome (by assumption)))) (by intro; rfl) (by intro; rfl) (Nat.le_of_ble_eq_true rfl) ?_
  dsimp only [List.set]
  refine j_aload_n iX3_copy_16 rfl ?_
  refine j_aload_n iX3_copy_17 rfl ?_
  refine j_get fk_X3_38 iX3_copy_18 (by repeat (first | assumption | refine wset_ne (by decide) ?_ | exact wset_lt (by (try simp only [List.length_set]); exact wsome (by assumption)))) (by rfl) ?_
  refine j_put fk_X3_38 iX3_copy_21 (by repeat (first | assumption | refine wset_ne (by decide) ?_ | exact wset_lt (by (try simp only [List.length_set]); exact wsome (by assumption)))) (by intro; rfl) (by intro; rfl) (Nat.le_of_ble_eq_true rfl) ?_
  dsimp only [List.set]
  refine j_aload_n iX3_copy_24 rfl ?_
  refine j_aload_n iX3_copy_25 rfl ?_
  refine j_get fk_X3_35 iX3_copy_26 (by repeat (first | assumption | refine wset_ne (by decide) ?_ | exact wset_lt (by (try simp only [List.length_set]); exact wsome (by assumption)))) (by rfl) ?_
  refine j_put fk_X3_35 iX3_copy_29 (by repeat (first | assumption | refine wset_ne (by decide) ?_ | exact wset_lt (by (try simp only [List.length_set]); exact wsome (by assumption)))) (by intro; rfl) (by intro; rfl) (Nat.le_of_ble_eq_true rfl) ?_
  dsimp only [List.set]
  rw [wset2, wset2, wset2]
  refine j_iconst (v := nI 0) iX3_copy_32 (by decide) ?_
  refine j_istore_n iX3_copy_33 (by decide) rfl ?_
  dsimp only [List.set]
  exact (by have := L1 (w.set 5 (oS fr lp lps sn 23 24 25 26)) (by repeat (first | assumption | refine wset_ne (by decide) ?_ | exact wset_lt (by (try simp only [List.length_set]); exact wsome (by assumption)))) (by repeat (first | assumption | refine wset_ne (by decide) ?_ | exact wset_lt (by (try simp only [List.length_set]); exact wsome (by assumption)))) (by repeat (first | assumption | refine wset_ne (by decide) ?_ | exact wset_lt (by (try simp only [List.length_set]); exact wsome (by assumption)))) (by repeat (first | assumption | refine wset_ne (by decide) ?_ | exact wset_lt (by (try simp only [List.length_set]); exact wsome (by assumption)))) (by repeat (first | assumption | refine wset_ne (by decide) ?_ | exact wset_lt (by (try simp only [List.length_set]); exact wsome (by assumption)))) (by repeat (first | assumption | refine wset_ne (by decide) ?_ | exact wset_lt (by (try simp only [List.length_set]); exact wsome (by assumption)))) ks2 sts2 sof2 sso2 y0 y1 (by repeat (first | assumption | refine wset_ne (by decide) ?_ | exact wset_lt (by (try simp only [List.length_set]); exact wsome (by assumption)))) (by repeat (first | assumption | refine wset_ne (by decide) ?_ | exact wset_lt (by (try simp only [List.length_set]); exact wsome (by assumption)))) 4 0 ks2 sts2 rfl (fun j hj => absurd hj (Nat.not_lt_zero _)) (fun j hj => absurd hj (Nat.not_lt_zero _)); rw [wset_eq y0, wset_eq y1] at this; exact this)
