/-! ===== the reference: read, fault, board ===== -/
theorem wi23 : ∀ a, a < 127 → wi (nI a - nI 48) (nI 2) (nI 3) = decide (50 ≤ a ∧ a ≤ 51) := by decide
theorem wi24 : ∀ a, a < 127 → wi (nI a - nI 48) (nI 2) (nI 4) = decide (50 ≤ a ∧ a ≤ 52) := by decide
theorem not_whole {pg : Nat → Nat} {sz p : Nat} (hf : faultF pg sz = p) (h : p = sz → sz < 2 ∨ sz ≤ 4 + nF pg) : wholeF pg sz = false := by
  by_cases e : p = sz
  · exact whole_f2 (fun z => by have := h e; omega)
  · exact whole_f1 (by rw [hf]; exact e)
theorem fits_0 {pg : Nat → Nat} {N : Nat} : fitsF pg N 0 = decide (pg 0 = 50 ∨ pg 0 = 51) := by unfold fitsF; rw [if_pos rfl]
theorem fits_1 {pg : Nat → Nat} {N : Nat} : fitsF pg N 1 = decide (50 ≤ pg 1 ∧ pg 1 ≤ 52) := by unfold fitsF; rw [if_neg (by omega), if_pos rfl]
theorem fits_2 {pg : Nat → Nat} {N : Nat} : fitsF pg N 2 = decide (pg 2 = 59) := by unfold fitsF; rw [if_neg (by omega), if_neg (by omega), if_pos (Or.inl rfl)]
theorem fits_c {pg : Nat → Nat} {N c : Nat} (h : c < N) : fitsF pg N (3 + c) = decide (pg (3 + c) = 46 ∨ pg (3 + c) = 35) := by unfold fitsF; rw [if_neg (by omega), if_neg (by omega), if_neg (by omega), if_pos (by omega)]
theorem fits_e {pg : Nat → Nat} {N : Nat} : fitsF pg N (3 + N) = decide (pg (3 + N) = 59) := by unfold fitsF; rw [if_neg (by omega), if_neg (by omega), if_pos (Or.inr rfl)]
section
variable {w : mW} {bd R C fr lp lps sn sz : Nat} {wh : Bool} {nc nf nl tl : Nat} {sd : Int64} {ik : Bool} {kb kf kl kn : Nat} {hh : Int64} {ks sts pg sof rr cc cn : Nat → Nat}
/-- what reading leaves -/
def ReadQ (w : mW) (o : Bool → Nat → Nat → Nat → mE) (pg : Nat → Nat) (sz : Nat) (v : Option Value) (u : mW) : Prop := v = some (.int (nI (faultF pg sz))) ∧ ∃ wh' nc' nf' nl', u = w.set 33 (o wh' nc' nf' nl') ∧ wh' = wholeF pg sz ∧ (wholeF pg sz = true → nc' = nF pg ∧ nf' = freeF pg (nF pg) ∧ nl' = lpF pg sz)
theorem ReadQ.no {o : Bool → Nat → Nat → Nat → mE} {p a b c : Nat} {x : Option Value} {u : mW} (hf : faultF pg sz = p) (h : p = sz → sz < 2 ∨ sz ≤ 4 + nF pg) (hx : x = some (.int (nI p))) (hu : u = w.set 33 (o false a b c)) : ReadQ w o pg sz x u :=
  have hw := not_whole hf h
  ⟨by rw [hf]; exact hx, false, a, b, c, hu, hw.symm, fun z => by rw [hw] at z; cases z⟩
theorem m_read (hm : w[33]? = some (oM bd R C fr lp lps sn sz wh nc nf nl tl sd ik kb kf kl kn hh)) (h40 : w[40]? = some (pB pg)) (hsz : sz ≤ 30) (hpg : ∀ i, pg i < 127) : JX 2 mX6_read [.ref 33] w (ReadQ w (fun a b c d => (oM bd R C fr lp lps sn sz (a) (b) (c) (d) tl sd ik kb kf kl kn hh)) pg sz) := by
  have hat : ∀ k, atM pg sz k < 127 := fun k => by unfold atM; split; exact hpg _; decide
  have hl : 33 < w.length := wsome hm
  refine j_start (ls := [.ref 33, .null]) rfl ?_
  by_cases hA : 50 ≤ atM pg sz 0 ∧ atM pg sz 0 ≤ 51
  · by_cases hB : 50 ≤ atM pg sz 1 ∧ atM pg sz 1 ≤ 52
    · by_cases hC : atM pg sz 2 = 59
      · have h3 : 2 < sz := by
          apply Nat.lt_of_not_le; intro z
          rw [atM_ge z] at hC; omega
        rw [atM_lt (by omega)] at hA hB hC
        have ep0 : nI (pg 0) - nI 48 = nI (pg 0 - 48) := pk_sub (by omega)
        have ep1 : nI (pg 1) - nI 48 = nI (pg 1 - 48) := pk_sub (by omega)
        have ea0 : atM pg sz 0 = pg 0 := atM_lt (by omega)
        have ea1 : atM pg sz 1 = pg 1 := atM_lt (by omega)
        have ea2 : atM pg sz 2 = 59 := by rw [atM_lt h3]; exact hC
        have hN : nF pg ≤ 12 := Nat.mul_le_mul (show pg 0 - 48 ≤ 3 by omega) (show pg 1 - 48 ≤ 4 by omega)
        have hN4 : 4 ≤ nF pg := Nat.mul_le_mul (show 2 ≤ pg 0 - 48 by omega) (show 2 ≤ pg 1 - 48 by omega)
        have hfirst : ∀ q, q < 3 → fitsF pg (nF pg) q = true := fun q h => by
          have : q = 0 ∨ q = 1 ∨ q = 2 := by omega
          rcases this with rfl | rfl | rfl
          · rw [fits_0]; exact decide_eq_true (by omega)
          · rw [fits_1]; exact decide_eq_true hB
          · rw [fits_2]; exact decide_eq_true hC
        have hcells : ∀ j, j ≤ nF pg → (∀ c, c < j → pg (3 + c) = 46 ∨ pg (3 + c) = 35) → ∀ q, q < 3 + j → fitsF pg (nF pg) q = true := fun j hj h q hq => by
          by_cases e : q < 3
          · exact hfirst q e
          · rw [show q = 3 + (q - 3) by omega, fits_c (by omega)]
            exact decide_eq_true (h (q - 3) (by omega))
        have hrd := m_readCells (w := w.set 33 (oM bd R C fr lp lps sn sz (false) (nF pg) (0) (0) tl sd ik kb kf kl kn hh)) (bd := bd) (R := R) (C := C) (fr := fr) (lp := lp) (lps := lps) (sn := sn) (wh := false) (nl := 0) (tl := tl) (sd := sd) (ik := ik) (kb := kb) (kf := kf) (kl := kl) (kn := kn) (hh := hh) (wset_lt hl) (wset_ne (by decide) h40) hsz hpg hN h3
        have hfj : ∀ j, j ≤ nF pg → 3 + j ≤ sz → (∀ c, c < j → pg (3 + c) = 46 ∨ pg (3 + c) = 35) → (j < nF pg → ¬ (atM pg sz (3 + j) = 46 ∨ atM pg sz (3 + j) = 35)) → (j < nF pg ∨ ¬ atM pg sz (3 + j) = 59) → faultF pg sz = 3 + j := fun j h1 h2 h3 h4 h5 => fault_of (hcells j h1 h3) h2 (fun z => by
          rw [atM_lt z] at h4 h5
          by_cases e : j < nF pg
          · rw [fits_c e]; exact decide_eq_false (h4 e)
          · obtain rfl : j = nF pg := by omega
            rw [fits_e]; exact decide_eq_false (by omega))
        have hrl : 4 + nF pg ≤ sz → pg (3 + nF pg) = 59 → (∀ c, c < nF pg → pg (3 + c) = 46 ∨ pg (3 + c) = 35) → JX 1 mX6_readLeapers [.ref 33, .int (nI (4 + nF pg))] (w.set 33 (oM bd R C fr lp lps sn sz (false) (nF pg) (freeF pg (nF pg)) (0) tl sd ik kb kf kl kn hh)) (fun v u => v = some (.int (nI (faultF pg sz))) ∧ ∃ wh' nl', u = (w.set 33 (oM bd R C fr lp lps sn sz (false) (nF pg) (freeF pg (nF pg)) (0) tl sd ik kb kf kl kn hh)).set 33 (oM bd R C fr lp lps sn sz (wh') (nF pg) (freeF pg (nF pg)) (nl') tl sd ik kb kf kl kn hh) ∧ wh' = wholeF pg sz ∧ (wholeF pg sz = true → nl' = lpF pg sz)) := fun h4 h5 h6 => m_readLeapers rfl ⟨hN4, hN⟩ (wset_lt hl) (wset_ne (by decide) h40) hsz hpg h4 (fun q hq => by
          by_cases e : q = 3 + nF pg
          · rw [e, fits_e]; exact decide_eq_true h5
          · exact hcells _ (Nat.le_refl _) h6 q (by omega))
        refine j_aload_n iX6_read_0 rfl ?_
        refine j_iconst (v := nI 0) iX6_read_1 (by decide) ?_
        refine j_put fk_X6_96 iX6_read_2 (by repeat (first | exact hm | exact wset_lt (by (try simp only [List.length_set]); exact hl))) (by intro; rfl) (by intro; rfl) (Nat.le_of_ble_eq_true rfl) ?_
        dsimp only [List.set]
        refine j_aload_n iX6_read_5 rfl ?_
        refine j_iconst (v := nI 0) iX6_read_6 (by decide) ?_
        refine j_put fk_X6_83 iX6_read_7 (by repeat (first | exact hm | exact wset_lt (by (try simp only [List.length_set]); exact hl))) (by intro; rfl) (by intro; rfl) (Nat.le_of_ble_eq_true rfl) ?_
        dsimp only [List.set]
        refine j_aload_n iX6_read_10 rfl ?_
        refine j_iconst (v := nI 0) iX6_read_11 (by decide) ?_
        refine j_put fk_X6_86 iX6_read_12 (by repeat (first | exact hm | exact wset_lt (by (try simp only [List.length_set]); exact hl))) (by intro; rfl) (by intro; rfl) (Nat.le_of_ble_eq_true rfl) ?_
        dsimp only [List.set]
        refine j_aload_n iX6_read_15 rfl ?_
        refine j_iconst (v := nI 0) iX6_read_16 (by decide) ?_
        refine j_V1R okX6_at lk_X6_79 iX6_read_17 (by omega) (by repeat (first | exact hm | exact wset_lt (by (try simp only [List.length_set]); exact hl))) rfl (m_at ((by repeat (first | assumption | refine wset_ne (by decide) ?_ | exact wset_lt (by (try simp only [List.length_set]); exact wsome (by assumption)))) : _ = some (oM bd R C fr lp lps sn sz (false) nc (0) (0) tl sd ik kb kf kl kn hh)) (by repeat (first | assumption | refine wset_ne (by decide) ?_ | exact wset_lt (by (try simp only [List.length_set]); exact wsome (by assumption)))) hsz 0 (by omega)) rfl (Nat.le_of_ble_eq_true rfl) (Nat.le_of_ble_eq_true rfl) ?_
        rw [ea0]
        refine j_bipush (v := nI 48) iX6_read_20 (by decide) ?_
        refine j_isubN iX6_read_22 (by omega) ?_
        refine j_iconst (v := nI 2) iX6_read_23 (by decide) ?_
        refine j_iconst (v := nI 3) iX6_read_24 (by decide) ?_
        refine j_S3R okX6_within lk_X6_68 iX6_read_25 (by omega) (m_within _ _ _) rfl (Nat.le_of_ble_eq_true rfl) (Nat.le_of_ble_eq_true rfl) ?_
        refine j_if_neB (tgt := 33) iX6_read_28 (by decide) (fun _ => ?_) (fun hno => Bool.noConfusion (hno.symm.trans (show _ = true from by rw [← ep0, wi23 _ (hpg 0)]; exact decide_eq_true hA)))
        refine j_aload_n iX6_read_33 rfl ?_
        refine j_iconst (v := nI 1) iX6_read_34 (by decide) ?_
        refine j_V1R okX6_at lk_X6_79 iX6_read_35 (by omega) (by repeat (first | exact hm | exact wset_lt (by (try simp only [List.length_set]); exact hl))) rfl (m_at ((by repeat (first | assumption | refine wset_ne (by decide) ?_ | exact wset_lt (by (try simp only [List.length_set]); exact wsome (by assumption)))) : _ = some (oM bd R C fr lp lps sn sz (false) nc (0) (0) tl sd ik kb kf kl kn hh)) (by repeat (first | assumption | refine wset_ne (by decide) ?_ | exact wset_lt (by (try simp only [List.length_set]); exact wsome (by assumption)))) hsz 1 (by omega)) rfl (Nat.le_of_ble_eq_true rfl) (Nat.le_of_ble_eq_true rfl) ?_
        rw [ea1]
        refine j_bipush (v := nI 48) iX6_read_38 (by decide) ?_
        refine j_isubN iX6_read_40 (by omega) ?_
        refine j_iconst (v := nI 2) iX6_read_41 (by decide) ?_
        refine j_iconst (v := nI 4) iX6_read_42 (by decide) ?_
        refine j_S3R okX6_within lk_X6_68 iX6_read_43 (by omega) (m_within _ _ _) rfl (Nat.le_of_ble_eq_true rfl) (Nat.le_of_ble_eq_true rfl) ?_
        refine j_if_neB (tgt := 51) iX6_read_46 (by decide) (fun _ => ?_) (fun hno => Bool.noConfusion (hno.symm.trans (show _ = true from by rw [← ep1, wi24 _ (hpg 1)]; exact decide_eq_true hB)))
        refine j_aload_n iX6_read_51 rfl ?_
        refine j_iconst (v := nI 2) iX6_read_52 (by decide) ?_
        refine j_V1R okX6_at lk_X6_79 iX6_read_53 (by omega) (by repeat (first | exact hm | exact wset_lt (by (try simp only [List.length_set]); exact hl))) rfl (m_at ((by repeat (first | assumption | refine wset_ne (by decide) ?_ | exact wset_lt (by (try simp only [List.length_set]); exact wsome (by assumption)))) : _ = some (oM bd R C fr lp lps sn sz (false) nc (0) (0) tl sd ik kb kf kl kn hh)) (by repeat (first | assumption | refine wset_ne (by decide) ?_ | exact wset_lt (by (try simp only [List.length_set]); exact wsome (by assumption)))) hsz 2 (by omega)) rfl (Nat.le_of_ble_eq_true rfl) (Nat.le_of_ble_eq_true rfl) ?_
        rw [ea2]
        refine j_bipush (v := nI 59) iX6_read_56 (by decide) ?_
        refine j_icmp_eqN (tgt := 63) iX6_read_58 (by decide) (by omega) (by omega) (fun _ => ?_) (fun hno => by exfalso; omega)
        refine j_aload_n iX6_read_63 rfl ?_
        refine j_aload_n iX6_read_64 rfl ?_
        refine j_iconst (v := nI 0) iX6_read_65 (by decide) ?_
        refine j_V1R okX6_at lk_X6_79 iX6_read_66 (by omega) (by repeat (first | exact hm | exact wset_lt (by (try simp only [List.length_set]); exact hl))) rfl (m_at ((by repeat (first | assumption | refine wset_ne (by decide) ?_ | exact wset_lt (by (try simp only [List.length_set]); exact wsome (by assumption)))) : _ = some (oM bd R C fr lp lps sn sz (false) nc (0) (0) tl sd ik kb kf kl kn hh)) (by repeat (first | assumption | refine wset_ne (by decide) ?_ | exact wset_lt (by (try simp only [List.length_set]); exact wsome (by assumption)))) hsz 0 (by omega)) rfl (Nat.le_of_ble_eq_true rfl) (Nat.le_of_ble_eq_true rfl) ?_
        rw [ea0]
        refine j_bipush (v := nI 48) iX6_read_69 (by decide) ?_
        refine j_isubN iX6_read_71 (by omega) ?_
        refine j_aload_n iX6_read_72 rfl ?_
        refine j_iconst (v := nI 1) iX6_read_73 (by decide) ?_
        refine j_V1R okX6_at lk_X6_79 iX6_read_74 (by omega) (by repeat (first | exact hm | exact wset_lt (by (try simp only [List.length_set]); exact hl))) rfl (m_at ((by repeat (first | assumption | refine wset_ne (by decide) ?_ | exact wset_lt (by (try simp only [List.length_set]); exact wsome (by assumption)))) : _ = some (oM bd R C fr lp lps sn sz (false) nc (0) (0) tl sd ik kb kf kl kn hh)) (by repeat (first | assumption | refine wset_ne (by decide) ?_ | exact wset_lt (by (try simp only [List.length_set]); exact wsome (by assumption)))) hsz 1 (by omega)) rfl (Nat.le_of_ble_eq_true rfl) (Nat.le_of_ble_eq_true rfl) ?_
        rw [ea1]
        refine j_bipush (v := nI 48) iX6_read_77 (by decide) ?_
        refine j_isubN iX6_read_79 (by omega) ?_
        refine j_imulN iX6_read_80  ?_
        refine j_top (y := nI (nF pg)) (by rfl) ?_
        refine j_put fk_X6_76 iX6_read_81 (by repeat (first | exact hm | exact wset_lt (by (try simp only [List.length_set]); exact hl))) (by intro; rfl) (by intro; rfl) (Nat.le_of_ble_eq_true rfl) ?_
        dsimp only [List.set]
        rw [wset2, wset2, wset2]
        refine j_aload_n iX6_read_84 rfl ?_
        refine j_iconst (v := nI 3) iX6_read_85 (by decide) ?_
        refine j_V1X (r := .null) (w' := []) okX6_readCells lk_X6_100 iX6_read_86 (by omega) (by repeat (first | exact hm | exact wset_lt (by (try simp only [List.length_set]); exact hl))) rfl (hrd) rfl (Nat.le_of_ble_eq_true rfl) (Nat.le_of_ble_eq_true rfl) ?_
        rintro v u ⟨j, hj1, hj2, hj3, hj4, rfl, rfl⟩
        rw [wset2]
        refine j_istore_n iX6_read_89 (by decide) rfl ?_
        dsimp only [List.set]
        refine j_iload_n iX6_read_90 rfl ?_
        refine j_iconst (v := nI 3) iX6_read_91 (by decide) ?_
        refine j_aload_n iX6_read_92 rfl ?_
        refine j_get fk_X6_76 iX6_read_93 (by repeat (first | exact hm | exact wset_lt (by (try simp only [List.length_set]); exact hl))) (by rfl) ?_
        refine j_iaddN iX6_read_96  ?_
        refine j_icmp_ltN (tgt := 110) iX6_read_97 (by decide) (by omega) (by omega) (fun h97 => ?_) (fun h97 => ?_)
        · refine j_iload_n iX6_read_110 rfl ?_
          refine j_iret iX6_read_111 rfl (by first | rfl | exact nar_bI _ | exact nar_bP) ((by first | exact ⟨rfl, wh', nF pg, freeF pg (nF pg), nl', by rw [wset2], e1, fun z => ⟨rfl, rfl, e2 z⟩⟩ | exact ReadQ.no (a := nF pg) (b := fold (freeStep pg) j 0 0) (c := 0) (hfj j hj1 hj2 hj3 hj4 (by omega)) (fun z => (by omega)) rfl rfl))
        · refine j_aload_n iX6_read_100 rfl ?_
          refine j_iload_n iX6_read_101 rfl ?_
          refine j_V1R okX6_at lk_X6_79 iX6_read_102 (by omega) (by repeat (first | exact hm | exact wset_lt (by (try simp only [List.length_set]); exact hl))) rfl (m_at ((by repeat (first | assumption | refine wset_ne (by decide) ?_ | exact wset_lt (by (try simp only [List.length_set]); exact wsome (by assumption)))) : _ = some (oM bd R C fr lp lps sn sz (false) (nF pg) (fold (freeStep pg) j 0 0) (0) tl sd ik kb kf kl kn hh)) (by repeat (first | assumption | refine wset_ne (by decide) ?_ | exact wset_lt (by (try simp only [List.length_set]); exact wsome (by assumption)))) hsz (3 + j) (by omega)) rfl (Nat.le_of_ble_eq_true rfl) (Nat.le_of_ble_eq_true rfl) ?_
          have hb105 := hat (3 + j)
          refine j_bipush (v := nI 59) iX6_read_105 (by decide) ?_
          refine j_icmp_eqN (tgt := 112) iX6_read_107 (by decide) (by omega) (by omega) (fun h107 => ?_) (fun h107 => ?_)
          · obtain rfl : j = nF pg := by omega
            have h4 : 4 + nF pg ≤ sz := by apply Nat.le_of_not_lt; intro z; rw [atM_ge (by omega)] at h107; omega
            rw [atM_lt (by omega)] at h107
            refine j_aload_n iX6_read_112 rfl ?_
            refine j_iload_n iX6_read_113 rfl ?_
            refine j_iconst (v := nI 1) iX6_read_114 (by decide) ?_
            refine j_iaddN iX6_read_115  ?_
            refine j_top (y := nI (4 + nF pg)) (by rw [show 4 + nF pg = 3 + nF pg + 1 by omega]) ?_
            refine j_V1X (r := .null) (w' := []) okX6_readLeapers lk_X6_103 iX6_read_116 (by omega) (by repeat (first | exact hm | exact wset_lt (by (try simp only [List.length_set]); exact hl))) rfl ((hrl h4 h107 hj3)) rfl (Nat.le_of_ble_eq_true rfl) (Nat.le_of_ble_eq_true rfl) ?_
            rintro v u ⟨rfl, wh', nl', rfl, e1, e2⟩
            refine j_iret iX6_read_119 rfl (by first | rfl | exact nar_bI _ | exact nar_bP) ((by first | exact ⟨rfl, wh', nF pg, freeF pg (nF pg), nl', by rw [wset2], e1, fun z => ⟨rfl, rfl, e2 z⟩⟩ | exact ReadQ.no (a := nF pg) (b := fold (freeStep pg) j 0 0) (c := 0) (hfj j hj1 hj2 hj3 hj4 (by omega)) (fun z => (by omega)) rfl rfl))
          · refine j_iload_n iX6_read_110 rfl ?_
            refine j_iret iX6_read_111 rfl (by first | rfl | exact nar_bI _ | exact nar_bP) ((by first | exact ⟨rfl, wh', nF pg, freeF pg (nF pg), nl', by rw [wset2], e1, fun z => ⟨rfl, rfl, e2 z⟩⟩ | exact ReadQ.no (a := nF pg) (b := fold (freeStep pg) j 0 0) (c := 0) (hfj j hj1 hj2 hj3 hj4 (by omega)) (fun z => (by omega)) rfl rfl))
      · have hf : faultF pg sz = 2 := by
          have h2 : 1 < sz := by
            apply Nat.lt_of_not_le; intro z
            rw [atM_ge z] at hB; omega
          rw [atM_lt (by omega)] at hA hB
          refine fault_of (fun q h => ?_) h2 (fun z => by rw [fits_2]; rw [atM_lt z] at hC; exact decide_eq_false hC)
          have : q = 0 ∨ q = 1 := by omega
          rcases this with rfl | rfl
          · rw [fits_0]; exact decide_eq_true (by omega)
          · rw [fits_1]; exact decide_eq_true hB
        refine j_aload_n iX6_read_0 rfl ?_
        refine j_iconst (v := nI 0) iX6_read_1 (by decide) ?_
        refine j_put fk_X6_96 iX6_read_2 (by repeat (first | exact hm | exact wset_lt (by (try simp only [List.length_set]); exact hl))) (by intro; rfl) (by intro; rfl) (Nat.le_of_ble_eq_true rfl) ?_
        dsimp only [List.set]
        refine j_aload_n iX6_read_5 rfl ?_
        refine j_iconst (v := nI 0) iX6_read_6 (by decide) ?_
        refine j_put fk_X6_83 iX6_read_7 (by repeat (first | exact hm | exact wset_lt (by (try simp only [List.length_set]); exact hl))) (by intro; rfl) (by intro; rfl) (Nat.le_of_ble_eq_true rfl) ?_
        dsimp only [List.set]
        refine j_aload_n iX6_read_10 rfl ?_
        refine j_iconst (v := nI 0) iX6_read_11 (by decide) ?_
        refine j_put fk_X6_86 iX6_read_12 (by repeat (first | exact hm | exact wset_lt (by (try simp only [List.length_set]); exact hl))) (by intro; rfl) (by intro; rfl) (Nat.le_of_ble_eq_true rfl) ?_
        dsimp only [List.set]
        refine j_aload_n iX6_read_15 rfl ?_
        refine j_iconst (v := nI 0) iX6_read_16 (by decide) ?_
        refine j_V1R okX6_at lk_X6_79 iX6_read_17 (by omega) (by repeat (first | exact hm | exact wset_lt (by (try simp only [List.length_set]); exact hl))) rfl (m_at ((by repeat (first | assumption | refine wset_ne (by decide) ?_ | exact wset_lt (by (try simp only [List.length_set]); exact wsome (by assumption)))) : _ = some (oM bd R C fr lp lps sn sz (false) nc (0) (0) tl sd ik kb kf kl kn hh)) (by repeat (first | assumption | refine wset_ne (by decide) ?_ | exact wset_lt (by (try simp only [List.length_set]); exact wsome (by assumption)))) hsz 0 (by omega)) rfl (Nat.le_of_ble_eq_true rfl) (Nat.le_of_ble_eq_true rfl) ?_
        refine j_bipush (v := nI 48) iX6_read_20 (by decide) ?_
        refine j_isub iX6_read_22 ?_
        refine j_iconst (v := nI 2) iX6_read_23 (by decide) ?_
        refine j_iconst (v := nI 3) iX6_read_24 (by decide) ?_
        refine j_S3R okX6_within lk_X6_68 iX6_read_25 (by omega) (m_within _ _ _) rfl (Nat.le_of_ble_eq_true rfl) (Nat.le_of_ble_eq_true rfl) ?_
        refine j_if_neB (tgt := 33) iX6_read_28 (by decide) (fun _ => ?_) (fun hno => Bool.noConfusion (hno.symm.trans (show _ = true from by rw [wi23 _ (hat 0)]; exact decide_eq_true hA)))
        refine j_aload_n iX6_read_33 rfl ?_
        refine j_iconst (v := nI 1) iX6_read_34 (by decide) ?_
        refine j_V1R okX6_at lk_X6_79 iX6_read_35 (by omega) (by repeat (first | exact hm | exact wset_lt (by (try simp only [List.length_set]); exact hl))) rfl (m_at ((by repeat (first | assumption | refine wset_ne (by decide) ?_ | exact wset_lt (by (try simp only [List.length_set]); exact wsome (by assumption)))) : _ = some (oM bd R C fr lp lps sn sz (false) nc (0) (0) tl sd ik kb kf kl kn hh)) (by repeat (first | assumption | refine wset_ne (by decide) ?_ | exact wset_lt (by (try simp only [List.length_set]); exact wsome (by assumption)))) hsz 1 (by omega)) rfl (Nat.le_of_ble_eq_true rfl) (Nat.le_of_ble_eq_true rfl) ?_
        refine j_bipush (v := nI 48) iX6_read_38 (by decide) ?_
        refine j_isub iX6_read_40 ?_
        refine j_iconst (v := nI 2) iX6_read_41 (by decide) ?_
        refine j_iconst (v := nI 4) iX6_read_42 (by decide) ?_
        refine j_S3R okX6_within lk_X6_68 iX6_read_43 (by omega) (m_within _ _ _) rfl (Nat.le_of_ble_eq_true rfl) (Nat.le_of_ble_eq_true rfl) ?_
        refine j_if_neB (tgt := 51) iX6_read_46 (by decide) (fun _ => ?_) (fun hno => Bool.noConfusion (hno.symm.trans (show _ = true from by rw [wi24 _ (hat 1)]; exact decide_eq_true hB)))
        refine j_aload_n iX6_read_51 rfl ?_
        refine j_iconst (v := nI 2) iX6_read_52 (by decide) ?_
        refine j_V1R okX6_at lk_X6_79 iX6_read_53 (by omega) (by repeat (first | exact hm | exact wset_lt (by (try simp only [List.length_set]); exact hl))) rfl (m_at ((by repeat (first | assumption | refine wset_ne (by decide) ?_ | exact wset_lt (by (try simp only [List.length_set]); exact wsome (by assumption)))) : _ = some (oM bd R C fr lp lps sn sz (false) nc (0) (0) tl sd ik kb kf kl kn hh)) (by repeat (first | assumption | refine wset_ne (by decide) ?_ | exact wset_lt (by (try simp only [List.length_set]); exact wsome (by assumption)))) hsz 2 (by omega)) rfl (Nat.le_of_ble_eq_true rfl) (Nat.le_of_ble_eq_true rfl) ?_
        have hb56 := hat 2
        refine j_bipush (v := nI 59) iX6_read_56 (by decide) ?_
        refine j_icmp_eqN (tgt := 63) iX6_read_58 (by decide) (by omega) (by omega) (fun hno => by exfalso; omega) (fun _ => ?_)
        refine j_iconst (v := nI 2) iX6_read_61 (by decide) ?_
        refine j_iret iX6_read_62 rfl (by first | rfl | exact nar_bI _ | exact nar_bP) (ReadQ.no (a := nc) (b := 0) (c := 0) hf (fun z => by omega) rfl (by rw [wset2, wset2]; rfl))
    · have hf : faultF pg sz = 1 := by
        have h2 : 0 < sz := by
          apply Nat.lt_of_not_le; intro z
          rw [atM_ge z] at hA; omega
        rw [atM_lt (by omega)] at hA
        refine fault_of (fun q h => ?_) h2 (fun z => by rw [fits_1]; rw [atM_lt z] at hB; exact decide_eq_false hB)
        rw [show q = 0 by omega, fits_0]; exact decide_eq_true (by omega)
      refine j_aload_n iX6_read_0 rfl ?_
      refine j_iconst (v := nI 0) iX6_read_1 (by decide) ?_
      refine j_put fk_X6_96 iX6_read_2 (by repeat (first | exact hm | exact wset_lt (by (try simp only [List.length_set]); exact hl))) (by intro; rfl) (by intro; rfl) (Nat.le_of_ble_eq_true rfl) ?_
      dsimp only [List.set]
      refine j_aload_n iX6_read_5 rfl ?_
      refine j_iconst (v := nI 0) iX6_read_6 (by decide) ?_
      refine j_put fk_X6_83 iX6_read_7 (by repeat (first | exact hm | exact wset_lt (by (try simp only [List.length_set]); exact hl))) (by intro; rfl) (by intro; rfl) (Nat.le_of_ble_eq_true rfl) ?_
      dsimp only [List.set]
      refine j_aload_n iX6_read_10 rfl ?_
      refine j_iconst (v := nI 0) iX6_read_11 (by decide) ?_
      refine j_put fk_X6_86 iX6_read_12 (by repeat (first | exact hm | exact wset_lt (by (try simp only [List.length_set]); exact hl))) (by intro; rfl) (by intro; rfl) (Nat.le_of_ble_eq_true rfl) ?_
      dsimp only [List.set]
      refine j_aload_n iX6_read_15 rfl ?_
      refine j_iconst (v := nI 0) iX6_read_16 (by decide) ?_
      refine j_V1R okX6_at lk_X6_79 iX6_read_17 (by omega) (by repeat (first | exact hm | exact wset_lt (by (try simp only [List.length_set]); exact hl))) rfl (m_at ((by repeat (first | assumption | refine wset_ne (by decide) ?_ | exact wset_lt (by (try simp only [List.length_set]); exact wsome (by assumption)))) : _ = some (oM bd R C fr lp lps sn sz (false) nc (0) (0) tl sd ik kb kf kl kn hh)) (by repeat (first | assumption | refine wset_ne (by decide) ?_ | exact wset_lt (by (try simp only [List.length_set]); exact wsome (by assumption)))) hsz 0 (by omega)) rfl (Nat.le_of_ble_eq_true rfl) (Nat.le_of_ble_eq_true rfl) ?_
      refine j_bipush (v := nI 48) iX6_read_20 (by decide) ?_
      refine j_isub iX6_read_22 ?_
      refine j_iconst (v := nI 2) iX6_read_23 (by decide) ?_
      refine j_iconst (v := nI 3) iX6_read_24 (by decide) ?_
      refine j_S3R okX6_within lk_X6_68 iX6_read_25 (by omega) (m_within _ _ _) rfl (Nat.le_of_ble_eq_true rfl) (Nat.le_of_ble_eq_true rfl) ?_
      refine j_if_neB (tgt := 33) iX6_read_28 (by decide) (fun _ => ?_) (fun hno => Bool.noConfusion (hno.symm.trans (show _ = true from by rw [wi23 _ (hat 0)]; exact decide_eq_true hA)))
      refine j_aload_n iX6_read_33 rfl ?_
      refine j_iconst (v := nI 1) iX6_read_34 (by decide) ?_
      refine j_V1R okX6_at lk_X6_79 iX6_read_35 (by omega) (by repeat (first | exact hm | exact wset_lt (by (try simp only [List.length_set]); exact hl))) rfl (m_at ((by repeat (first | assumption | refine wset_ne (by decide) ?_ | exact wset_lt (by (try simp only [List.length_set]); exact wsome (by assumption)))) : _ = some (oM bd R C fr lp lps sn sz (false) nc (0) (0) tl sd ik kb kf kl kn hh)) (by repeat (first | assumption | refine wset_ne (by decide) ?_ | exact wset_lt (by (try simp only [List.length_set]); exact wsome (by assumption)))) hsz 1 (by omega)) rfl (Nat.le_of_ble_eq_true rfl) (Nat.le_of_ble_eq_true rfl) ?_
      refine j_bipush (v := nI 48) iX6_read_38 (by decide) ?_
      refine j_isub iX6_read_40 ?_
      refine j_iconst (v := nI 2) iX6_read_41 (by decide) ?_
      refine j_iconst (v := nI 4) iX6_read_42 (by decide) ?_
      refine j_S3R okX6_within lk_X6_68 iX6_read_43 (by omega) (m_within _ _ _) rfl (Nat.le_of_ble_eq_true rfl) (Nat.le_of_ble_eq_true rfl) ?_
      refine j_if_neB (tgt := 51) iX6_read_46 (by decide) (fun hno => Bool.noConfusion (hno.symm.trans (show _ = false from by rw [wi24 _ (hat 1)]; exact decide_eq_false hB))) (fun _ => ?_)
      refine j_iconst (v := nI 1) iX6_read_49 (by decide) ?_
      refine j_iret iX6_read_50 rfl (by first | rfl | exact nar_bI _ | exact nar_bP) (ReadQ.no (a := nc) (b := 0) (c := 0) hf (fun z => by omega) rfl (by rw [wset2, wset2]; rfl))
  · have hf : faultF pg sz = 0 := fault_of (fun q h => by omega) (Nat.zero_le _) (fun z => by rw [fits_0]; rw [atM_lt z] at hA; exact decide_eq_false (by omega))
    refine j_aload_n iX6_read_0 rfl ?_
    refine j_iconst (v := nI 0) iX6_read_1 (by decide) ?_
    refine j_put fk_X6_96 iX6_read_2 (by repeat (first | exact hm | exact wset_lt (by (try simp only [List.length_set]); exact hl))) (by intro; rfl) (by intro; rfl) (Nat.le_of_ble_eq_true rfl) ?_
    dsimp only [List.set]
    refine j_aload_n iX6_read_5 rfl ?_
    refine j_iconst (v := nI 0) iX6_read_6 (by decide) ?_
    refine j_put fk_X6_83 iX6_read_7 (by repeat (first | exact hm | exact wset_lt (by (try simp only [List.length_set]); exact hl))) (by intro; rfl) (by intro; rfl) (Nat.le_of_ble_eq_true rfl) ?_
    dsimp only [List.set]
    refine j_aload_n iX6_read_10 rfl ?_
    refine j_iconst (v := nI 0) iX6_read_11 (by decide) ?_
    refine j_put fk_X6_86 iX6_read_12 (by repeat (first | exact hm | exact wset_lt (by (try simp only [List.length_set]); exact hl))) (by intro; rfl) (by intro; rfl) (Nat.le_of_ble_eq_true rfl) ?_
    dsimp only [List.set]
    refine j_aload_n iX6_read_15 rfl ?_
    refine j_iconst (v := nI 0) iX6_read_16 (by decide) ?_
    refine j_V1R okX6_at lk_X6_79 iX6_read_17 (by omega) (by repeat (first | exact hm | exact wset_lt (by (try simp only [List.length_set]); exact hl))) rfl (m_at ((by repeat (first | assumption | refine wset_ne (by decide) ?_ | exact wset_lt (by (try simp only [List.length_set]); exact wsome (by assumption)))) : _ = some (oM bd R C fr lp lps sn sz (false) nc (0) (0) tl sd ik kb kf kl kn hh)) (by repeat (first | assumption | refine wset_ne (by decide) ?_ | exact wset_lt (by (try simp only [List.length_set]); exact wsome (by assumption)))) hsz 0 (by omega)) rfl (Nat.le_of_ble_eq_true rfl) (Nat.le_of_ble_eq_true rfl) ?_
    refine j_bipush (v := nI 48) iX6_read_20 (by decide) ?_
    refine j_isub iX6_read_22 ?_
    refine j_iconst (v := nI 2) iX6_read_23 (by decide) ?_
    refine j_iconst (v := nI 3) iX6_read_24 (by decide) ?_
    refine j_S3R okX6_within lk_X6_68 iX6_read_25 (by omega) (m_within _ _ _) rfl (Nat.le_of_ble_eq_true rfl) (Nat.le_of_ble_eq_true rfl) ?_
    refine j_if_neB (tgt := 33) iX6_read_28 (by decide) (fun hno => Bool.noConfusion (hno.symm.trans (show _ = false from by rw [wi23 _ (hat 0)]; exact decide_eq_false hA))) (fun _ => ?_)
    refine j_iconst (v := nI 0) iX6_read_31 (by decide) ?_
    refine j_iret iX6_read_32 rfl (by first | rfl | exact nar_bI _ | exact nar_bP) (ReadQ.no (a := nc) (b := 0) (c := 0) hf (fun z => by omega) rfl (by rw [wset2, wset2]; rfl))
end
