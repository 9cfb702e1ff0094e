/-! ===== the class: its digest ===== -/
theorem leaperV_eq {C N fr lp sn : Nat} {ks sts sof sso rr cc cn st0 : Nat → Nat} {j y : Nat} (hN : N ≤ 12) (hfr : fr < 2 ^ N) (hj : j < lp) (hs : sts j < N) (hks : ks j < 5) (hse : ∀ i, i < sn → sso i = seeS (rr i) (cc i) (decide (cn i = 1))) (hy : y < 8) : leaperV C N fr lp sn ks sts sof sso st0 j y = leaperM C N fr lp sn ks sts sof rr cc cn j y := by
  have hw := way_eq (C := C) (ks := ks) (sts := sts) (st0 := st0) hN hfr hj hs hks
  have hso := sorts_eq (sof := sof) hse j
  rcases (show y = 0 ∨ y = 1 ∨ y = 2 ∨ y = 3 ∨ y = 4 ∨ y = 5 ∨ y = 6 ∨ y = 7 by omega) with rfl | rfl | rfl | rfl | rfl | rfl | rfl | rfl
  · rfl
  · rfl
  · rfl
  · rfl
  · simp only [leaperV, leaperM]; rw [hso]
  · simp only [leaperV, leaperM]; rw [hso]
  · simp only [leaperV, leaperM]; rw [hw.1]
  · simp only [leaperV, leaperM]; rw [hw.2]
def leaperT (C N fr lp sn : Nat) (ks sts sof sso : Nat → Nat) (j y : Nat) : Int32 := leaperV C N fr lp sn ks sts sof sso (fun _ => 0) j y
theorem leaperV_T {C N fr lp sn : Nat} {ks sts sof sso st0 : Nat → Nat} {j y : Nat} (hN : N ≤ 12) (hfr : fr < 2 ^ N) (hj : j < lp) (hs : sts j < N) (hks : ks j < 5) : leaperV C N fr lp sn ks sts sof sso st0 j y = leaperT C N fr lp sn ks sts sof sso j y := by
  have hw := way_eq (C := C) (ks := ks) (sts := sts) (st0 := st0) hN hfr hj hs hks
  have hw2 := way_eq (C := C) (ks := ks) (sts := sts) (st0 := fun _ => 0) hN hfr hj hs hks
  unfold leaperT leaperV
  split
  · rfl
  · rfl
  · rfl
  · rfl
  · rfl
  · rfl
  · rw [← hw.1, ← hw2.1]
  · rw [← hw.2, ← hw2.2]
def mxL (h : Int64) (v : Int32) : Int64 := 31 * h + v.toInt64
def dgL (C N fr lp sn : Nat) (ks sts sof sso : Nat → Nat) (j : Nat) (h : Int64) : Int64 := mxL (mxL (fold (fun y h => mxL h (leaperT C N fr lp sn ks sts sof sso j y)) 8 0 h) (oN (fwF (fanF C N (ks j)) (sts j) 0 (emptyF fr lp sts)))) (nI (chanceV C N fr lp ks sts j 3 3))
def dgC (C N fr lp : Nat) (ks sts : Nat → Nat) (c : Nat) (h : Int64) : Int64 := fold (fun y h => mxL h (cellV C N fr lp ks sts c y)) 3 0 h
def dgK (C N fr : Nat) (k : Nat) (h : Int64) : Int64 := mxL (mxL (mxL (mxL (mxL (mxL h (nI (peaceV C N fr k 0))) (nI (peaceV C N fr k 1))) (nI (guardV C N fr k 0))) (nI (guardV C N fr k 1))) (nI (partsV C N fr k 0))) (nI (partsV C N fr k 1))
def dg1 (C N fr lp sn : Nat) (ks sts sof sso : Nat → Nat) (h : Int64) : Int64 := fold (dgL C N fr lp sn ks sts sof sso) lp 0 h
def dg2 (C N fr lp : Nat) (ks sts : Nat → Nat) (h : Int64) : Int64 := fold (dgC C N fr lp ks sts) N 0 h
def dg3 (C N fr lp : Nat) (h : Int64) : Int64 := if 0 < lp then fold (dgK C N fr) 5 0 h else h
def dg4 (C N fr lp : Nat) (ks sts : Nat → Nat) (h : Int64) : Int64 := if 2 ≤ lp then mxL h (tradeV C N fr lp ks sts 0 1) else h
def dg5 (pg : Nat → Nat) (sz : Nat) (h : Int64) : Int64 := fold (fun p h => mxL h (nI (pg p))) sz 0 h
def dg6 (R C fr lp lps sn sz rd : Nat) (ks sts : Nat → Nat) (h : Int64) : Int64 := fold (fun y h => mxL h (nI (countV R C fr lp lps sn sz rd ks sts y))) 9 0 h
def digT (R C fr lp lps sn sz rd : Nat) (ks sts sof sso pg : Nat → Nat) : Int64 := dg6 R C fr lp lps sn sz rd ks sts (dg5 pg sz (dg4 C (R * C) fr lp ks sts (dg3 C (R * C) fr lp (dg2 C (R * C) fr lp ks sts (dg1 C (R * C) fr lp sn ks sts sof sso 1301)))))
section
variable {w : mW}
theorem c_mix (h t : Int64) : JR 0 mX5_mix [.long h, .long t] w (.long (31 * h + t)) w := by
  refine j_start (ls := [.long h, .null, .long t, .null]) rfl ?_
  refine j_ldc2 iX5_mix_0 kc_X5_259 ?_
  refine j_lload_n iX5_mix_3 rfl ?_
  refine j_lmul iX5_mix_4 ?_
  refine j_lload_n iX5_mix_5 rfl ?_
  refine j_ladd iX5_mix_6 ?_
  refine j_lret iX5_mix_7 rfl (⟨rfl, rfl⟩)
variable {R C sz rd fr lp lps sn : Nat} {pg ks sts sof sso : Nat → Nat} {ik : Bool} {K : Sc}
theorem c_mixLeapers (hC : CW w R C sz pg ik rd ((fr, lp, lps, sn), (ks, sts, sof, sso)) K) (hN : R * C ≤ 12) (hfr : fr < 2 ^ (R * C)) (hV : SV fr lp sn ks sts sof sso) (hsN : ∀ i, i < lp → sts i < R * C) (h4 : lp = 0 ∨ 4 ≤ R * C) (h0 : Int64) :
    JX 6 mX5_mixLeapers [.ref 0, .long h0] w (fun v u => v = some (.long (dg1 C (R * C) fr lp sn ks sts sof sso h0)) ∧ Keep w u) := by
  have hV2 := hV
  obtain ⟨v1, v2, v3, v4, v5, v6, v7⟩ := hV2
  obtain ⟨w0, wP, wG, wN, wK, wTr, wT, wD⟩ := id hC
  have wN : NOW w fr lp lps sn ks sts sof sso := wN
  have LI : ∀ (j : Nat) (F : Int64) (u : mW), Keep w u → j < lp → (∀ u', Keep w u' → J 6 mX5_mixLeapers 47 [.ref 0, .long h0, .null, .long F, .null, .int (nI j), .null] [] u' (fun v x => v = some (.long (dg1 C (R * C) fr lp sn ks sts sof sso h0)) ∧ Keep w x)) →
      ∀ (n y : Nat) (h : Int64) (u : mW), y + n = 8 → Keep w u → fold (fun y h => mxL h (leaperT C (R * C) fr lp sn ks sts sof sso j y)) n y h = F → J 6 mX5_mixLeapers 20 [.ref 0, .long h0, .null, .long h, .null, .int (nI j), .int (nI y)] [] u (fun v x => v = some (.long (dg1 C (R * C) fr lp sn ks sts sof sso h0)) ∧ Keep w x) := by
    intro j F _ _ hj kk n
    induction n with
    | zero =>
      intro y h u hy hu he
      have e : h = F := he
      subst e
      refine j_iload iX5_mixLeapers_20 rfl ?_
      refine j_bipush (v := nI 7) iX5_mixLeapers_22 (by decide) ?_
      refine j_icmp_gtN (tgt := 47) iX5_mixLeapers_24 (by decide) (by omega) (by omega) (fun _ => ?_) (fun hno => by exfalso; omega)
      exact J.fg (kk u hu) (by first | (simp [LF]; done) | (simp [LF, bI]; done))
    | succ n ih =>
      intro y h u hy hu he
      have e0 := hu.get w0 (by decide)
      refine j_iload iX5_mixLeapers_20 rfl ?_
      refine j_bipush (v := nI 7) iX5_mixLeapers_22 (by decide) ?_
      refine j_icmp_gtN (tgt := 47) iX5_mixLeapers_24 (by decide) (by omega) (by omega) (fun hno => by exfalso; omega) (fun _ => ?_)
      refine j_lload_n iX5_mixLeapers_27 rfl ?_
      refine j_aload_n iX5_mixLeapers_28 rfl ?_
      refine j_iload iX5_mixLeapers_29 rfl ?_
      refine j_iload iX5_mixLeapers_31 rfl ?_
      refine j_V2X (r := .null) (w' := []) okX5_leaper lk_X5_261 iX5_mixLeapers_33 (by omega) (by repeat (first | assumption | refine wset_ne (by decide) ?_ | exact wset_lt (by (try simp only [List.length_set]); exact wsome (by assumption)))) rfl ((c_leaper e0 (hu.GW wG) hN hu.2 (hu.NOW wN) hV j y hj (by omega))) rfl (Nat.le_of_ble_eq_true rfl) (Nat.le_of_ble_eq_true rfl) ?_
      rintro v x ⟨⟨st0, rfl⟩, hx⟩
      rw [leaperV_T hN hfr hj (hsN j hj) (v4 j)]
      refine j_i2l iX5_mixLeapers_36 ?_
      refine j_S2R okX5_mix lk_X5_249 iX5_mixLeapers_37 (by omega) (c_mix _ _) rfl (Nat.le_of_ble_eq_true rfl) (Nat.le_of_ble_eq_true rfl) ?_
      refine j_lstore_n iX5_mixLeapers_40 (by decide) rfl ?_
      dsimp only [List.set]
      refine j_iincN iX5_mixLeapers_41 rfl (by decide) rfl ?_
      dsimp only [List.set]
      refine j_goto (tgt := 20) iX5_mixLeapers_44 (by decide) ?_
      exact ih (y + 1) _ x (by omega) (hu.tr hx) he
  have L : ∀ (n j : Nat) (h : Int64) (u : mW), j + n = lp → Keep w u → fold (dgL C (R * C) fr lp sn ks sts sof sso) n j h = dg1 C (R * C) fr lp sn ks sts sof sso h0 → J 6 mX5_mixLeapers 5 [.ref 0, .long h0, .null, .long h, .null, .int (nI j), .null] [] u (fun v x => v = some (.long (dg1 C (R * C) fr lp sn ks sts sof sso h0)) ∧ Keep w x) := by
    intro n
    induction n with
    | zero =>
      intro j h u hj hu he
      have e : h = dg1 C (R * C) fr lp sn ks sts sof sso h0 := he
      have e0 := hu.get w0 (by decide)
      have e3 := hu.get wN.1 (by decide)
      refine j_iload iX5_mixLeapers_5 rfl ?_
      refine j_aload_n iX5_mixLeapers_7 rfl ?_
      refine j_get fk_X5_26 iX5_mixLeapers_8 (by repeat (first | assumption | refine wset_ne (by decide) ?_ | exact wset_lt (by (try simp only [List.length_set]); exact wsome (by assumption)))) (by rfl) ?_
      refine j_get fk_X5_95 iX5_mixLeapers_11 (by repeat (first | assumption | refine wset_ne (by decide) ?_ | exact wset_lt (by (try simp only [List.length_set]); exact wsome (by assumption)))) (by rfl) ?_
      refine j_icmp_geN (tgt := 80) iX5_mixLeapers_14 (by decide) (by omega) (by omega) (fun _ => ?_) (fun hno => by exfalso; omega)
      refine j_lload_n iX5_mixLeapers_80 rfl ?_
      refine j_lret iX5_mixLeapers_81 rfl (⟨by rw [e], hu⟩)
    | succ n ih =>
      intro j h u hj hu he
      have e0 := hu.get w0 (by decide)
      have e3 := hu.get wN.1 (by decide)
      have K47 : ∀ u', Keep w u' → J 6 mX5_mixLeapers 47 [.ref 0, .long h0, .null, .long (fold (fun y h => mxL h (leaperT C (R * C) fr lp sn ks sts sof sso j y)) 8 0 h), .null, .int (nI j), .null] [] u' (fun v x => v = some (.long (dg1 C (R * C) fr lp sn ks sts sof sso h0)) ∧ Keep w x) := by
        intro u' hu'
        have e0' := hu'.get w0 (by decide)
        refine j_lload_n iX5_mixLeapers_47 rfl ?_
        refine j_aload_n iX5_mixLeapers_48 rfl ?_
        refine j_iload iX5_mixLeapers_49 rfl ?_
        refine j_iconst (v := nI 0) iX5_mixLeapers_51 (by decide) ?_
        refine j_V2R okX5_hops lk_X5_264 iX5_mixLeapers_52 (by omega) (by repeat (first | assumption | refine wset_ne (by decide) ?_ | exact wset_lt (by (try simp only [List.length_set]); exact wsome (by assumption)))) rfl (c_hops e0' (hu'.GW wG) hN (hu'.NOW wN) hV j 0 (by omega) (by omega)) rfl (Nat.le_of_ble_eq_true rfl) (Nat.le_of_ble_eq_true rfl) ?_
        refine j_i2l iX5_mixLeapers_55 ?_
        refine j_S2R okX5_mix lk_X5_249 iX5_mixLeapers_56 (by omega) (c_mix _ _) rfl (Nat.le_of_ble_eq_true rfl) (Nat.le_of_ble_eq_true rfl) ?_
        refine j_lstore_n iX5_mixLeapers_59 (by decide) rfl ?_
        dsimp only [List.set]
        refine j_lload_n iX5_mixLeapers_60 rfl ?_
        refine j_aload_n iX5_mixLeapers_61 rfl ?_
        refine j_iload iX5_mixLeapers_62 rfl ?_
        refine j_iconst (v := nI 3) iX5_mixLeapers_64 (by decide) ?_
        refine j_iconst (v := nI 3) iX5_mixLeapers_65 (by decide) ?_
        refine j_V3X (r := .null) (w' := []) okX5_chance lk_X5_267 iX5_mixLeapers_66 (by omega) (by repeat (first | assumption | refine wset_ne (by decide) ?_ | exact wset_lt (by (try simp only [List.length_set]); exact wsome (by assumption)))) rfl ((c_chance e0' (hu'.GW wG) hN hu'.2 (hu'.NOW wN) hV j 3 3 (by omega) (by omega) (by decide))) rfl (Nat.le_of_ble_eq_true rfl) (Nat.le_of_ble_eq_true rfl) ?_
        rintro v x ⟨rfl, hx⟩
        refine j_i2l iX5_mixLeapers_69 ?_
        refine j_S2R okX5_mix lk_X5_249 iX5_mixLeapers_70 (by omega) (c_mix _ _) rfl (Nat.le_of_ble_eq_true rfl) (Nat.le_of_ble_eq_true rfl) ?_
        refine j_lstore_n iX5_mixLeapers_73 (by decide) rfl ?_
        dsimp only [List.set]
        refine j_iincN iX5_mixLeapers_74 rfl (by decide) rfl ?_
        dsimp only [List.set]
        refine j_goto (tgt := 5) iX5_mixLeapers_77 (by decide) ?_
        exact ih (j + 1) _ x (by omega) (hu'.tr hx) he
      have hI := LI j _ u hu (by omega) K47 8 0 h u rfl hu rfl
      refine j_iload iX5_mixLeapers_5 rfl ?_
      refine j_aload_n iX5_mixLeapers_7 rfl ?_
      refine j_get fk_X5_26 iX5_mixLeapers_8 (by repeat (first | assumption | refine wset_ne (by decide) ?_ | exact wset_lt (by (try simp only [List.length_set]); exact wsome (by assumption)))) (by rfl) ?_
      refine j_get fk_X5_95 iX5_mixLeapers_11 (by repeat (first | assumption | refine wset_ne (by decide) ?_ | exact wset_lt (by (try simp only [List.length_set]); exact wsome (by assumption)))) (by rfl) ?_
      refine j_icmp_geN (tgt := 80) iX5_mixLeapers_14 (by decide) (by omega) (by omega) (fun hno => by exfalso; omega) (fun _ => ?_)
      refine j_iconst (v := nI 0) iX5_mixLeapers_17 (by decide) ?_
      refine j_istore iX5_mixLeapers_18 (by decide) rfl ?_
      dsimp only [List.set]
      exact hI
  refine j_start (ls := [.ref 0, .long h0, .null, .null, .null, .null, .null]) rfl ?_
  refine j_lload_n iX5_mixLeapers_0 rfl ?_
  refine j_lstore_n iX5_mixLeapers_1 (by decide) rfl ?_
  dsimp only [List.set]
  refine j_iconst (v := nI 0) iX5_mixLeapers_2 (by decide) ?_
  refine j_istore iX5_mixLeapers_3 (by decide) rfl ?_
  dsimp only [List.set]
  exact L lp 0 h0 w (by omega) (Keep.rf wT) rfl
theorem c_mixCells (hC : CW w R C sz pg ik rd ((fr, lp, lps, sn), (ks, sts, sof, sso)) K) (hN : R * C ≤ 12) (hV : SV fr lp sn ks sts sof sso) (h0 : Int64) :
    JR 6 mX5_mixCells [.ref 0, .long h0] w (.long (dg2 C (R * C) fr lp ks sts h0)) w := by
  obtain ⟨w0, wP, wG, wN, wK, wTr, wT, wD⟩ := id hC
  have wN : NOW w fr lp lps sn ks sts sof sso := wN
  obtain ⟨g2, -⟩ := id wG
  have LI : ∀ (c : Nat) (F : Int64), c < R * C → (J 6 mX5_mixCells 46 [.ref 0, .long h0, .null, .long F, .null, .int (nI c), .null] [] w (fun v x => v = some (.long (dg2 C (R * C) fr lp ks sts h0)) ∧ x = w)) →
      ∀ (n y : Nat) (h : Int64), y + n = 3 → fold (fun y h => mxL h (cellV C (R * C) fr lp ks sts c y)) n y h = F → J 6 mX5_mixCells 20 [.ref 0, .long h0, .null, .long h, .null, .int (nI c), .int (nI y)] [] w (fun v x => v = some (.long (dg2 C (R * C) fr lp ks sts h0)) ∧ x = w) := by
    intro c F hc kk n
    induction n with
    | zero =>
      intro y h hy he
      have e : h = F := he
      subst e
      refine j_iload iX5_mixCells_20 rfl ?_
      refine j_iconst (v := nI 2) iX5_mixCells_22 (by decide) ?_
      refine j_icmp_gtN (tgt := 46) iX5_mixCells_23 (by decide) (by omega) (by omega) (fun _ => ?_) (fun hno => by exfalso; omega)
      exact J.fg kk (by first | (simp [LF]; done) | (simp [LF, bI]; done))
    | succ n ih =>
      intro y h hy he
      refine j_iload iX5_mixCells_20 rfl ?_
      refine j_iconst (v := nI 2) iX5_mixCells_22 (by decide) ?_
      refine j_icmp_gtN (tgt := 46) iX5_mixCells_23 (by decide) (by omega) (by omega) (fun hno => by exfalso; omega) (fun _ => ?_)
      refine j_lload_n iX5_mixCells_26 rfl ?_
      refine j_aload_n iX5_mixCells_27 rfl ?_
      refine j_iload iX5_mixCells_28 rfl ?_
      refine j_iload iX5_mixCells_30 rfl ?_
      refine j_V2R okX5_cell lk_X5_271 iX5_mixCells_32 (by omega) (by repeat (first | assumption | refine wset_ne (by decide) ?_ | exact wset_lt (by (try simp only [List.length_set]); exact wsome (by assumption)))) rfl (c_cell w0 wG hN wN hV c y hc (by omega)) rfl (Nat.le_of_ble_eq_true rfl) (Nat.le_of_ble_eq_true rfl) ?_
      refine j_i2l iX5_mixCells_35 ?_
      refine j_S2R okX5_mix lk_X5_249 iX5_mixCells_36 (by omega) (c_mix _ _) rfl (Nat.le_of_ble_eq_true rfl) (Nat.le_of_ble_eq_true rfl) ?_
      refine j_lstore_n iX5_mixCells_39 (by decide) rfl ?_
      dsimp only [List.set]
      refine j_iincN iX5_mixCells_40 rfl (by decide) rfl ?_
      dsimp only [List.set]
      refine j_goto (tgt := 20) iX5_mixCells_43 (by decide) ?_
      exact ih (y + 1) _ (by omega) he
  have L : ∀ (n c : Nat) (h : Int64), c + n = R * C → fold (dgC C (R * C) fr lp ks sts) n c h = dg2 C (R * C) fr lp ks sts h0 → J 6 mX5_mixCells 5 [.ref 0, .long h0, .null, .long h, .null, .int (nI c), .null] [] w (fun v x => v = some (.long (dg2 C (R * C) fr lp ks sts h0)) ∧ x = w) := by
    intro n
    induction n with
    | zero =>
      intro c h hc he
      have e : h = dg2 C (R * C) fr lp ks sts h0 := he
      refine j_iload iX5_mixCells_5 rfl ?_
      refine j_aload_n iX5_mixCells_7 rfl ?_
      refine j_get fk_X5_19 iX5_mixCells_8 (by repeat (first | assumption | refine wset_ne (by decide) ?_ | exact wset_lt (by (try simp only [List.length_set]); exact wsome (by assumption)))) (by rfl) ?_
      refine j_get fk_X5_117 iX5_mixCells_11 (by repeat (first | assumption | refine wset_ne (by decide) ?_ | exact wset_lt (by (try simp only [List.length_set]); exact wsome (by assumption)))) (by rfl) ?_
      refine j_icmp_geN (tgt := 52) iX5_mixCells_14 (by decide) (by omega) (by omega) (fun _ => ?_) (fun hno => by exfalso; omega)
      refine j_lload_n iX5_mixCells_52 rfl ?_
      refine j_lret iX5_mixCells_53 rfl (⟨by rw [e], rfl⟩)
    | succ n ih =>
      intro c h hc he
      have K46 : J 6 mX5_mixCells 46 [.ref 0, .long h0, .null, .long (dgC C (R * C) fr lp ks sts c h), .null, .int (nI c), .null] [] w (fun v x => v = some (.long (dg2 C (R * C) fr lp ks sts h0)) ∧ x = w) := by
        refine j_iincN iX5_mixCells_46 rfl (by decide) rfl ?_
        dsimp only [List.set]
        refine j_goto (tgt := 5) iX5_mixCells_49 (by decide) ?_
        exact ih (c + 1) _ (by omega) he
      have hI := LI c _ (by omega) K46 3 0 h rfl rfl
      refine j_iload iX5_mixCells_5 rfl ?_
      refine j_aload_n iX5_mixCells_7 rfl ?_
      refine j_get fk_X5_19 iX5_mixCells_8 (by repeat (first | assumption | refine wset_ne (by decide) ?_ | exact wset_lt (by (try simp only [List.length_set]); exact wsome (by assumption)))) (by rfl) ?_
      refine j_get fk_X5_117 iX5_mixCells_11 (by repeat (first | assumption | refine wset_ne (by decide) ?_ | exact wset_lt (by (try simp only [List.length_set]); exact wsome (by assumption)))) (by rfl) ?_
      refine j_icmp_geN (tgt := 52) iX5_mixCells_14 (by decide) (by omega) (by omega) (fun hno => by exfalso; omega) (fun _ => ?_)
      refine j_iconst (v := nI 0) iX5_mixCells_17 (by decide) ?_
      refine j_istore iX5_mixCells_18 (by decide) rfl ?_
      dsimp only [List.set]
      exact hI
  refine j_start (ls := [.ref 0, .long h0, .null, .null, .null, .null, .null]) rfl ?_
  refine j_lload_n iX5_mixCells_0 rfl ?_
  refine j_lstore_n iX5_mixCells_1 (by decide) rfl ?_
  dsimp only [List.set]
  refine j_iconst (v := nI 0) iX5_mixCells_2 (by decide) ?_
  refine j_istore iX5_mixCells_3 (by decide) rfl ?_
  dsimp only [List.set]
  exact L (R * C) 0 h0 (by omega) rfl
theorem c_mixKinds (hC : CW w R C sz pg ik rd ((fr, lp, lps, sn), (ks, sts, sof, sso)) K) (hN : R * C ≤ 12) (hV : SV fr lp sn ks sts sof sso) (hl : 0 < lp) (h0 : Int64) :
    JR 21 mX5_mixKinds [.ref 0, .long h0] w (.long (fold (dgK C (R * C) fr) 5 0 h0)) w := by
  obtain ⟨w0, wP, wG, wN, wK, wTr, wT, wD⟩ := id hC
  have wN : NOW w fr lp lps sn ks sts sof sso := wN
  have L : ∀ (n k : Nat) (h : Int64), k + n = 5 → fold (dgK C (R * C) fr) n k h = fold (dgK C (R * C) fr) 5 0 h0 → J 21 mX5_mixKinds 5 [.ref 0, .long h0, .null, .long h, .null, .int (nI k)] [] w (fun v x => v = some (.long (fold (dgK C (R * C) fr) 5 0 h0)) ∧ x = w) := by
    intro n
    induction n with
    | zero =>
      intro k h hk he
      have e : h = fold (dgK C (R * C) fr) 5 0 h0 := he
      refine j_iload iX5_mixKinds_5 rfl ?_
      refine j_iconst (v := nI 5) iX5_mixKinds_7 (by decide) ?_
      refine j_icmp_geN (tgt := 95) iX5_mixKinds_8 (by decide) (by omega) (by omega) (fun _ => ?_) (fun hno => by exfalso; omega)
      refine j_lload_n iX5_mixKinds_95 rfl ?_
      refine j_lret iX5_mixKinds_96 rfl (⟨by rw [e], rfl⟩)
    | succ n ih =>
      intro k h hk he
      refine j_iload iX5_mixKinds_5 rfl ?_
      refine j_iconst (v := nI 5) iX5_mixKinds_7 (by decide) ?_
      refine j_icmp_geN (tgt := 95) iX5_mixKinds_8 (by decide) (by omega) (by omega) (fun hno => by exfalso; omega) (fun _ => ?_)
      refine j_lload_n iX5_mixKinds_11 rfl ?_
      refine j_aload_n iX5_mixKinds_12 rfl ?_
      refine j_iload iX5_mixKinds_13 rfl ?_
      refine j_iconst (v := nI 0) iX5_mixKinds_15 (by decide) ?_
      refine j_V2R okX5_peace lk_X5_274 iX5_mixKinds_16 (by omega) (by repeat (first | assumption | refine wset_ne (by decide) ?_ | exact wset_lt (by (try simp only [List.length_set]); exact wsome (by assumption)))) rfl (c_peace w0 wG hN wN hV hl k 0 (by omega) (by decide)) rfl (Nat.le_of_ble_eq_true rfl) (Nat.le_of_ble_eq_true rfl) ?_
      refine j_i2l iX5_mixKinds_19 ?_
      refine j_S2R okX5_mix lk_X5_249 iX5_mixKinds_20 (by omega) (c_mix _ _) rfl (Nat.le_of_ble_eq_true rfl) (Nat.le_of_ble_eq_true rfl) ?_
      refine j_lstore_n iX5_mixKinds_23 (by decide) rfl ?_
      dsimp only [List.set]
      refine j_lload_n iX5_mixKinds_24 rfl ?_
      refine j_aload_n iX5_mixKinds_25 rfl ?_
      refine j_iload iX5_mixKinds_26 rfl ?_
      refine j_iconst (v := nI 1) iX5_mixKinds_28 (by decide) ?_
      refine j_V2R okX5_peace lk_X5_274 iX5_mixKinds_29 (by omega) (by repeat (first | assumption | refine wset_ne (by decide) ?_ | exact wset_lt (by (try simp only [List.length_set]); exact wsome (by assumption)))) rfl (c_peace w0 wG hN wN hV hl k 1 (by omega) (by decide)) rfl (Nat.le_of_ble_eq_true rfl) (Nat.le_of_ble_eq_true rfl) ?_
      refine j_i2l iX5_mixKinds_32 ?_
      refine j_S2R okX5_mix lk_X5_249 iX5_mixKinds_33 (by omega) (c_mix _ _) rfl (Nat.le_of_ble_eq_true rfl) (Nat.le_of_ble_eq_true rfl) ?_
      refine j_lstore_n iX5_mixKinds_36 (by decide) rfl ?_
      dsimp only [List.set]
      refine j_lload_n iX5_mixKinds_37 rfl ?_
      refine j_aload_n iX5_mixKinds_38 rfl ?_
      refine j_iload iX5_mixKinds_39 rfl ?_
      refine j_iconst (v := nI 0) iX5_mixKinds_41 (by decide) ?_
      refine j_V2R okX5_guard lk_X5_277 iX5_mixKinds_42 (by omega) (by repeat (first | assumption | refine wset_ne (by decide) ?_ | exact wset_lt (by (try simp only [List.length_set]); exact wsome (by assumption)))) rfl (c_guard w0 wG hN wN hV hl k 0 (by omega) (by decide)) rfl (Nat.le_of_ble_eq_true rfl) (Nat.le_of_ble_eq_true rfl) ?_
      refine j_i2l iX5_mixKinds_45 ?_
      refine j_S2R okX5_mix lk_X5_249 iX5_mixKinds_46 (by omega) (c_mix _ _) rfl (Nat.le_of_ble_eq_true rfl) (Nat.le_of_ble_eq_true rfl) ?_
      refine j_lstore_n iX5_mixKinds_49 (by decide) rfl ?_
      dsimp only [List.set]
      refine j_lload_n iX5_mixKinds_50 rfl ?_
      refine j_aload_n iX5_mixKinds_51 rfl ?_
      refine j_iload iX5_mixKinds_52 rfl ?_
      refine j_iconst (v := nI 1) iX5_mixKinds_54 (by decide) ?_
      refine j_V2R okX5_guard lk_X5_277 iX5_mixKinds_55 (by omega) (by repeat (first | assumption | refine wset_ne (by decide) ?_ | exact wset_lt (by (try simp only [List.length_set]); exact wsome (by assumption)))) rfl (c_guard w0 wG hN wN hV hl k 1 (by omega) (by decide)) rfl (Nat.le_of_ble_eq_true rfl) (Nat.le_of_ble_eq_true rfl) ?_
      refine j_i2l iX5_mixKinds_58 ?_
      refine j_S2R okX5_mix lk_X5_249 iX5_mixKinds_59 (by omega) (c_mix _ _) rfl (Nat.le_of_ble_eq_true rfl) (Nat.le_of_ble_eq_true rfl) ?_
      refine j_lstore_n iX5_mixKinds_62 (by decide) rfl ?_
      dsimp only [List.set]
      refine j_lload_n iX5_mixKinds_63 rfl ?_
      refine j_aload_n iX5_mixKinds_64 rfl ?_
      refine j_iload iX5_mixKinds_65 rfl ?_
      refine j_iconst (v := nI 0) iX5_mixKinds_67 (by decide) ?_
      refine j_V2R okX5_parts lk_X5_280 iX5_mixKinds_68 (by omega) (by repeat (first | assumption | refine wset_ne (by decide) ?_ | exact wset_lt (by (try simp only [List.length_set]); exact wsome (by assumption)))) rfl (c_parts w0 wG hN wN hV hl k 0 (by omega) (by decide)) rfl (Nat.le_of_ble_eq_true rfl) (Nat.le_of_ble_eq_true rfl) ?_
      refine j_i2l iX5_mixKinds_71 ?_
      refine j_S2R okX5_mix lk_X5_249 iX5_mixKinds_72 (by omega) (c_mix _ _) rfl (Nat.le_of_ble_eq_true rfl) (Nat.le_of_ble_eq_true rfl) ?_
      refine j_lstore_n iX5_mixKinds_75 (by decide) rfl ?_
      dsimp only [List.set]
      refine j_lload_n iX5_mixKinds_76 rfl ?_
      refine j_aload_n iX5_mixKinds_77 rfl ?_
      refine j_iload iX5_mixKinds_78 rfl ?_
      refine j_iconst (v := nI 1) iX5_mixKinds_80 (by decide) ?_
      refine j_V2R okX5_parts lk_X5_280 iX5_mixKinds_81 (by omega) (by repeat (first | assumption | refine wset_ne (by decide) ?_ | exact wset_lt (by (try simp only [List.length_set]); exact wsome (by assumption)))) rfl (c_parts w0 wG hN wN hV hl k 1 (by omega) (by decide)) rfl (Nat.le_of_ble_eq_true rfl) (Nat.le_of_ble_eq_true rfl) ?_
      refine j_i2l iX5_mixKinds_84 ?_
      refine j_S2R okX5_mix lk_X5_249 iX5_mixKinds_85 (by omega) (c_mix _ _) rfl (Nat.le_of_ble_eq_true rfl) (Nat.le_of_ble_eq_true rfl) ?_
      refine j_lstore_n iX5_mixKinds_88 (by decide) rfl ?_
      dsimp only [List.set]
      refine j_iincN iX5_mixKinds_89 rfl (by decide) rfl ?_
      dsimp only [List.set]
      refine j_goto (tgt := 5) iX5_mixKinds_92 (by decide) ?_
      exact ih (k + 1) _ (by omega) he
  refine j_start (ls := [.ref 0, .long h0, .null, .null, .null, .null]) rfl ?_
  refine j_lload_n iX5_mixKinds_0 rfl ?_
  refine j_lstore_n iX5_mixKinds_1 (by decide) rfl ?_
  dsimp only [List.set]
  refine j_iconst (v := nI 0) iX5_mixKinds_2 (by decide) ?_
  refine j_istore iX5_mixKinds_3 (by decide) rfl ?_
  dsimp only [List.set]
  exact L 5 0 h0 rfl rfl
theorem c_digest (hC : CW w R C sz pg ik rd ((fr, lp, lps, sn), (ks, sts, sof, sso)) K) (hN : R * C ≤ 12) (hfr : fr < 2 ^ (R * C)) (hV : SV fr lp sn ks sts sof sso) (hsN : ∀ i, i < lp → sts i < R * C) (h4 : lp = 0 ∨ 4 ≤ R * C) (hsz : sz ≤ 30) :
    JX 22 mX5_digest [.ref 0] w (fun v u => v = some (.long (digT R C fr lp lps sn sz rd ks sts sof sso pg)) ∧ Keep w u) := by
  have hV2 := hV
  obtain ⟨v1, v2, v3, v4, v5, v6, v7⟩ := hV2
  obtain ⟨w0, wP, wG, wN, wK, wTr, wT, wD⟩ := id hC
  have wN : NOW w fr lp lps sn ks sts sof sso := wN
  -- what is counted
  have L6 : ∀ (u : mW), Keep w u → ∀ (n y : Nat) (h : Int64), y + n = 9 → fold (fun y h => mxL h (nI (countV R C fr lp lps sn sz rd ks sts y))) n y h = digT R C fr lp lps sn sz rd ks sts sof sso pg → J 22 mX5_digest 90 [.ref 0, .long h, .null, .int (nI y)] [] u (fun v x => v = some (.long (digT R C fr lp lps sn sz rd ks sts sof sso pg)) ∧ Keep w x) := by
    intro u hu n
    have e0 := hu.get w0 (by decide)
    induction n with
    | zero =>
      intro y h hy he
      have e : h = digT R C fr lp lps sn sz rd ks sts sof sso pg := he
      refine j_iload_n iX5_digest_90 rfl ?_
      refine j_bipush (v := nI 8) iX5_digest_91 (by decide) ?_
      refine j_icmp_gtN (tgt := 113) iX5_digest_93 (by decide) (by omega) (by omega) (fun _ => ?_) (fun hno => by exfalso; omega)
      refine j_lload_n iX5_digest_113 rfl ?_
      refine j_lret iX5_digest_114 rfl (⟨by rw [e], hu⟩)
    | succ n ih =>
      intro y h hy he
      refine j_iload_n iX5_digest_90 rfl ?_
      refine j_bipush (v := nI 8) iX5_digest_91 (by decide) ?_
      refine j_icmp_gtN (tgt := 113) iX5_digest_93 (by decide) (by omega) (by omega) (fun hno => by exfalso; omega) (fun _ => ?_)
      refine j_lload_n iX5_digest_96 rfl ?_
      refine j_aload_n iX5_digest_97 rfl ?_
      refine j_iload_n iX5_digest_98 rfl ?_
      refine j_V1R okX5_count lk_X5_256 iX5_digest_99 (by omega) (by repeat (first | assumption | refine wset_ne (by decide) ?_ | exact wset_lt (by (try simp only [List.length_set]); exact wsome (by assumption)))) rfl (c_count e0 (hu.GW wG) hN (hu.get wP.1 (by decide)) (hu.NOW wN) hV y (by omega)) rfl (Nat.le_of_ble_eq_true rfl) (Nat.le_of_ble_eq_true rfl) ?_
      refine j_i2l iX5_digest_102 ?_
      refine j_S2R okX5_mix lk_X5_249 iX5_digest_103 (by omega) (c_mix _ _) rfl (Nat.le_of_ble_eq_true rfl) (Nat.le_of_ble_eq_true rfl) ?_
      refine j_lstore_n iX5_digest_106 (by decide) rfl ?_
      dsimp only [List.set]
      refine j_iincN iX5_digest_107 rfl (by decide) rfl ?_
      dsimp only [List.set]
      refine j_goto (tgt := 90) iX5_digest_110 (by decide) ?_
      exact ih (y + 1) _ (by omega) he
  -- the page
  have L5 : ∀ (u : mW), Keep w u → ∀ (n q : Nat) (h : Int64), q + n = sz → dg6 R C fr lp lps sn sz rd ks sts (fold (fun p h => mxL h (nI (pg p))) n q h) = digT R C fr lp lps sn sz rd ks sts sof sso pg → J 22 mX5_digest 57 [.ref 0, .long h, .null, .int (nI q)] [] u (fun v x => v = some (.long (digT R C fr lp lps sn sz rd ks sts sof sso pg)) ∧ Keep w x) := by
    intro u hu n
    have e0 := hu.get w0 (by decide)
    have e1 := hu.get wP.1 (by decide)
    have e8 := hu.get wP.2 (by decide)
    induction n with
    | zero =>
      intro q h hq he
      refine j_iload_n iX5_digest_57 rfl ?_
      refine j_aload_n iX5_digest_58 rfl ?_
      refine j_get fk_X5_10 iX5_digest_59 (by repeat (first | assumption | refine wset_ne (by decide) ?_ | exact wset_lt (by (try simp only [List.length_set]); exact wsome (by assumption)))) (by rfl) ?_
      refine j_get fk_X5_62 iX5_digest_62 (by repeat (first | assumption | refine wset_ne (by decide) ?_ | exact wset_lt (by (try simp only [List.length_set]); exact wsome (by assumption)))) (by rfl) ?_
      refine j_icmp_geN (tgt := 88) iX5_digest_65 (by decide) (by omega) (by omega) (fun _ => ?_) (fun hno => by exfalso; omega)
      refine j_iconst (v := nI 0) iX5_digest_88 (by decide) ?_
      refine j_istore_n iX5_digest_89 (by decide) rfl ?_
      dsimp only [List.set]
      exact L6 u hu 9 0 h rfl he
    | succ n ih =>
      intro q h hq he
      refine j_iload_n iX5_digest_57 rfl ?_
      refine j_aload_n iX5_digest_58 rfl ?_
      refine j_get fk_X5_10 iX5_digest_59 (by repeat (first | assumption | refine wset_ne (by decide) ?_ | exact wset_lt (by (try simp only [List.length_set]); exact wsome (by assumption)))) (by rfl) ?_
      refine j_get fk_X5_62 iX5_digest_62 (by repeat (first | assumption | refine wset_ne (by decide) ?_ | exact wset_lt (by (try simp only [List.length_set]); exact wsome (by assumption)))) (by rfl) ?_
      refine j_icmp_geN (tgt := 88) iX5_digest_65 (by decide) (by omega) (by omega) (fun hno => by exfalso; omega) (fun _ => ?_)
      refine j_lload_n iX5_digest_68 rfl ?_
      refine j_aload_n iX5_digest_69 rfl ?_
      refine j_get fk_X5_10 iX5_digest_70 (by repeat (first | assumption | refine wset_ne (by decide) ?_ | exact wset_lt (by (try simp only [List.length_set]); exact wsome (by assumption)))) (by rfl) ?_
      refine j_iload_n iX5_digest_73 rfl ?_
      refine j_V1R okX2_at lk_X5_253 iX5_digest_74 (by omega) (by repeat (first | assumption | refine wset_ne (by decide) ?_ | exact wset_lt (by (try simp only [List.length_set]); exact wsome (by assumption)))) rfl (c_at e1 e8 hsz q (by omega)) rfl (Nat.le_of_ble_eq_true rfl) (Nat.le_of_ble_eq_true rfl) ?_
      rw [show atF pg sz q = nI (pg q) from if_pos (by omega)]
      refine j_i2l iX5_digest_77 ?_
      refine j_S2R okX5_mix lk_X5_249 iX5_digest_78 (by omega) (c_mix _ _) rfl (Nat.le_of_ble_eq_true rfl) (Nat.le_of_ble_eq_true rfl) ?_
      refine j_lstore_n iX5_digest_81 (by decide) rfl ?_
      dsimp only [List.set]
      refine j_iincN iX5_digest_82 rfl (by decide) rfl ?_
      dsimp only [List.set]
      refine j_goto (tgt := 57) iX5_digest_85 (by decide) ?_
      exact ih (q + 1) _ (by omega) he
  have K55 : ∀ (u : mW) (h : Int64), Keep w u → dg6 R C fr lp lps sn sz rd ks sts (dg5 pg sz h) = digT R C fr lp lps sn sz rd ks sts sof sso pg → J 22 mX5_digest 55 [.ref 0, .long h, .null, .null] [] u (fun v x => v = some (.long (digT R C fr lp lps sn sz rd ks sts sof sso pg)) ∧ Keep w x) := by
    intro u h hu he
    refine j_iconst (v := nI 0) iX5_digest_55 (by decide) ?_
    refine j_istore_n iX5_digest_56 (by decide) rfl ?_
    dsimp only [List.set]
    exact L5 u hu sz 0 h (by omega) he
  have K32 : ∀ (u : mW) (h : Int64), Keep w u → dg6 R C fr lp lps sn sz rd ks sts (dg5 pg sz (dg4 C (R * C) fr lp ks sts h)) = digT R C fr lp lps sn sz rd ks sts sof sso pg → J 22 mX5_digest 32 [.ref 0, .long h, .null, .null] [] u (fun v x => v = some (.long (digT R C fr lp lps sn sz rd ks sts sof sso pg)) ∧ Keep w x) := by
    intro u h hu he
    have e0 := hu.get w0 (by decide)
    have e3 := hu.get wN.1 (by decide)
    by_cases hl : 2 ≤ lp
    · unfold dg4 at he
      rw [if_pos hl] at he
      refine j_aload_n iX5_digest_32 rfl ?_
      refine j_get fk_X5_26 iX5_digest_33 (by repeat (first | assumption | refine wset_ne (by decide) ?_ | exact wset_lt (by (try simp only [List.length_set]); exact wsome (by assumption)))) (by rfl) ?_
      refine j_get fk_X5_95 iX5_digest_36 (by repeat (first | assumption | refine wset_ne (by decide) ?_ | exact wset_lt (by (try simp only [List.length_set]); exact wsome (by assumption)))) (by rfl) ?_
      refine j_iconst (v := nI 2) iX5_digest_39 (by decide) ?_
      refine j_icmp_ltN (tgt := 55) iX5_digest_40 (by decide) (by omega) (by omega) (fun hno => by exfalso; omega) (fun _ => ?_)
      refine j_lload_n iX5_digest_43 rfl ?_
      refine j_aload_n iX5_digest_44 rfl ?_
      refine j_iconst (v := nI 0) iX5_digest_45 (by decide) ?_
      refine j_iconst (v := nI 1) iX5_digest_46 (by decide) ?_
      refine j_V2X (r := .null) (w' := []) okX5_trade lk_X5_246 iX5_digest_47 (by omega) (by repeat (first | assumption | refine wset_ne (by decide) ?_ | exact wset_lt (by (try simp only [List.length_set]); exact wsome (by assumption)))) rfl ((c_trade e0 (hu.GW wG) hN hu.2 (hu.NOW wN) hV 0 1 (by omega) (by omega) (by decide))) rfl (Nat.le_of_ble_eq_true rfl) (Nat.le_of_ble_eq_true rfl) ?_
      rintro v x ⟨rfl, hx⟩
      refine j_i2l iX5_digest_50 ?_
      refine j_S2R okX5_mix lk_X5_249 iX5_digest_51 (by omega) (c_mix _ _) rfl (Nat.le_of_ble_eq_true rfl) (Nat.le_of_ble_eq_true rfl) ?_
      refine j_lstore_n iX5_digest_54 (by decide) rfl ?_
      dsimp only [List.set]
      exact K55 x _ (hu.tr hx) he
    · unfold dg4 at he
      rw [if_neg hl] at he
      refine j_aload_n iX5_digest_32 rfl ?_
      refine j_get fk_X5_26 iX5_digest_33 (by repeat (first | assumption | refine wset_ne (by decide) ?_ | exact wset_lt (by (try simp only [List.length_set]); exact wsome (by assumption)))) (by rfl) ?_
      refine j_get fk_X5_95 iX5_digest_36 (by repeat (first | assumption | refine wset_ne (by decide) ?_ | exact wset_lt (by (try simp only [List.length_set]); exact wsome (by assumption)))) (by rfl) ?_
      refine j_iconst (v := nI 2) iX5_digest_39 (by decide) ?_
      refine j_icmp_ltN (tgt := 55) iX5_digest_40 (by decide) (by omega) (by omega) (fun _ => ?_) (fun hno => by exfalso; omega)
      exact K55 u _ hu he
  have K10 : ∀ (u : mW) (h : Int64), Keep w u → h = dg1 C (R * C) fr lp sn ks sts sof sso 1301 → J 22 mX5_digest 10 [.ref 0, .long h, .null, .null] [] u (fun v x => v = some (.long (digT R C fr lp lps sn sz rd ks sts sof sso pg)) ∧ Keep w x) := by
    intro u h hu he
    have e0 := hu.get w0 (by decide)
    have e3 := hu.get wN.1 (by decide)
    by_cases hl : 0 < lp
    · refine j_aload_n iX5_digest_10 rfl ?_
      refine j_lload_n iX5_digest_11 rfl ?_
      refine j_V1R okX5_mixCells lk_X5_240 iX5_digest_12 (by omega) (by repeat (first | assumption | refine wset_ne (by decide) ?_ | exact wset_lt (by (try simp only [List.length_set]); exact wsome (by assumption)))) rfl (c_mixCells (hu.CW hC) hN hV h) rfl (Nat.le_of_ble_eq_true rfl) (Nat.le_of_ble_eq_true rfl) ?_
      refine j_lstore_n iX5_digest_15 (by decide) rfl ?_
      dsimp only [List.set]
      refine j_aload_n iX5_digest_16 rfl ?_
      refine j_get fk_X5_26 iX5_digest_17 (by repeat (first | assumption | refine wset_ne (by decide) ?_ | exact wset_lt (by (try simp only [List.length_set]); exact wsome (by assumption)))) (by rfl) ?_
      refine j_V0R okX3_isThere lk_X5_184 iX5_digest_20 (by omega) (by repeat (first | assumption | refine wset_ne (by decide) ?_ | exact wset_lt (by (try simp only [List.length_set]); exact wsome (by assumption)))) rfl (c_isThere e3 v2) rfl (Nat.le_of_ble_eq_true rfl) (Nat.le_of_ble_eq_true rfl) ?_
      refine j_if_eqB (tgt := 32) iX5_digest_23 (by decide) (fun hno => Bool.noConfusion (hno.symm.trans (show _ = true from decide_eq_true hl))) (fun _ => ?_)
      refine j_aload_n iX5_digest_26 rfl ?_
      refine j_lload_n iX5_digest_27 rfl ?_
      refine j_V1R okX5_mixKinds lk_X5_243 iX5_digest_28 (by omega) (by repeat (first | assumption | refine wset_ne (by decide) ?_ | exact wset_lt (by (try simp only [List.length_set]); exact wsome (by assumption)))) rfl (c_mixKinds (hu.CW hC) hN hV hl _) rfl (Nat.le_of_ble_eq_true rfl) (Nat.le_of_ble_eq_true rfl) ?_
      refine j_lstore_n iX5_digest_31 (by decide) rfl ?_
      dsimp only [List.set]
      exact K32 u _ hu (by rw [he]; unfold digT dg3; rw [if_pos hl])
    · refine j_aload_n iX5_digest_10 rfl ?_
      refine j_lload_n iX5_digest_11 rfl ?_
      refine j_V1R okX5_mixCells lk_X5_240 iX5_digest_12 (by omega) (by repeat (first | assumption | refine wset_ne (by decide) ?_ | exact wset_lt (by (try simp only [List.length_set]); exact wsome (by assumption)))) rfl (c_mixCells (hu.CW hC) hN hV h) rfl (Nat.le_of_ble_eq_true rfl) (Nat.le_of_ble_eq_true rfl) ?_
      refine j_lstore_n iX5_digest_15 (by decide) rfl ?_
      dsimp only [List.set]
      refine j_aload_n iX5_digest_16 rfl ?_
      refine j_get fk_X5_26 iX5_digest_17 (by repeat (first | assumption | refine wset_ne (by decide) ?_ | exact wset_lt (by (try simp only [List.length_set]); exact wsome (by assumption)))) (by rfl) ?_
      refine j_V0R okX3_isThere lk_X5_184 iX5_digest_20 (by omega) (by repeat (first | assumption | refine wset_ne (by decide) ?_ | exact wset_lt (by (try simp only [List.length_set]); exact wsome (by assumption)))) rfl (c_isThere e3 v2) rfl (Nat.le_of_ble_eq_true rfl) (Nat.le_of_ble_eq_true rfl) ?_
      refine j_if_eqB (tgt := 32) iX5_digest_23 (by decide) (fun _ => ?_) (fun hno => Bool.noConfusion (hno.symm.trans (show _ = false from decide_eq_false hl)))
      exact K32 u _ hu (by rw [he]; unfold digT dg3; rw [if_neg hl])
  refine j_start (ls := [.ref 0, .null, .null, .null]) rfl ?_
  refine j_ldc2 iX5_digest_0 kc_X5_234 ?_
  refine j_lstore_n iX5_digest_3 (by decide) rfl ?_
  dsimp only [List.set]
  refine j_aload_n iX5_digest_4 rfl ?_
  refine j_lload_n iX5_digest_5 rfl ?_
  refine j_V1X (r := .null) (w' := []) okX5_mixLeapers lk_X5_236 iX5_digest_6 (by omega) (by repeat (first | assumption | refine wset_ne (by decide) ?_ | exact wset_lt (by (try simp only [List.length_set]); exact wsome (by assumption)))) rfl ((c_mixLeapers hC hN hfr hV hsN h4 1301)) rfl (Nat.le_of_ble_eq_true rfl) (Nat.le_of_ble_eq_true rfl) ?_
  rintro v u ⟨rfl, hu⟩
  refine j_lstore_n iX5_digest_9 (by decide) rfl ?_
  dsimp only [List.set]
  exact K10 u _ hu rfl
end
