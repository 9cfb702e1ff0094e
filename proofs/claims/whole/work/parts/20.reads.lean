/-! ===== the class: its own reads ===== -/
abbrev oB (ik : Bool) (rd : Nat) : mE := .inr (5, [.ref 1, .ref 2, .ref 3, .ref 4, .ref 5, .ref 6, .ref 7, .int (bI ik), .int (nI rd)])
def GW (w : mW) (R C : Nat) : Prop := w[2]? = some (oG R C (R * C) 9) ∧ w[9]? = some (rA 5 fanRows) ∧ w[10]? = some (nA 12 (fanF C (R * C) 0)) ∧ w[11]? = some (nA 12 (fanF C (R * C) 1)) ∧ w[12]? = some (nA 12 (fanF C (R * C) 2)) ∧ w[13]? = some (nA 12 (fanF C (R * C) 3)) ∧ w[14]? = some (nA 12 (fanF C (R * C) 4))
theorem GW.row {w : mW} {R C k : Nat} (h : GW w R C) (hk : k < 5) : w[10 + k]? = some (nA 12 (fanF C (R * C) k)) := by
  obtain ⟨-, -, h0, h1, h2, h3, h4⟩ := h
  rcases (show k = 0 ∨ k = 1 ∨ k = 2 ∨ k = 3 ∨ k = 4 by omega) with rfl | rfl | rfl | rfl | rfl <;> assumption
def TW (w : mW) : Prop := w[6]? = some oT ∧ (∃ s, w[27]? = some (nA 4096 s)) ∧ (∃ s, w[28]? = some (nA 13 s)) ∧ (∃ s, w[29]? = some (nA 12 s)) ∧ (∃ s, w[30]? = some (nA 12 s)) ∧ (∃ s, w[31]? = some (nA 12 s)) ∧ (∃ s, w[32]? = some (nA 12 s))
/-- all but the trips' rows is as it was -/
def Keep (w u : mW) : Prop := (∀ i, i < 27 ∨ 33 ≤ i → u[i]? = w[i]?) ∧ TW u
theorem Keep.rf {w : mW} (h : TW w) : Keep w w := ⟨fun _ _ => rfl, h⟩
theorem Keep.tr {w u v : mW} (h : Keep w u) (h2 : Keep u v) : Keep w v := ⟨fun i hi => (h2.1 i hi).trans (h.1 i hi), h2.2⟩
theorem Keep.get {w u : mW} {i : Nat} {e : mE} (h : Keep w u) (hw : w[i]? = some e) (hi : i < 27) : u[i]? = some e := (h.1 i (Or.inl hi)).trans hw
theorem Keep.GW {w u : mW} {R C : Nat} (h : Keep w u) (hg : GW w R C) : GW u R C := by
  obtain ⟨g1, g2, g3, g4, g5, g6, g7⟩ := hg
  exact ⟨h.get g1 (by decide), h.get g2 (by decide), h.get g3 (by decide), h.get g4 (by decide), h.get g5 (by decide), h.get g6 (by decide), h.get g7 (by decide)⟩
theorem TW.set {w : mW} (h : TW w) {i : Nat} {e : mE} (hi : i ≠ 6 ∧ (i < 27 ∨ 33 ≤ i)) : TW (w.set i e) := by
  obtain ⟨h0, ⟨s1, h1⟩, ⟨s2, h2⟩, ⟨s3, h3⟩, ⟨s4, h4⟩, ⟨s5, h5⟩, ⟨s6, h6⟩⟩ := h
  exact ⟨wset_ne (by omega) h0, ⟨s1, wset_ne (by omega) h1⟩, ⟨s2, wset_ne (by omega) h2⟩, ⟨s3, wset_ne (by omega) h3⟩, ⟨s4, wset_ne (by omega) h4⟩, ⟨s5, wset_ne (by omega) h5⟩, ⟨s6, wset_ne (by omega) h6⟩⟩
theorem TW.keep2 {w : mW} (h : TW w) {i j n : Nat} {f g : Nat → Nat} (hi : (i = 27 ∧ j = 28 ∧ n = 13) ∨ (i = 30 ∧ j = 29 ∧ n = 12) ∨ (i = 32 ∧ j = 31 ∧ n = 12)) : Keep w ((w.set i (nA (if i = 27 then 4096 else 12) f)).set j (nA n g)) := by
  obtain ⟨h0, ⟨s1, h1⟩, ⟨s2, h2⟩, ⟨s3, h3⟩, ⟨s4, h4⟩, ⟨s5, h5⟩, ⟨s6, h6⟩⟩ := h
  rcases hi with ⟨rfl, rfl, rfl⟩ | ⟨rfl, rfl, rfl⟩ | ⟨rfl, rfl, rfl⟩
  · exact ⟨fun x hx => by rw [List.getElem?_set, if_neg (by omega), List.getElem?_set, if_neg (by omega)], (by repeat (first | assumption | refine wset_ne (by decide) ?_ | exact wset_lt (by (try simp only [List.length_set]); exact wsome (by assumption)))), ⟨_, (by repeat (first | assumption | refine wset_ne (by decide) ?_ | exact wset_lt (by (try simp only [List.length_set]); exact wsome (by assumption))))⟩, ⟨_, (by repeat (first | assumption | refine wset_ne (by decide) ?_ | exact wset_lt (by (try simp only [List.length_set]); exact wsome (by assumption))))⟩, ⟨_, (by repeat (first | assumption | refine wset_ne (by decide) ?_ | exact wset_lt (by (try simp only [List.length_set]); exact wsome (by assumption))))⟩, ⟨_, (by repeat (first | assumption | refine wset_ne (by decide) ?_ | exact wset_lt (by (try simp only [List.length_set]); exact wsome (by assumption))))⟩, ⟨_, (by repeat (first | assumption | refine wset_ne (by decide) ?_ | exact wset_lt (by (try simp only [List.length_set]); exact wsome (by assumption))))⟩, ⟨_, (by repeat (first | assumption | refine wset_ne (by decide) ?_ | exact wset_lt (by (try simp only [List.length_set]); exact wsome (by assumption))))⟩⟩
  · exact ⟨fun x hx => by rw [List.getElem?_set, if_neg (by omega), List.getElem?_set, if_neg (by omega)], (by repeat (first | assumption | refine wset_ne (by decide) ?_ | exact wset_lt (by (try simp only [List.length_set]); exact wsome (by assumption)))), ⟨_, (by repeat (first | assumption | refine wset_ne (by decide) ?_ | exact wset_lt (by (try simp only [List.length_set]); exact wsome (by assumption))))⟩, ⟨_, (by repeat (first | assumption | refine wset_ne (by decide) ?_ | exact wset_lt (by (try simp only [List.length_set]); exact wsome (by assumption))))⟩, ⟨_, (by repeat (first | assumption | refine wset_ne (by decide) ?_ | exact wset_lt (by (try simp only [List.length_set]); exact wsome (by assumption))))⟩, ⟨_, (by repeat (first | assumption | refine wset_ne (by decide) ?_ | exact wset_lt (by (try simp only [List.length_set]); exact wsome (by assumption))))⟩, ⟨_, (by repeat (first | assumption | refine wset_ne (by decide) ?_ | exact wset_lt (by (try simp only [List.length_set]); exact wsome (by assumption))))⟩, ⟨_, (by repeat (first | assumption | refine wset_ne (by decide) ?_ | exact wset_lt (by (try simp only [List.length_set]); exact wsome (by assumption))))⟩⟩
  · exact ⟨fun x hx => by rw [List.getElem?_set, if_neg (by omega), List.getElem?_set, if_neg (by omega)], (by repeat (first | assumption | refine wset_ne (by decide) ?_ | exact wset_lt (by (try simp only [List.length_set]); exact wsome (by assumption)))), ⟨_, (by repeat (first | assumption | refine wset_ne (by decide) ?_ | exact wset_lt (by (try simp only [List.length_set]); exact wsome (by assumption))))⟩, ⟨_, (by repeat (first | assumption | refine wset_ne (by decide) ?_ | exact wset_lt (by (try simp only [List.length_set]); exact wsome (by assumption))))⟩, ⟨_, (by repeat (first | assumption | refine wset_ne (by decide) ?_ | exact wset_lt (by (try simp only [List.length_set]); exact wsome (by assumption))))⟩, ⟨_, (by repeat (first | assumption | refine wset_ne (by decide) ?_ | exact wset_lt (by (try simp only [List.length_set]); exact wsome (by assumption))))⟩, ⟨_, (by repeat (first | assumption | refine wset_ne (by decide) ?_ | exact wset_lt (by (try simp only [List.length_set]); exact wsome (by assumption))))⟩, ⟨_, (by repeat (first | assumption | refine wset_ne (by decide) ?_ | exact wset_lt (by (try simp only [List.length_set]); exact wsome (by assumption))))⟩⟩
def NOW (w : mW) (fr lp lps sn : Nat) (ks sts sof sso : Nat → Nat) : Prop := w[3]? = some (oS fr lp lps sn 15 16 17 18) ∧ w[15]? = some (nA 4 ks) ∧ w[16]? = some (nA 4 sts) ∧ w[17]? = some (nA 6 sof) ∧ w[18]? = some (nA 6 sso)
theorem Keep.NOW {w u : mW} {fr lp lps sn : Nat} {ks sts sof sso : Nat → Nat} (h : Keep w u) (hg : NOW w fr lp lps sn ks sts sof sso) : NOW u fr lp lps sn ks sts sof sso := by
  obtain ⟨g1, g2, g3, g4, g5⟩ := hg
  exact ⟨h.get g1 (by decide), h.get g2 (by decide), h.get g3 (by decide), h.get g4 (by decide), h.get g5 (by decide)⟩
/-- what the walks of a scene need -/
def SV (fr lp sn : Nat) (ks sts sof sso : Nat → Nat) : Prop := fr < 4096 ∧ lp ≤ 4 ∧ sn ≤ 6 ∧ (∀ i, ks i < 5) ∧ (∀ i, sts i < 12) ∧ (∀ i, sof i < 4) ∧ ∀ i, sso i < 32
def wat (C N fr : Nat) (ks sts : Nat → Nat) (j : Nat) : Nat := fanF C N (ks j) (sts j) &&& fr
theorem emptyFrom_b {sts : Nat → Nat} : ∀ n i e, e < 4096 → emptyFrom sts n i e < 4096 := by
  intro n
  induction n with
  | zero => intro i e h; exact h
  | succ n ih => intro i e h; exact ih _ _ (ad_b h)
theorem empty_b {fr lp : Nat} {sts : Nat → Nat} (h : fr < 4096) : emptyF fr lp sts < 4096 := emptyFrom_b lp 0 fr h
def gol (C N fr lp : Nat) (ks sts : Nat → Nat) (j : Nat) : Nat := wat C N fr ks sts j &&& emptyF fr lp sts
theorem inR_int {y : Int32} {n : Nat} (hn : n < 2 ^ 31) (h : inR y n = false) : y.toInt < 0 ∨ (n : Int) ≤ y.toInt := by
  by_cases h0 : y < 0
  · exact Or.inl (by have := Int32.lt_iff_toInt_lt.mp h0; simpa using this)
  · right
    have h1 : ¬ y < nI n := fun z => by simp [inR, h0, z] at h
    have h2 := Int32.not_lt.mp h1
    have := Int32.le_iff_toInt_le.mp h2
    rwa [nI_toInt hn] at this
section
variable {w : mW} {R C : Nat} {ik : Bool} {rd : Nat} {a k st so ss fr lp lps sn : Nat} {ks sts sof sso : Nat → Nat}
theorem c_watchedBy (h0 : w[0]? = some (oB ik rd)) (hG : GW w R C) (hN : R * C ≤ 12) (hs : w[a]? = some (oS fr lp lps sn k st so ss)) (hk : w[k]? = some (nA 4 ks)) (ht : w[st]? = some (nA 4 sts)) (hlp : lp ≤ 4) (hks : ∀ i, ks i < 5) (hst : ∀ i, sts i < 12) (j : Nat) (hj : j < lp) : JR 3 mX5_watchedBy [.ref 0, .ref a, .int (nI j)] w (.int (nI (wat C (R * C) fr ks sts j))) w := by
  obtain ⟨g2, g9, -⟩ := id hG
  have hr := hG.row (hks j)
  have hs1 := hst j
  have hf := fanF_b C (R * C) (ks j) (sts j) hN
  refine j_start (ls := [.ref 0, .ref a, .int (nI j), .null, .null]) rfl ?_
  refine j_aload_n iX5_watchedBy_0 rfl ?_
  refine j_get fk_X5_19 iX5_watchedBy_1 (by repeat (first | assumption | refine wset_ne (by decide) ?_ | exact wset_lt (by (try simp only [List.length_set]); exact wsome (by assumption)))) (by rfl) ?_
  refine j_aload_n iX5_watchedBy_4 rfl ?_
  refine j_iload_n iX5_watchedBy_5 rfl ?_
  refine j_V1R okX3_kindOf lk_X5_123 iX5_watchedBy_6 (by omega) (by repeat (first | assumption | refine wset_ne (by decide) ?_ | exact wset_lt (by (try simp only [List.length_set]); exact wsome (by assumption)))) rfl (c_kindOf hs hlp hk j hj) rfl (Nat.le_of_ble_eq_true rfl) (Nat.le_of_ble_eq_true rfl) ?_
  refine j_V1R okX1_fanOf lk_X5_187 iX5_watchedBy_9 (by omega) (by repeat (first | assumption | refine wset_ne (by decide) ?_ | exact wset_lt (by (try simp only [List.length_set]); exact wsome (by assumption)))) rfl (c_fanOf g2 g9 _ (hks j)) rfl (Nat.le_of_ble_eq_true rfl) (Nat.le_of_ble_eq_true rfl) ?_
  refine j_astore_n iX5_watchedBy_12 (by decide) rfl ?_
  dsimp only [List.set]
  refine j_aload_n iX5_watchedBy_13 rfl ?_
  refine j_iload_n iX5_watchedBy_14 rfl ?_
  refine j_V1R okX3_standOf lk_X5_124 iX5_watchedBy_15 (by omega) (by repeat (first | assumption | refine wset_ne (by decide) ?_ | exact wset_lt (by (try simp only [List.length_set]); exact wsome (by assumption)))) rfl (c_standOf hs hlp ht j hj) rfl (Nat.le_of_ble_eq_true rfl) (Nat.le_of_ble_eq_true rfl) ?_
  refine j_istore iX5_watchedBy_18 (by decide) rfl ?_
  dsimp only [List.set]
  refine j_iload iX5_watchedBy_20 rfl ?_
  refine j_if_ltN (tgt := 44) iX5_watchedBy_22 (by decide) (by omega) (fun hno => by exfalso; omega) (fun _ => ?_)
  refine j_iload iX5_watchedBy_25 rfl ?_
  refine j_aload_n iX5_watchedBy_27 rfl ?_
  refine j_alen iX5_watchedBy_28 (by repeat (first | assumption | refine wset_ne (by decide) ?_ | exact wset_lt (by (try simp only [List.length_set]); exact wsome (by assumption)))) (by decide) (by rfl) ?_
  refine j_icmp_geN (tgt := 44) iX5_watchedBy_29 (by decide) (by omega) (by omega) (fun hno => by exfalso; omega) (fun _ => ?_)
  refine j_aload_n iX5_watchedBy_32 rfl ?_
  refine j_iload iX5_watchedBy_33 rfl ?_
  refine j_ialdN iX5_watchedBy_35 (by repeat (first | assumption | refine wset_ne (by decide) ?_ | exact wset_lt (by (try simp only [List.length_set]); exact wsome (by assumption)))) (by omega) ?_
  refine j_aload_n iX5_watchedBy_36 rfl ?_
  refine j_get fk_X5_89 iX5_watchedBy_37 (by repeat (first | assumption | refine wset_ne (by decide) ?_ | exact wset_lt (by (try simp only [List.length_set]); exact wsome (by assumption)))) (by rfl) ?_
  refine j_iandN iX5_watchedBy_40 ?_
  refine j_goto (tgt := 45) iX5_watchedBy_41 (by decide) ?_
  refine j_iret iX5_watchedBy_45 rfl (by first | rfl | exact nar_bI _ | exact nar_bP) (⟨rfl, rfl⟩)
theorem c_goals (h0 : w[0]? = some (oB ik rd)) (hG : GW w R C) (hN : R * C ≤ 12) (hs : w[a]? = some (oS fr lp lps sn k st so ss)) (hk : w[k]? = some (nA 4 ks)) (ht : w[st]? = some (nA 4 sts)) (hlp : lp ≤ 4) (hks : ∀ i, ks i < 5) (hst : ∀ i, sts i < 12) (j : Nat) (hj : j < lp) : JR 4 mX5_goals [.ref 0, .ref a, .int (nI j)] w (.int (nI (gol C (R * C) fr lp ks sts j))) w := by
  refine j_start (ls := [.ref 0, .ref a, .int (nI j)]) rfl ?_
  refine j_aload_n iX5_goals_0 rfl ?_
  refine j_aload_n iX5_goals_1 rfl ?_
  refine j_iload_n iX5_goals_2 rfl ?_
  refine j_V2R okX5_watchedBy lk_X5_125 iX5_goals_3 (by omega) (by repeat (first | assumption | refine wset_ne (by decide) ?_ | exact wset_lt (by (try simp only [List.length_set]); exact wsome (by assumption)))) rfl (c_watchedBy h0 hG hN hs hk ht hlp hks hst j hj) rfl (Nat.le_of_ble_eq_true rfl) (Nat.le_of_ble_eq_true rfl) ?_
  refine j_aload_n iX5_goals_6 rfl ?_
  refine j_V0R okX3_empty lk_X5_142 iX5_goals_7 (by omega) (by repeat (first | assumption | refine wset_ne (by decide) ?_ | exact wset_lt (by (try simp only [List.length_set]); exact wsome (by assumption)))) rfl (c_empty hs hlp ht hst) rfl (Nat.le_of_ble_eq_true rfl) (Nat.le_of_ble_eq_true rfl) ?_
  refine j_iandN iX5_goals_10 ?_
  refine j_iret iX5_goals_11 rfl (by first | rfl | exact nar_bI _ | exact nar_bP) (⟨rfl, rfl⟩)
def weF (C N fr lp : Nat) (ks sts : Nat → Nat) : Nat := fold (fun i r => r ||| gol C N fr lp ks sts i) lp 0 0
theorem wat_b {C N fr : Nat} {ks sts : Nat → Nat} (h : fr < 4096) (j : Nat) : wat C N fr ks sts j < 4096 := and_bR h
theorem gol_b {C N fr lp : Nat} {ks sts : Nat → Nat} (h : fr < 4096) (j : Nat) : gol C N fr lp ks sts j < 4096 := and_bL (wat_b h j)
theorem weF_b {C N fr lp : Nat} {ks sts : Nat → Nat} (h : fr < 4096) : weF C N fr lp ks sts < 4096 := fold_inv (P := fun x => x < 4096) lp 0 0 (by decide) fun j y _ _ hy => or_b hy (gol_b h j)
theorem c_watchedEmpty (h0 : w[0]? = some (oB ik rd)) (hG : GW w R C) (hN : R * C ≤ 12) (hs : w[a]? = some (oS fr lp lps sn k st so ss)) (hk : w[k]? = some (nA 4 ks)) (ht : w[st]? = some (nA 4 sts)) (hfr : fr < 4096) (hlp : lp ≤ 4) (hks : ∀ i, ks i < 5) (hst : ∀ i, sts i < 12) : JR 5 mX5_watchedEmpty [.ref 0, .ref a] w (.int (nI (pop (weF C (R * C) fr lp ks sts)))) w := by
  have L : ∀ (n i r : Nat), i + n = lp → r < 4096 → fold (fun i r => r ||| gol C (R * C) fr lp ks sts i) n i r = weF C (R * C) fr lp ks sts → J 5 mX5_watchedEmpty 4 [.ref 0, .ref a, .int (nI r), .int (nI i)] [] w (fun v u => v = some (.int (nI (pop (weF C (R * C) fr lp ks sts)))) ∧ u = w) := by
    intro n
    induction n with
    | zero =>
      intro i r hi hr he
      refine j_iload_n iX5_watchedEmpty_4 rfl ?_
      refine j_aload_n iX5_watchedEmpty_5 rfl ?_
      refine j_get fk_X5_95 iX5_watchedEmpty_6 (by repeat (first | assumption | refine wset_ne (by decide) ?_ | exact wset_lt (by (try simp only [List.length_set]); exact wsome (by assumption)))) (by rfl) ?_
      refine j_icmp_geN (tgt := 27) iX5_watchedEmpty_9 (by decide) (by omega) (by omega) (fun _ => ?_) (fun hno => by exfalso; omega)
      refine j_iload_n iX5_watchedEmpty_27 rfl ?_
      refine j_S1R okJ6_bitCount lk_X5_168 iX5_watchedEmpty_28 (by omega) (c_bitCount r hr) rfl (Nat.le_of_ble_eq_true rfl) (Nat.le_of_ble_eq_true rfl) ?_
      refine j_iret iX5_watchedEmpty_31 rfl (by first | rfl | exact nar_bI _ | exact nar_bP) (⟨by rw [← he]; rfl, rfl⟩)
    | succ n ih =>
      intro i r hi hr he
      refine j_iload_n iX5_watchedEmpty_4 rfl ?_
      refine j_aload_n iX5_watchedEmpty_5 rfl ?_
      refine j_get fk_X5_95 iX5_watchedEmpty_6 (by repeat (first | assumption | refine wset_ne (by decide) ?_ | exact wset_lt (by (try simp only [List.length_set]); exact wsome (by assumption)))) (by rfl) ?_
      refine j_icmp_geN (tgt := 27) iX5_watchedEmpty_9 (by decide) (by omega) (by omega) (fun hno => by exfalso; omega) (fun _ => ?_)
      refine j_iload_n iX5_watchedEmpty_12 rfl ?_
      refine j_aload_n iX5_watchedEmpty_13 rfl ?_
      refine j_aload_n iX5_watchedEmpty_14 rfl ?_
      refine j_iload_n iX5_watchedEmpty_15 rfl ?_
      refine j_V2R okX5_goals lk_X5_129 iX5_watchedEmpty_16 (by omega) (by repeat (first | assumption | refine wset_ne (by decide) ?_ | exact wset_lt (by (try simp only [List.length_set]); exact wsome (by assumption)))) rfl (c_goals h0 hG hN hs hk ht hlp hks hst i (by omega)) rfl (Nat.le_of_ble_eq_true rfl) (Nat.le_of_ble_eq_true rfl) ?_
      refine j_iorN iX5_watchedEmpty_19  ?_
      refine j_istore_n iX5_watchedEmpty_20 (by decide) rfl ?_
      dsimp only [List.set]
      refine j_iincN iX5_watchedEmpty_21 rfl (by decide) rfl ?_
      dsimp only [List.set]
      refine j_goto (tgt := 4) iX5_watchedEmpty_24 (by decide) ?_
      exact ih (i + 1) _ (by omega) (or_b hr (gol_b hfr i)) he
  refine j_start (ls := [.ref 0, .ref a, .null, .null]) rfl ?_
  refine j_iconst (v := nI 0) iX5_watchedEmpty_0 (by decide) ?_
  refine j_istore_n iX5_watchedEmpty_1 (by decide) rfl ?_
  dsimp only [List.set]
  refine j_iconst (v := nI 0) iX5_watchedEmpty_2 (by decide) ?_
  refine j_istore_n iX5_watchedEmpty_3 (by decide) rfl ?_
  dsimp only [List.set]
  exact L lp 0 0 (by omega) (by decide) rfl
end
section
variable {w : mW} {R C : Nat} {ik : Bool} {rd : Nat} {fr lp lps sn : Nat} {ks sts sof sso : Nat → Nat}
theorem c_fanOfLeaper (h0 : w[0]? = some (oB ik rd)) (hG : GW w R C) (hS : NOW w fr lp lps sn ks sts sof sso) (hV : SV fr lp sn ks sts sof sso) (j : Nat) (hj : j < lp) : JR 2 mX5_fanOfLeaper [.ref 0, .int (nI j)] w (.ref (10 + ks j)) w := by
  obtain ⟨g2, g9, -⟩ := id hG
  obtain ⟨s3, s15, s16, s17, s18⟩ := hS
  obtain ⟨v1, v2, v3, v4, v5, v6, v7⟩ := hV
  refine j_start (ls := [.ref 0, .int (nI j)]) rfl ?_
  refine j_aload_n iX5_fanOfLeaper_0 rfl ?_
  refine j_get fk_X5_19 iX5_fanOfLeaper_1 (by repeat (first | assumption | refine wset_ne (by decide) ?_ | exact wset_lt (by (try simp only [List.length_set]); exact wsome (by assumption)))) (by rfl) ?_
  refine j_aload_n iX5_fanOfLeaper_4 rfl ?_
  refine j_get fk_X5_26 iX5_fanOfLeaper_5 (by repeat (first | assumption | refine wset_ne (by decide) ?_ | exact wset_lt (by (try simp only [List.length_set]); exact wsome (by assumption)))) (by rfl) ?_
  refine j_iload_n iX5_fanOfLeaper_8 rfl ?_
  refine j_V1R okX3_kindOf lk_X5_123 iX5_fanOfLeaper_9 (by omega) (by repeat (first | assumption | refine wset_ne (by decide) ?_ | exact wset_lt (by (try simp only [List.length_set]); exact wsome (by assumption)))) rfl (c_kindOf s3 v2 s15 j hj) rfl (Nat.le_of_ble_eq_true rfl) (Nat.le_of_ble_eq_true rfl) ?_
  refine j_V1R okX1_fanOf lk_X5_187 iX5_fanOfLeaper_12 (by omega) (by repeat (first | assumption | refine wset_ne (by decide) ?_ | exact wset_lt (by (try simp only [List.length_set]); exact wsome (by assumption)))) rfl (c_fanOf g2 g9 _ (v4 j)) rfl (Nat.le_of_ble_eq_true rfl) (Nat.le_of_ble_eq_true rfl) ?_
  refine j_aret iX5_fanOfLeaper_15 rfl (Or.inr ⟨_, rfl⟩) (⟨rfl, rfl⟩)
def wrsF (C N fr lp : Nat) (ks sts : Nat → Nat) (c : Nat) : Nat := fold (fun i r => if (wat C N fr ks sts i).testBit c = true then r ||| 2 ^ i else r) lp 0 0
theorem c_watchers (h0 : w[0]? = some (oB ik rd)) (hG : GW w R C) (hN : R * C ≤ 12) (hS : NOW w fr lp lps sn ks sts sof sso) (hV : SV fr lp sn ks sts sof sso) (c : Nat) (hc : c < 12) : JR 4 mX5_watchers [.ref 0, .int (nI c)] w (.int (nI (wrsF C (R * C) fr lp ks sts c))) w := by
  obtain ⟨s3, s15, s16, s17, s18⟩ := hS
  obtain ⟨v1, v2, v3, v4, v5, v6, v7⟩ := hV
  have L : ∀ (n i r : Nat), i + n = lp → J 4 mX5_watchers 4 [.ref 0, .int (nI c), .int (nI r), .int (nI i)] [] w (fun v u => v = some (.int (nI (fold (fun i r => if (wat C (R * C) fr ks sts i).testBit c = true then r ||| 2 ^ i else r) n i r))) ∧ u = w) := by
    intro n
    induction n with
    | zero =>
      intro i r hi
      refine j_iload_n iX5_watchers_4 rfl ?_
      refine j_aload_n iX5_watchers_5 rfl ?_
      refine j_get fk_X5_26 iX5_watchers_6 (by repeat (first | assumption | refine wset_ne (by decide) ?_ | exact wset_lt (by (try simp only [List.length_set]); exact wsome (by assumption)))) (by rfl) ?_
      refine j_get fk_X5_95 iX5_watchers_9 (by repeat (first | assumption | refine wset_ne (by decide) ?_ | exact wset_lt (by (try simp only [List.length_set]); exact wsome (by assumption)))) (by rfl) ?_
      refine j_icmp_geN (tgt := 43) iX5_watchers_12 (by decide) (by omega) (by omega) (fun _ => ?_) (fun hno => by exfalso; omega)
      refine j_iload_n iX5_watchers_43 rfl ?_
      refine j_iret iX5_watchers_44 rfl (by first | rfl | exact nar_bI _ | exact nar_bP) (⟨rfl, rfl⟩)
    | succ n ih =>
      intro i r hi
      have hw := wat_b (C := C) (N := R * C) (ks := ks) (sts := sts) v1 i
      refine j_iload_n iX5_watchers_4 rfl ?_
      refine j_aload_n iX5_watchers_5 rfl ?_
      refine j_get fk_X5_26 iX5_watchers_6 (by repeat (first | assumption | refine wset_ne (by decide) ?_ | exact wset_lt (by (try simp only [List.length_set]); exact wsome (by assumption)))) (by rfl) ?_
      refine j_get fk_X5_95 iX5_watchers_9 (by repeat (first | assumption | refine wset_ne (by decide) ?_ | exact wset_lt (by (try simp only [List.length_set]); exact wsome (by assumption)))) (by rfl) ?_
      refine j_icmp_geN (tgt := 43) iX5_watchers_12 (by decide) (by omega) (by omega) (fun hno => by exfalso; omega) (fun _ => ?_)
      refine j_aload_n iX5_watchers_15 rfl ?_
      refine j_aload_n iX5_watchers_16 rfl ?_
      refine j_get fk_X5_26 iX5_watchers_17 (by repeat (first | assumption | refine wset_ne (by decide) ?_ | exact wset_lt (by (try simp only [List.length_set]); exact wsome (by assumption)))) (by rfl) ?_
      refine j_iload_n iX5_watchers_20 rfl ?_
      refine j_V2R okX5_watchedBy lk_X5_125 iX5_watchers_21 (by omega) (by repeat (first | assumption | refine wset_ne (by decide) ?_ | exact wset_lt (by (try simp only [List.length_set]); exact wsome (by assumption)))) rfl (c_watchedBy h0 hG hN s3 s15 s16 v2 v4 v5 i (by omega)) rfl (Nat.le_of_ble_eq_true rfl) (Nat.le_of_ble_eq_true rfl) ?_
      refine j_iload_n iX5_watchers_24 rfl ?_
      refine j_S2R okX5_has lk_X5_158 iX5_watchers_25 (by omega) (c_has _ c (by omega) (by omega)) rfl (Nat.le_of_ble_eq_true rfl) (Nat.le_of_ble_eq_true rfl) ?_
      refine j_if_eqB (tgt := 37) iX5_watchers_28 (by decide) (fun h28 => ?_) (fun h28 => ?_)
      · refine j_iincN iX5_watchers_37 rfl (by decide) rfl ?_
        dsimp only [List.set]
        refine j_goto (tgt := 4) iX5_watchers_40 (by decide) ?_
        first | exact (by simpa only [fold, if_neg (nt h28)] using ih (i + 1) r (by omega)) | exact (by simpa only [fold, if_pos h28] using ih (i + 1) (r ||| 2 ^ i) (by omega))
      · refine j_iload_n iX5_watchers_31 rfl ?_
        refine j_iconst (v := nI 1) iX5_watchers_32 (by decide) ?_
        refine j_iload_n iX5_watchers_33 rfl ?_
        refine j_ishlN iX5_watchers_34 (by omega) ?_
        refine j_iorN iX5_watchers_35  ?_
        refine j_istore_n iX5_watchers_36 (by decide) rfl ?_
        dsimp only [List.set]
        refine j_iincN iX5_watchers_37 rfl (by decide) rfl ?_
        dsimp only [List.set]
        refine j_goto (tgt := 4) iX5_watchers_40 (by decide) ?_
        first | exact (by simpa only [fold, if_neg (nt h28)] using ih (i + 1) r (by omega)) | exact (by simpa only [fold, if_pos h28] using ih (i + 1) (r ||| 2 ^ i) (by omega))
  refine j_start (ls := [.ref 0, .int (nI c), .null, .null]) rfl ?_
  refine j_iconst (v := nI 0) iX5_watchers_0 (by decide) ?_
  refine j_istore_n iX5_watchers_1 (by decide) rfl ?_
  dsimp only [List.set]
  refine j_iconst (v := nI 0) iX5_watchers_2 (by decide) ?_
  refine j_istore_n iX5_watchers_3 (by decide) rfl ?_
  dsimp only [List.set]
  exact L lp 0 0 (by omega)
theorem c_leaper_u (h0 : w[0]? = some (oB ik rd)) (hS : NOW w fr lp lps sn ks sts sof sso) (hV : SV fr lp sn ks sts sof sso) (x y : Int32) (hx : inR x lp = false) : JR 5 mX5_leaper [.ref 0, .int x, .int y] w (.int (-101)) w := by
  obtain ⟨s3, s15, s16, s17, s18⟩ := hS
  obtain ⟨v1, v2, v3, v4, v5, v6, v7⟩ := hV
  refine j_start (ls := [.ref 0, .int x, .int y]) rfl ?_
  refine j_aload_n iX5_leaper_0 rfl ?_
  refine j_get fk_X5_26 iX5_leaper_1 (by repeat (first | assumption | refine wset_ne (by decide) ?_ | exact wset_lt (by (try simp only [List.length_set]); exact wsome (by assumption)))) (by rfl) ?_
  refine j_iload_n iX5_leaper_4 rfl ?_
  refine j_V1R okX3_hasLeaper lk_X5_120 iX5_leaper_5 (by omega) (by repeat (first | assumption | refine wset_ne (by decide) ?_ | exact wset_lt (by (try simp only [List.length_set]); exact wsome (by assumption)))) rfl (c_hasLeaper s3 v2 x) rfl (Nat.le_of_ble_eq_true rfl) (Nat.le_of_ble_eq_true rfl) ?_
  refine j_if_neB (tgt := 14) iX5_leaper_8 (by decide) (fun hno => Bool.noConfusion (hno.symm.trans (show _ = false from hx))) (fun _ => ?_)
  refine j_bipush (v := (-101)) iX5_leaper_11 (by decide) ?_
  refine j_iret iX5_leaper_13 rfl (by first | rfl | exact nar_bI _ | exact nar_bP) (⟨rfl, rfl⟩)
theorem c_leaper_o (h0 : w[0]? = some (oB ik rd)) (hS : NOW w fr lp lps sn ks sts sof sso) (hV : SV fr lp sn ks sts sof sso) (x y : Int32) (hx : inR x lp = true) (hy : inR y 8 = false) : JR 5 mX5_leaper [.ref 0, .int x, .int y] w (.int (-102)) w := by
  obtain ⟨s3, s15, s16, s17, s18⟩ := hS
  obtain ⟨v1, v2, v3, v4, v5, v6, v7⟩ := hV
  have hy2 := inR_int (by decide) hy
  refine j_start (ls := [.ref 0, .int x, .int y]) rfl ?_
  refine j_aload_n iX5_leaper_0 rfl ?_
  refine j_get fk_X5_26 iX5_leaper_1 (by repeat (first | assumption | refine wset_ne (by decide) ?_ | exact wset_lt (by (try simp only [List.length_set]); exact wsome (by assumption)))) (by rfl) ?_
  refine j_iload_n iX5_leaper_4 rfl ?_
  refine j_V1R okX3_hasLeaper lk_X5_120 iX5_leaper_5 (by omega) (by repeat (first | assumption | refine wset_ne (by decide) ?_ | exact wset_lt (by (try simp only [List.length_set]); exact wsome (by assumption)))) rfl (c_hasLeaper s3 v2 x) rfl (Nat.le_of_ble_eq_true rfl) (Nat.le_of_ble_eq_true rfl) ?_
  refine j_if_neB (tgt := 14) iX5_leaper_8 (by decide) (fun _ => ?_) (fun hno => Bool.noConfusion (hno.symm.trans (show _ = true from hx)))
  refine j_iload_n iX5_leaper_14 rfl ?_
  refine j_tswOut (tgt := 175) iX5_leaper_15 (by omega) (by decide) ?_
  refine j_bipush (v := (-102)) iX5_leaper_175 (by decide) ?_
  refine j_iret iX5_leaper_177 rfl (by first | rfl | exact nar_bI _ | exact nar_bP) (⟨rfl, rfl⟩)
def leaperV (C N fr lp sn : Nat) (ks sts sof sso : Nat → Nat) (st0 : Nat → Nat) (j : Nat) (y : Nat) : Int32 :=
  match y with
  | 0 => nI (ks j)
  | 1 => nI (sts j)
  | 2 => nI (wat C N fr ks sts j)
  | 3 => nI (gol C N fr lp ks sts j)
  | 4 => nI (sortsF sn sof sso j)
  | 5 => oN (askF (sortsF sn sof sso j))
  | 6 => nI (1 + mbF (ffF (fanF C N (ks j)) (sts j) (emptyF fr lp sts) st0).2 12)
  | _ => oN (nth ((ffF (fanF C N (ks j)) (sts j) (emptyF fr lp sts) st0).2 (mbF (ffF (fanF C N (ks j)) (sts j) (emptyF fr lp sts) st0).2 12)) 0)
theorem sorts_b {sof sso : Nat → Nat} (l : Nat) : ∀ n i r, r < 32 → sortsFrom sof sso l n i r < 32 := by
  intro n
  induction n with
  | zero => intro i r h; exact h
  | succ n ih =>
    intro i r h
    refine ih _ _ ?_
    split
    · exact Nat.lt_of_le_of_lt Nat.and_le_left h
    · exact h
theorem c_leaper (h0 : w[0]? = some (oB ik rd)) (hG : GW w R C) (hN : R * C ≤ 12) (hT : TW w) (hS : NOW w fr lp lps sn ks sts sof sso) (hV : SV fr lp sn ks sts sof sso) (j y : Nat) (hj : j < lp) (hy : y < 8) : JX 5 mX5_leaper [.ref 0, .int (nI j), .int (nI y)] w (fun v u => (∃ st0, v = some (.int (leaperV C (R * C) fr lp sn ks sts sof sso st0 j y))) ∧ Keep w u) := by
  obtain ⟨s3, s15, s16, s17, s18⟩ := id hS
  obtain ⟨v1, v2, v3, v4, v5, v6, v7⟩ := id hV
  obtain ⟨t6, ⟨z27, t27⟩, ⟨z28, t28⟩, -⟩ := id hT
  have hso : sortsF sn sof sso j < 32 := sorts_b j sn 0 31 (by decide)
  have hR := hG.row (v4 j)
  have hfb : ∀ i, fanF C (R * C) (ks j) i < 4096 := fun i => fanF_b _ _ _ _ hN
  have hkj := v4 j
  have hF : Keep w (ffW w (ffF (fanF C (R * C) (ks j)) (sts j) (emptyF fr lp sts) z27)) := hT.keep2 (i := 27) (j := 28) (n := 13) (Or.inl ⟨rfl, rfl, rfl⟩)
  refine j_start (ls := [.ref 0, .int (nI j), .int (nI y)]) rfl ?_
  rcases (show y = 0 ∨ y = 1 ∨ y = 2 ∨ y = 3 ∨ y = 4 ∨ y = 5 ∨ y = 6 ∨ y = 7 by omega) with rfl | rfl | rfl | rfl | rfl | rfl | rfl | rfl
  · refine j_aload_n iX5_leaper_0 rfl ?_
    refine j_get fk_X5_26 iX5_leaper_1 (by repeat (first | assumption | refine wset_ne (by decide) ?_ | exact wset_lt (by (try simp only [List.length_set]); exact wsome (by assumption)))) (by rfl) ?_
    refine j_iload_n iX5_leaper_4 rfl ?_
    refine j_V1R okX3_hasLeaper lk_X5_120 iX5_leaper_5 (by omega) (by repeat (first | assumption | refine wset_ne (by decide) ?_ | exact wset_lt (by (try simp only [List.length_set]); exact wsome (by assumption)))) rfl (c_hasLeaper s3 v2 _) rfl (Nat.le_of_ble_eq_true rfl) (Nat.le_of_ble_eq_true rfl) ?_
    refine j_if_neB (tgt := 14) iX5_leaper_8 (by decide) (fun _ => ?_) (fun hno => Bool.noConfusion (hno.symm.trans (show _ = true from by rw [inR_nI (by omega) (by omega)]; exact decide_eq_true hj)))
    refine j_iload_n iX5_leaper_14 rfl ?_
    refine j_tswIn (off := 45) (tgt := 60) iX5_leaper_15 (by decide) (by decide) (by decide) (by decide) ?_
    refine j_aload_n iX5_leaper_60 rfl ?_
    refine j_get fk_X5_26 iX5_leaper_61 (by repeat (first | assumption | refine wset_ne (by decide) ?_ | exact wset_lt (by (try simp only [List.length_set]); exact wsome (by assumption)))) (by rfl) ?_
    refine j_iload_n iX5_leaper_64 rfl ?_
    refine j_V1R okX3_kindOf lk_X5_123 iX5_leaper_65 (by omega) (by repeat (first | assumption | refine wset_ne (by decide) ?_ | exact wset_lt (by (try simp only [List.length_set]); exact wsome (by assumption)))) rfl (c_kindOf s3 v2 s15 j hj) rfl (Nat.le_of_ble_eq_true rfl) (Nat.le_of_ble_eq_true rfl) ?_
    refine j_iret iX5_leaper_68 rfl (by first | rfl | exact nar_bI _ | exact nar_bP) (⟨⟨z27, rfl⟩, Keep.rf hT⟩)
  · refine j_aload_n iX5_leaper_0 rfl ?_
    refine j_get fk_X5_26 iX5_leaper_1 (by repeat (first | assumption | refine wset_ne (by decide) ?_ | exact wset_lt (by (try simp only [List.length_set]); exact wsome (by assumption)))) (by rfl) ?_
    refine j_iload_n iX5_leaper_4 rfl ?_
    refine j_V1R okX3_hasLeaper lk_X5_120 iX5_leaper_5 (by omega) (by repeat (first | assumption | refine wset_ne (by decide) ?_ | exact wset_lt (by (try simp only [List.length_set]); exact wsome (by assumption)))) rfl (c_hasLeaper s3 v2 _) rfl (Nat.le_of_ble_eq_true rfl) (Nat.le_of_ble_eq_true rfl) ?_
    refine j_if_neB (tgt := 14) iX5_leaper_8 (by decide) (fun _ => ?_) (fun hno => Bool.noConfusion (hno.symm.trans (show _ = true from by rw [inR_nI (by omega) (by omega)]; exact decide_eq_true hj)))
    refine j_iload_n iX5_leaper_14 rfl ?_
    refine j_tswIn (off := 54) (tgt := 69) iX5_leaper_15 (by decide) (by decide) (by decide) (by decide) ?_
    refine j_aload_n iX5_leaper_69 rfl ?_
    refine j_get fk_X5_26 iX5_leaper_70 (by repeat (first | assumption | refine wset_ne (by decide) ?_ | exact wset_lt (by (try simp only [List.length_set]); exact wsome (by assumption)))) (by rfl) ?_
    refine j_iload_n iX5_leaper_73 rfl ?_
    refine j_V1R okX3_standOf lk_X5_124 iX5_leaper_74 (by omega) (by repeat (first | assumption | refine wset_ne (by decide) ?_ | exact wset_lt (by (try simp only [List.length_set]); exact wsome (by assumption)))) rfl (c_standOf s3 v2 s16 j hj) rfl (Nat.le_of_ble_eq_true rfl) (Nat.le_of_ble_eq_true rfl) ?_
    refine j_iret iX5_leaper_77 rfl (by first | rfl | exact nar_bI _ | exact nar_bP) (⟨⟨z27, rfl⟩, Keep.rf hT⟩)
  · refine j_aload_n iX5_leaper_0 rfl ?_
    refine j_get fk_X5_26 iX5_leaper_1 (by repeat (first | assumption | refine wset_ne (by decide) ?_ | exact wset_lt (by (try simp only [List.length_set]); exact wsome (by assumption)))) (by rfl) ?_
    refine j_iload_n iX5_leaper_4 rfl ?_
    refine j_V1R okX3_hasLeaper lk_X5_120 iX5_leaper_5 (by omega) (by repeat (first | assumption | refine wset_ne (by decide) ?_ | exact wset_lt (by (try simp only [List.length_set]); exact wsome (by assumption)))) rfl (c_hasLeaper s3 v2 _) rfl (Nat.le_of_ble_eq_true rfl) (Nat.le_of_ble_eq_true rfl) ?_
    refine j_if_neB (tgt := 14) iX5_leaper_8 (by decide) (fun _ => ?_) (fun hno => Bool.noConfusion (hno.symm.trans (show _ = true from by rw [inR_nI (by omega) (by omega)]; exact decide_eq_true hj)))
    refine j_iload_n iX5_leaper_14 rfl ?_
    refine j_tswIn (off := 63) (tgt := 78) iX5_leaper_15 (by decide) (by decide) (by decide) (by decide) ?_
    refine j_aload_n iX5_leaper_78 rfl ?_
    refine j_aload_n iX5_leaper_79 rfl ?_
    refine j_get fk_X5_26 iX5_leaper_80 (by repeat (first | assumption | refine wset_ne (by decide) ?_ | exact wset_lt (by (try simp only [List.length_set]); exact wsome (by assumption)))) (by rfl) ?_
    refine j_iload_n iX5_leaper_83 rfl ?_
    refine j_V2R okX5_watchedBy lk_X5_125 iX5_leaper_84 (by omega) (by repeat (first | assumption | refine wset_ne (by decide) ?_ | exact wset_lt (by (try simp only [List.length_set]); exact wsome (by assumption)))) rfl (c_watchedBy h0 hG hN s3 s15 s16 v2 v4 v5 j hj) rfl (Nat.le_of_ble_eq_true rfl) (Nat.le_of_ble_eq_true rfl) ?_
    refine j_iret iX5_leaper_87 rfl (by first | rfl | exact nar_bI _ | exact nar_bP) (⟨⟨z27, rfl⟩, Keep.rf hT⟩)
  · refine j_aload_n iX5_leaper_0 rfl ?_
    refine j_get fk_X5_26 iX5_leaper_1 (by repeat (first | assumption | refine wset_ne (by decide) ?_ | exact wset_lt (by (try simp only [List.length_set]); exact wsome (by assumption)))) (by rfl) ?_
    refine j_iload_n iX5_leaper_4 rfl ?_
    refine j_V1R okX3_hasLeaper lk_X5_120 iX5_leaper_5 (by omega) (by repeat (first | assumption | refine wset_ne (by decide) ?_ | exact wset_lt (by (try simp only [List.length_set]); exact wsome (by assumption)))) rfl (c_hasLeaper s3 v2 _) rfl (Nat.le_of_ble_eq_true rfl) (Nat.le_of_ble_eq_true rfl) ?_
    refine j_if_neB (tgt := 14) iX5_leaper_8 (by decide) (fun _ => ?_) (fun hno => Bool.noConfusion (hno.symm.trans (show _ = true from by rw [inR_nI (by omega) (by omega)]; exact decide_eq_true hj)))
    refine j_iload_n iX5_leaper_14 rfl ?_
    refine j_tswIn (off := 73) (tgt := 88) iX5_leaper_15 (by decide) (by decide) (by decide) (by decide) ?_
    refine j_aload_n iX5_leaper_88 rfl ?_
    refine j_aload_n iX5_leaper_89 rfl ?_
    refine j_get fk_X5_26 iX5_leaper_90 (by repeat (first | assumption | refine wset_ne (by decide) ?_ | exact wset_lt (by (try simp only [List.length_set]); exact wsome (by assumption)))) (by rfl) ?_
    refine j_iload_n iX5_leaper_93 rfl ?_
    refine j_V2R okX5_goals lk_X5_129 iX5_leaper_94 (by omega) (by repeat (first | assumption | refine wset_ne (by decide) ?_ | exact wset_lt (by (try simp only [List.length_set]); exact wsome (by assumption)))) rfl (c_goals h0 hG hN s3 s15 s16 v2 v4 v5 j hj) rfl (Nat.le_of_ble_eq_true rfl) (Nat.le_of_ble_eq_true rfl) ?_
    refine j_iret iX5_leaper_97 rfl (by first | rfl | exact nar_bI _ | exact nar_bP) (⟨⟨z27, rfl⟩, Keep.rf hT⟩)
  · refine j_aload_n iX5_leaper_0 rfl ?_
    refine j_get fk_X5_26 iX5_leaper_1 (by repeat (first | assumption | refine wset_ne (by decide) ?_ | exact wset_lt (by (try simp only [List.length_set]); exact wsome (by assumption)))) (by rfl) ?_
    refine j_iload_n iX5_leaper_4 rfl ?_
    refine j_V1R okX3_hasLeaper lk_X5_120 iX5_leaper_5 (by omega) (by repeat (first | assumption | refine wset_ne (by decide) ?_ | exact wset_lt (by (try simp only [List.length_set]); exact wsome (by assumption)))) rfl (c_hasLeaper s3 v2 _) rfl (Nat.le_of_ble_eq_true rfl) (Nat.le_of_ble_eq_true rfl) ?_
    refine j_if_neB (tgt := 14) iX5_leaper_8 (by decide) (fun _ => ?_) (fun hno => Bool.noConfusion (hno.symm.trans (show _ = true from by rw [inR_nI (by omega) (by omega)]; exact decide_eq_true hj)))
    refine j_iload_n iX5_leaper_14 rfl ?_
    refine j_tswIn (off := 83) (tgt := 98) iX5_leaper_15 (by decide) (by decide) (by decide) (by decide) ?_
    refine j_aload_n iX5_leaper_98 rfl ?_
    refine j_get fk_X5_26 iX5_leaper_99 (by repeat (first | assumption | refine wset_ne (by decide) ?_ | exact wset_lt (by (try simp only [List.length_set]); exact wsome (by assumption)))) (by rfl) ?_
    refine j_iload_n iX5_leaper_102 rfl ?_
    refine j_V1R okX3_sorts lk_X5_132 iX5_leaper_103 (by omega) (by repeat (first | assumption | refine wset_ne (by decide) ?_ | exact wset_lt (by (try simp only [List.length_set]); exact wsome (by assumption)))) rfl (c_sorts s3 v3 s17 s18 v6 j (by omega)) rfl (Nat.le_of_ble_eq_true rfl) (Nat.le_of_ble_eq_true rfl) ?_
    refine j_iret iX5_leaper_106 rfl (by first | rfl | exact nar_bI _ | exact nar_bP) (⟨⟨z27, rfl⟩, Keep.rf hT⟩)
  · refine j_aload_n iX5_leaper_0 rfl ?_
    refine j_get fk_X5_26 iX5_leaper_1 (by repeat (first | assumption | refine wset_ne (by decide) ?_ | exact wset_lt (by (try simp only [List.length_set]); exact wsome (by assumption)))) (by rfl) ?_
    refine j_iload_n iX5_leaper_4 rfl ?_
    refine j_V1R okX3_hasLeaper lk_X5_120 iX5_leaper_5 (by omega) (by repeat (first | assumption | refine wset_ne (by decide) ?_ | exact wset_lt (by (try simp only [List.length_set]); exact wsome (by assumption)))) rfl (c_hasLeaper s3 v2 _) rfl (Nat.le_of_ble_eq_true rfl) (Nat.le_of_ble_eq_true rfl) ?_
    refine j_if_neB (tgt := 14) iX5_leaper_8 (by decide) (fun _ => ?_) (fun hno => Bool.noConfusion (hno.symm.trans (show _ = true from by rw [inR_nI (by omega) (by omega)]; exact decide_eq_true hj)))
    refine j_iload_n iX5_leaper_14 rfl ?_
    refine j_tswIn (off := 92) (tgt := 107) iX5_leaper_15 (by decide) (by decide) (by decide) (by decide) ?_
    refine j_aload_n iX5_leaper_107 rfl ?_
    refine j_get fk_X5_26 iX5_leaper_108 (by repeat (first | assumption | refine wset_ne (by decide) ?_ | exact wset_lt (by (try simp only [List.length_set]); exact wsome (by assumption)))) (by rfl) ?_
    refine j_iload_n iX5_leaper_111 rfl ?_
    refine j_V1R okX3_sorts lk_X5_132 iX5_leaper_112 (by omega) (by repeat (first | assumption | refine wset_ne (by decide) ?_ | exact wset_lt (by (try simp only [List.length_set]); exact wsome (by assumption)))) rfl (c_sorts s3 v3 s17 s18 v6 j (by omega)) rfl (Nat.le_of_ble_eq_true rfl) (Nat.le_of_ble_eq_true rfl) ?_
    refine j_S1R okX5_bestAsk lk_X5_135 iX5_leaper_115 (by omega) (c_bestAsk _ hso) rfl (Nat.le_of_ble_eq_true rfl) (Nat.le_of_ble_eq_true rfl) ?_
    refine j_iret iX5_leaper_118 rfl (by first | rfl | exact nar_bI _ | exact nar_bP) (⟨⟨z27, rfl⟩, Keep.rf hT⟩)
  · refine j_aload_n iX5_leaper_0 rfl ?_
    refine j_get fk_X5_26 iX5_leaper_1 (by repeat (first | assumption | refine wset_ne (by decide) ?_ | exact wset_lt (by (try simp only [List.length_set]); exact wsome (by assumption)))) (by rfl) ?_
    refine j_iload_n iX5_leaper_4 rfl ?_
    refine j_V1R okX3_hasLeaper lk_X5_120 iX5_leaper_5 (by omega) (by repeat (first | assumption | refine wset_ne (by decide) ?_ | exact wset_lt (by (try simp only [List.length_set]); exact wsome (by assumption)))) rfl (c_hasLeaper s3 v2 _) rfl (Nat.le_of_ble_eq_true rfl) (Nat.le_of_ble_eq_true rfl) ?_
    refine j_if_neB (tgt := 14) iX5_leaper_8 (by decide) (fun _ => ?_) (fun hno => Bool.noConfusion (hno.symm.trans (show _ = true from by rw [inR_nI (by omega) (by omega)]; exact decide_eq_true hj)))
    refine j_iload_n iX5_leaper_14 rfl ?_
    refine j_tswIn (off := 104) (tgt := 119) iX5_leaper_15 (by decide) (by decide) (by decide) (by decide) ?_
    refine j_aload_n iX5_leaper_119 rfl ?_
    refine j_get fk_X5_39 iX5_leaper_120 (by repeat (first | assumption | refine wset_ne (by decide) ?_ | exact wset_lt (by (try simp only [List.length_set]); exact wsome (by assumption)))) (by rfl) ?_
    refine j_aload_n iX5_leaper_123 rfl ?_
    refine j_iload_n iX5_leaper_124 rfl ?_
    refine j_V1R okX5_fanOfLeaper lk_X5_138 iX5_leaper_125 (by omega) (by repeat (first | assumption | refine wset_ne (by decide) ?_ | exact wset_lt (by (try simp only [List.length_set]); exact wsome (by assumption)))) rfl (c_fanOfLeaper h0 hG hS hV j hj) rfl (Nat.le_of_ble_eq_true rfl) (Nat.le_of_ble_eq_true rfl) ?_
    refine j_aload_n iX5_leaper_128 rfl ?_
    refine j_get fk_X5_26 iX5_leaper_129 (by repeat (first | assumption | refine wset_ne (by decide) ?_ | exact wset_lt (by (try simp only [List.length_set]); exact wsome (by assumption)))) (by rfl) ?_
    refine j_iload_n iX5_leaper_132 rfl ?_
    refine j_V1R okX3_standOf lk_X5_124 iX5_leaper_133 (by omega) (by repeat (first | assumption | refine wset_ne (by decide) ?_ | exact wset_lt (by (try simp only [List.length_set]); exact wsome (by assumption)))) rfl (c_standOf s3 v2 s16 j hj) rfl (Nat.le_of_ble_eq_true rfl) (Nat.le_of_ble_eq_true rfl) ?_
    refine j_aload_n iX5_leaper_136 rfl ?_
    refine j_get fk_X5_26 iX5_leaper_137 (by repeat (first | assumption | refine wset_ne (by decide) ?_ | exact wset_lt (by (try simp only [List.length_set]); exact wsome (by assumption)))) (by rfl) ?_
    refine j_V0R okX3_empty lk_X5_142 iX5_leaper_140 (by omega) (by repeat (first | assumption | refine wset_ne (by decide) ?_ | exact wset_lt (by (try simp only [List.length_set]); exact wsome (by assumption)))) rfl (c_empty s3 v2 s16 v5) rfl (Nat.le_of_ble_eq_true rfl) (Nat.le_of_ble_eq_true rfl) ?_
    refine j_V3R okX4_longest lk_X5_145 iX5_leaper_143 (by omega) (by repeat (first | assumption | refine wset_ne (by decide) ?_ | exact wset_lt (by (try simp only [List.length_set]); exact wsome (by assumption)))) rfl (c_longest t6 hR (by omega) hfb t27 t28 _ _ (v5 j) (empty_b v1)) rfl (Nat.le_of_ble_eq_true rfl) (Nat.le_of_ble_eq_true rfl) ?_
    refine j_iret iX5_leaper_146 rfl (by first | rfl | exact nar_bI _ | exact nar_bP) (⟨⟨z27, rfl⟩, hF⟩)
  · refine j_aload_n iX5_leaper_0 rfl ?_
    refine j_get fk_X5_26 iX5_leaper_1 (by repeat (first | assumption | refine wset_ne (by decide) ?_ | exact wset_lt (by (try simp only [List.length_set]); exact wsome (by assumption)))) (by rfl) ?_
    refine j_iload_n iX5_leaper_4 rfl ?_
    refine j_V1R okX3_hasLeaper lk_X5_120 iX5_leaper_5 (by omega) (by repeat (first | assumption | refine wset_ne (by decide) ?_ | exact wset_lt (by (try simp only [List.length_set]); exact wsome (by assumption)))) rfl (c_hasLeaper s3 v2 _) rfl (Nat.le_of_ble_eq_true rfl) (Nat.le_of_ble_eq_true rfl) ?_
    refine j_if_neB (tgt := 14) iX5_leaper_8 (by decide) (fun _ => ?_) (fun hno => Bool.noConfusion (hno.symm.trans (show _ = true from by rw [inR_nI (by omega) (by omega)]; exact decide_eq_true hj)))
    refine j_iload_n iX5_leaper_14 rfl ?_
    refine j_tswIn (off := 132) (tgt := 147) iX5_leaper_15 (by decide) (by decide) (by decide) (by decide) ?_
    refine j_aload_n iX5_leaper_147 rfl ?_
    refine j_get fk_X5_39 iX5_leaper_148 (by repeat (first | assumption | refine wset_ne (by decide) ?_ | exact wset_lt (by (try simp only [List.length_set]); exact wsome (by assumption)))) (by rfl) ?_
    refine j_aload_n iX5_leaper_151 rfl ?_
    refine j_iload_n iX5_leaper_152 rfl ?_
    refine j_V1R okX5_fanOfLeaper lk_X5_138 iX5_leaper_153 (by omega) (by repeat (first | assumption | refine wset_ne (by decide) ?_ | exact wset_lt (by (try simp only [List.length_set]); exact wsome (by assumption)))) rfl (c_fanOfLeaper h0 hG hS hV j hj) rfl (Nat.le_of_ble_eq_true rfl) (Nat.le_of_ble_eq_true rfl) ?_
    refine j_aload_n iX5_leaper_156 rfl ?_
    refine j_get fk_X5_26 iX5_leaper_157 (by repeat (first | assumption | refine wset_ne (by decide) ?_ | exact wset_lt (by (try simp only [List.length_set]); exact wsome (by assumption)))) (by rfl) ?_
    refine j_iload_n iX5_leaper_160 rfl ?_
    refine j_V1R okX3_standOf lk_X5_124 iX5_leaper_161 (by omega) (by repeat (first | assumption | refine wset_ne (by decide) ?_ | exact wset_lt (by (try simp only [List.length_set]); exact wsome (by assumption)))) rfl (c_standOf s3 v2 s16 j hj) rfl (Nat.le_of_ble_eq_true rfl) (Nat.le_of_ble_eq_true rfl) ?_
    refine j_aload_n iX5_leaper_164 rfl ?_
    refine j_get fk_X5_26 iX5_leaper_165 (by repeat (first | assumption | refine wset_ne (by decide) ?_ | exact wset_lt (by (try simp only [List.length_set]); exact wsome (by assumption)))) (by rfl) ?_
    refine j_V0R okX3_empty lk_X5_142 iX5_leaper_168 (by omega) (by repeat (first | assumption | refine wset_ne (by decide) ?_ | exact wset_lt (by (try simp only [List.length_set]); exact wsome (by assumption)))) rfl (c_empty s3 v2 s16 v5) rfl (Nat.le_of_ble_eq_true rfl) (Nat.le_of_ble_eq_true rfl) ?_
    refine j_V3R okX4_firstOfLongest lk_X5_149 iX5_leaper_171 (by omega) (by repeat (first | assumption | refine wset_ne (by decide) ?_ | exact wset_lt (by (try simp only [List.length_set]); exact wsome (by assumption)))) rfl (c_firstOfLongest t6 hR (by omega) hfb t27 t28 _ _ (v5 j) (empty_b v1)) rfl (Nat.le_of_ble_eq_true rfl) (Nat.le_of_ble_eq_true rfl) ?_
    refine j_iret iX5_leaper_174 rfl (by first | rfl | exact nar_bI _ | exact nar_bP) (⟨⟨z27, rfl⟩, hF⟩)
end
