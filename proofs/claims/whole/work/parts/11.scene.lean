/-! ===== the class: a scene ===== -/
abbrev oS (fr lp lps sn : Nat) (k st so ss : Nat) : mE := .inr (3, [.int (nI fr), .int (nI lp), .int (nI lps), .int (nI sn), .ref k, .ref st, .ref so, .ref ss])
abbrev nA (n : Nat) (f : Nat → Nat) : mE := iA n (fun i => nI (f i))
section
variable {w : mW} {a fr lp lps sn k st so ss : Nat} {ks sts sof sso : Nat → Nat}
theorem c_isThere (hs : w[a]? = some (oS fr lp lps sn k st so ss)) (hlp : lp ≤ 4) : JR 0 mX3_isThere [.ref a] w (.int (bI (decide (0 < lp)))) w := by
  refine j_start (ls := [.ref a]) rfl ?_
  refine j_aload_n iX3_isThere_0 rfl ?_
  refine j_get fk_X3_24 iX3_isThere_1 (by repeat (first | assumption | refine wset_ne (by decide) ?_ | exact wset_lt (by (try simp only [List.length_set]); exact wsome (by assumption)))) (by rfl) ?_
  refine j_if_leN (tgt := 11) iX3_isThere_4 (by decide) (by omega) (fun h4 => ?_) (fun h4 => ?_)
  · refine j_iconst (v := nI 0) iX3_isThere_11 (by decide) ?_
    refine j_iret iX3_isThere_12 rfl (by first | rfl | exact nar_bI _ | exact nar_bP) (⟨by first | rw [h4]; rfl | rw [decide_eq_true h4]; rfl, rfl⟩)
  · refine j_iconst (v := nI 1) iX3_isThere_7 (by decide) ?_
    refine j_goto (tgt := 12) iX3_isThere_8 (by decide) ?_
    refine j_iret iX3_isThere_12 rfl (by first | rfl | exact nar_bI _ | exact nar_bP) (⟨by first | rw [h4]; rfl | rw [decide_eq_true h4]; rfl, rfl⟩)
theorem c_hasLeaper (hs : w[a]? = some (oS fr lp lps sn k st so ss)) (hlp : lp ≤ 4) (x : Int32) : JR 0 mX3_hasLeaper [.ref a, .int x] w (.int (bI (inR x lp))) w := by
  refine j_start (ls := [.ref a, .int x]) rfl ?_
  refine j_iload_n iX3_hasLeaper_0 rfl ?_
  refine j_if_lt (tgt := 21) iX3_hasLeaper_1 (by decide) (fun h1 => ?_) (fun h1 => ?_)
  · refine j_iconst (v := nI 0) iX3_hasLeaper_21 (by decide) ?_
    refine j_iret iX3_hasLeaper_22 rfl (by first | rfl | exact nar_bI _ | exact nar_bP) (⟨by first | rw [inR_f0 h1]; rfl | rw [inR_f h9]; rfl, rfl⟩)
  · refine j_iload_n iX3_hasLeaper_4 rfl ?_
    refine j_aload_n iX3_hasLeaper_5 rfl ?_
    refine j_get fk_X3_24 iX3_hasLeaper_6 (by repeat (first | assumption | refine wset_ne (by decide) ?_ | exact wset_lt (by (try simp only [List.length_set]); exact wsome (by assumption)))) (by rfl) ?_
    refine j_icmp_ge (tgt := 21) iX3_hasLeaper_9 (by decide) (fun h9 => ?_) (fun h9 => ?_)
    · refine j_iconst (v := nI 0) iX3_hasLeaper_21 (by decide) ?_
      refine j_iret iX3_hasLeaper_22 rfl (by first | rfl | exact nar_bI _ | exact nar_bP) (⟨by first | rw [inR_f0 h1]; rfl | rw [inR_f h9]; rfl, rfl⟩)
    · refine j_iload_n iX3_hasLeaper_12 rfl ?_
      refine j_iconst (v := nI 4) iX3_hasLeaper_13 (by decide) ?_
      refine j_icmp_ge (tgt := 21) iX3_hasLeaper_14 (by decide) (fun h14 => ?_) (fun h14 => ?_)
      · exact absurd (Int32.le_trans (b := nI 4) ((nI_leI (by omega) (by decide)).mpr hlp) h14) h9
      · refine j_iconst (v := nI 1) iX3_hasLeaper_17 (by decide) ?_
        refine j_goto (tgt := 22) iX3_hasLeaper_18 (by decide) ?_
        refine j_iret iX3_hasLeaper_22 rfl rfl ⟨by rw [inR_t h1 h9]; rfl, rfl⟩
theorem c_kindOf (hs : w[a]? = some (oS fr lp lps sn k st so ss)) (hlp : lp ≤ 4) (hk : w[k]? = some (nA 4 ks)) (j : Nat) (hj : j < lp) : JR 1 mX3_kindOf [.ref a, .int (nI j)] w (.int (nI (ks j))) w := by
  refine j_start (ls := [.ref a, .int (nI j)]) rfl ?_
  refine j_aload_n iX3_kindOf_0 rfl ?_
  refine j_iload_n iX3_kindOf_1 rfl ?_
  refine j_V1R okX3_hasLeaper lk_X3_28 iX3_kindOf_2 (by omega) (by repeat (first | assumption | refine wset_ne (by decide) ?_ | exact wset_lt (by (try simp only [List.length_set]); exact wsome (by assumption)))) rfl (c_hasLeaper hs hlp _) rfl (Nat.le_of_ble_eq_true rfl) (Nat.le_of_ble_eq_true rfl) ?_
  refine j_if_eqB (tgt := 17) iX3_kindOf_5 (by decide) (fun hno => Bool.noConfusion (hno.symm.trans (show _ = true from by rw [inR_nI (by omega) (by omega)]; exact decide_eq_true hj))) (fun _ => ?_)
  refine j_aload_n iX3_kindOf_8 rfl ?_
  refine j_get fk_X3_9 iX3_kindOf_9 (by repeat (first | assumption | refine wset_ne (by decide) ?_ | exact wset_lt (by (try simp only [List.length_set]); exact wsome (by assumption)))) (by rfl) ?_
  refine j_iload_n iX3_kindOf_12 rfl ?_
  refine j_ialdN iX3_kindOf_13 (by repeat (first | assumption | refine wset_ne (by decide) ?_ | exact wset_lt (by (try simp only [List.length_set]); exact wsome (by assumption)))) (by omega) ?_
  refine j_goto (tgt := 18) iX3_kindOf_14 (by decide) ?_
  refine j_iret iX3_kindOf_18 rfl (by first | rfl | exact nar_bI _ | exact nar_bP) (⟨rfl, rfl⟩)
theorem c_standOf (hs : w[a]? = some (oS fr lp lps sn k st so ss)) (hlp : lp ≤ 4) (hk : w[st]? = some (nA 4 sts)) (j : Nat) (hj : j < lp) : JR 1 mX3_standOf [.ref a, .int (nI j)] w (.int (nI (sts j))) w := by
  refine j_start (ls := [.ref a, .int (nI j)]) rfl ?_
  refine j_aload_n iX3_standOf_0 rfl ?_
  refine j_iload_n iX3_standOf_1 rfl ?_
  refine j_V1R okX3_hasLeaper lk_X3_28 iX3_standOf_2 (by omega) (by repeat (first | assumption | refine wset_ne (by decide) ?_ | exact wset_lt (by (try simp only [List.length_set]); exact wsome (by assumption)))) rfl (c_hasLeaper hs hlp _) rfl (Nat.le_of_ble_eq_true rfl) (Nat.le_of_ble_eq_true rfl) ?_
  refine j_if_eqB (tgt := 17) iX3_standOf_5 (by decide) (fun hno => Bool.noConfusion (hno.symm.trans (show _ = true from by rw [inR_nI (by omega) (by omega)]; exact decide_eq_true hj))) (fun _ => ?_)
  refine j_aload_n iX3_standOf_8 rfl ?_
  refine j_get fk_X3_15 iX3_standOf_9 (by repeat (first | assumption | refine wset_ne (by decide) ?_ | exact wset_lt (by (try simp only [List.length_set]); exact wsome (by assumption)))) (by rfl) ?_
  refine j_iload_n iX3_standOf_12 rfl ?_
  refine j_ialdN iX3_standOf_13 (by repeat (first | assumption | refine wset_ne (by decide) ?_ | exact wset_lt (by (try simp only [List.length_set]); exact wsome (by assumption)))) (by omega) ?_
  refine j_goto (tgt := 18) iX3_standOf_14 (by decide) ?_
  refine j_iret iX3_standOf_18 rfl (by first | rfl | exact nar_bI _ | exact nar_bP) (⟨rfl, rfl⟩)
def emptyFrom (sts : Nat → Nat) : Nat → Nat → Nat → Nat
  | 0, _, e => e
  | n + 1, i, e => emptyFrom sts n (i + 1) (ad e (2 ^ sts i))
def emptyF (fr lp : Nat) (sts : Nat → Nat) : Nat := emptyFrom sts lp 0 fr
theorem c_empty (hs : w[a]? = some (oS fr lp lps sn k st so ss)) (hlp : lp ≤ 4) (hk : w[st]? = some (nA 4 sts)) (hst : ∀ i, sts i < 12) : JR 0 mX3_empty [.ref a] w (.int (nI (emptyF fr lp sts))) w := by
  have L : ∀ (n i e : Nat), i + n = lp → J 0 mX3_empty 7 [.ref a, .int (nI e), .int (nI i)] [] w (fun v u => v = some (.int (nI (emptyFrom sts n i e))) ∧ u = w) := by
    intro n
    induction n with
    | zero =>
      intro i e hi
      refine j_iload_n iX3_empty_7 rfl ?_
      refine j_aload_n iX3_empty_8 rfl ?_
      refine j_get fk_X3_24 iX3_empty_9 (by repeat (first | assumption | refine wset_ne (by decide) ?_ | exact wset_lt (by (try simp only [List.length_set]); exact wsome (by assumption)))) (by rfl) ?_
      refine j_icmp_geN (tgt := 39) iX3_empty_12 (by decide) (by omega) (by omega) (fun _ => ?_) (fun hno => by exfalso; omega)
      refine j_iload_n iX3_empty_39 rfl ?_
      refine j_iret iX3_empty_40 rfl (by first | rfl | exact nar_bI _ | exact nar_bP) (⟨rfl, rfl⟩)
    | succ n ih =>
      intro i e hi
      have hx := hst i
      refine j_iload_n iX3_empty_7 rfl ?_
      refine j_aload_n iX3_empty_8 rfl ?_
      refine j_get fk_X3_24 iX3_empty_9 (by repeat (first | assumption | refine wset_ne (by decide) ?_ | exact wset_lt (by (try simp only [List.length_set]); exact wsome (by assumption)))) (by rfl) ?_
      refine j_icmp_geN (tgt := 39) iX3_empty_12 (by decide) (by omega) (by omega) (fun hno => by exfalso; omega) (fun _ => ?_)
      refine j_iload_n iX3_empty_15 rfl ?_
      refine j_iconst (v := nI 4) iX3_empty_16 (by decide) ?_
      refine j_icmp_geN (tgt := 39) iX3_empty_17 (by decide) (by omega) (by omega) (fun hno => by exfalso; omega) (fun _ => ?_)
      refine j_iload_n iX3_empty_20 rfl ?_
      refine j_iconst (v := nI 1) iX3_empty_21 (by decide) ?_
      refine j_aload_n iX3_empty_22 rfl ?_
      refine j_get fk_X3_15 iX3_empty_23 (by repeat (first | assumption | refine wset_ne (by decide) ?_ | exact wset_lt (by (try simp only [List.length_set]); exact wsome (by assumption)))) (by rfl) ?_
      refine j_iload_n iX3_empty_26 rfl ?_
      refine j_ialdN iX3_empty_27 (by repeat (first | assumption | refine wset_ne (by decide) ?_ | exact wset_lt (by (try simp only [List.length_set]); exact wsome (by assumption)))) (by omega) ?_
      refine j_ishlN iX3_empty_28 (by omega) ?_
      refine j_iconst (v := (-1)) iX3_empty_29 (by decide) ?_
      refine j_ixor iX3_empty_30 ?_
      refine j_iandnN iX3_empty_31 ?_
      refine j_istore_n iX3_empty_32 (by decide) rfl ?_
      dsimp only [List.set]
      refine j_iincN iX3_empty_33 rfl (by decide) rfl ?_
      dsimp only [List.set]
      refine j_goto (tgt := 7) iX3_empty_36 (by decide) ?_
      exact ih (i + 1) _ (by omega)
  refine j_start (ls := [.ref a, .null, .null]) rfl ?_
  refine j_aload_n iX3_empty_0 rfl ?_
  refine j_get fk_X3_32 iX3_empty_1 (by repeat (first | assumption | refine wset_ne (by decide) ?_ | exact wset_lt (by (try simp only [List.length_set]); exact wsome (by assumption)))) (by rfl) ?_
  refine j_istore_n iX3_empty_4 (by decide) rfl ?_
  dsimp only [List.set]
  refine j_iconst (v := nI 0) iX3_empty_5 (by decide) ?_
  refine j_istore_n iX3_empty_6 (by decide) rfl ?_
  dsimp only [List.set]
  exact L lp 0 fr (by omega)
def whoFrom (sts : Nat → Nat) (c : Nat) : Nat → Nat → Option Nat
  | 0, _ => none
  | n + 1, i => if sts i = c then some i else whoFrom sts c n (i + 1)
def whoF (lp : Nat) (sts : Nat → Nat) (c : Nat) : Option Nat := whoFrom sts c lp 0
theorem c_whoStands (hs : w[a]? = some (oS fr lp lps sn k st so ss)) (hlp : lp ≤ 4) (hk : w[st]? = some (nA 4 sts)) (hst : ∀ i, sts i < 12) (c : Nat) (hc : c < 2 ^ 31) : JR 0 mX3_whoStands [.ref a, .int (nI c)] w (.int (oN (whoF lp sts c))) w := by
  have L : ∀ (n i : Nat), i + n = lp → J 0 mX3_whoStands 2 [.ref a, .int (nI c), .int (nI i)] [] w (fun v u => v = some (.int (oN (whoFrom sts c n i))) ∧ u = w) := by
    intro n
    induction n with
    | zero =>
      intro i hi
      refine j_iload_n iX3_whoStands_2 rfl ?_
      refine j_aload_n iX3_whoStands_3 rfl ?_
      refine j_get fk_X3_24 iX3_whoStands_4 (by repeat (first | assumption | refine wset_ne (by decide) ?_ | exact wset_lt (by (try simp only [List.length_set]); exact wsome (by assumption)))) (by rfl) ?_
      refine j_icmp_geN (tgt := 33) iX3_whoStands_7 (by decide) (by omega) (by omega) (fun _ => ?_) (fun hno => by exfalso; omega)
      refine j_iconst (v := (-1)) iX3_whoStands_33 (by decide) ?_
      refine j_iret iX3_whoStands_34 rfl (by first | rfl | exact nar_bI _ | exact nar_bP) (⟨rfl, rfl⟩)
    | succ n ih =>
      intro i hi
      have hx := hst i
      refine j_iload_n iX3_whoStands_2 rfl ?_
      refine j_aload_n iX3_whoStands_3 rfl ?_
      refine j_get fk_X3_24 iX3_whoStands_4 (by repeat (first | assumption | refine wset_ne (by decide) ?_ | exact wset_lt (by (try simp only [List.length_set]); exact wsome (by assumption)))) (by rfl) ?_
      refine j_icmp_geN (tgt := 33) iX3_whoStands_7 (by decide) (by omega) (by omega) (fun hno => by exfalso; omega) (fun _ => ?_)
      refine j_iload_n iX3_whoStands_10 rfl ?_
      refine j_iconst (v := nI 4) iX3_whoStands_11 (by decide) ?_
      refine j_icmp_geN (tgt := 33) iX3_whoStands_12 (by decide) (by omega) (by omega) (fun hno => by exfalso; omega) (fun _ => ?_)
      refine j_aload_n iX3_whoStands_15 rfl ?_
      refine j_get fk_X3_15 iX3_whoStands_16 (by repeat (first | assumption | refine wset_ne (by decide) ?_ | exact wset_lt (by (try simp only [List.length_set]); exact wsome (by assumption)))) (by rfl) ?_
      refine j_iload_n iX3_whoStands_19 rfl ?_
      refine j_ialdN iX3_whoStands_20 (by repeat (first | assumption | refine wset_ne (by decide) ?_ | exact wset_lt (by (try simp only [List.length_set]); exact wsome (by assumption)))) (by omega) ?_
      refine j_iload_n iX3_whoStands_21 rfl ?_
      refine j_icmp_neN (tgt := 27) iX3_whoStands_22 (by decide) (by omega) (by omega) (fun h22 => ?_) (fun h22 => ?_)
      · refine j_iincN iX3_whoStands_27 rfl (by decide) rfl ?_
        dsimp only [List.set]
        refine j_goto (tgt := 2) iX3_whoStands_30 (by decide) ?_
        exact (by simpa only [whoFrom, h22, if_false] using ih (i + 1) (by omega))
      · refine j_iload_n iX3_whoStands_25 rfl ?_
        refine j_iret iX3_whoStands_26 rfl (by first | rfl | exact nar_bI _ | exact nar_bP) (⟨by simp only [whoFrom, h22, if_true]; rfl, rfl⟩)
  refine j_start (ls := [.ref a, .int (nI c), .null]) rfl ?_
  refine j_iconst (v := nI 0) iX3_whoStands_0 (by decide) ?_
  refine j_istore_n iX3_whoStands_1 (by decide) rfl ?_
  dsimp only [List.set]
  exact L lp 0 (by omega)
theorem c_note (hs : w[a]? = some (oS fr lp lps sn k st so ss)) (ho : w[so]? = some (nA 6 sof)) (h2 : w[ss]? = some (nA 6 sso)) (hao : a ≠ so) (has : a ≠ ss) (hos : so ≠ ss) (x y : Nat) (hsn : sn < 6) : JR 0 mX3_note [.ref a, .int (nI x), .int (nI y)] w (.int (bI true)) (((w.set so (nA 6 (un sof sn x))).set ss (nA 6 (un sso sn y))).set a (oS fr lp lps (sn + 1) k st so ss)) := by
  refine j_start (ls := [.ref a, .int (nI x), .int (nI y)]) rfl ?_
  have hA : (w.set so (nA 6 (un sof sn x)))[a]? = some (oS fr lp lps sn k st so ss) := wset_ne (fun e => hao e.symm) hs
  have hB : (w.set so (nA 6 (un sof sn x)))[ss]? = some (nA 6 sso) := wset_ne hos h2
  have hC : ((w.set so (nA 6 (un sof sn x))).set ss (nA 6 (un sso sn y)))[a]? = some (oS fr lp lps sn k st so ss) := wset_ne (fun e => has e.symm) hA
  refine j_aload_n iX3_note_0 rfl ?_
  refine j_get fk_X3_35 iX3_note_1 (by repeat (first | assumption | refine wset_ne (by decide) ?_ | exact wset_lt (by (try simp only [List.length_set]); exact wsome (by assumption)))) (by rfl) ?_
  refine j_if_ltN (tgt := 16) iX3_note_4 (by decide) (by omega) (fun hno => by exfalso; omega) (fun _ => ?_)
  refine j_aload_n iX3_note_7 rfl ?_
  refine j_get fk_X3_35 iX3_note_8 (by repeat (first | assumption | refine wset_ne (by decide) ?_ | exact wset_lt (by (try simp only [List.length_set]); exact wsome (by assumption)))) (by rfl) ?_
  refine j_bipush (v := nI 6) iX3_note_11 (by decide) ?_
  refine j_icmp_ltN (tgt := 18) iX3_note_13 (by decide) (by omega) (by omega) (fun _ => ?_) (fun hno => by exfalso; omega)
  refine j_aload_n iX3_note_18 rfl ?_
  refine j_get fk_X3_18 iX3_note_19 (by repeat (first | assumption | refine wset_ne (by decide) ?_ | exact wset_lt (by (try simp only [List.length_set]); exact wsome (by assumption)))) (by rfl) ?_
  refine j_aload_n iX3_note_22 rfl ?_
  refine j_get fk_X3_35 iX3_note_23 (by repeat (first | assumption | refine wset_ne (by decide) ?_ | exact wset_lt (by (try simp only [List.length_set]); exact wsome (by assumption)))) (by rfl) ?_
  refine j_iload_n iX3_note_26 rfl ?_
  refine j_iastN iX3_note_27 (by repeat (first | assumption | refine wset_ne (by decide) ?_ | exact wset_lt (by (try simp only [List.length_set]); exact wsome (by assumption)))) (by omega) ?_
  refine j_aload_n iX3_note_28 rfl ?_
  refine j_get fk_X3_21 iX3_note_29 (by repeat (first | assumption | refine wset_ne (by decide) ?_ | exact wset_lt (by (try simp only [List.length_set]); exact wsome (by assumption)))) (by rfl) ?_
  refine j_aload_n iX3_note_32 rfl ?_
  refine j_get fk_X3_35 iX3_note_33 (by repeat (first | assumption | refine wset_ne (by decide) ?_ | exact wset_lt (by (try simp only [List.length_set]); exact wsome (by assumption)))) (by rfl) ?_
  refine j_iload_n iX3_note_36 rfl ?_
  refine j_iastN iX3_note_37 (by repeat (first | assumption | refine wset_ne (by decide) ?_ | exact wset_lt (by (try simp only [List.length_set]); exact wsome (by assumption)))) (by omega) ?_
  refine j_aload_n iX3_note_38 rfl ?_
  refine j_dup iX3_note_39 rfl ?_
  refine j_get fk_X3_35 iX3_note_40 (by repeat (first | assumption | refine wset_ne (by decide) ?_ | exact wset_lt (by (try simp only [List.length_set]); exact wsome (by assumption)))) (by rfl) ?_
  refine j_iconst (v := nI 1) iX3_note_43 (by decide) ?_
  refine j_iaddN iX3_note_44  ?_
  refine j_put fk_X3_35 iX3_note_45 (by repeat (first | assumption | refine wset_ne (by decide) ?_ | exact wset_lt (by (try simp only [List.length_set]); exact wsome (by assumption)))) (by intro; rfl) (by intro; rfl) (Nat.le_of_ble_eq_true rfl) ?_
  dsimp only [List.set]
  refine j_iconst (v := nI 1) iX3_note_48 (by decide) ?_
  refine j_iret iX3_note_49 rfl (by first | rfl | exact nar_bI _ | exact nar_bP) (⟨rfl, rfl⟩)
theorem c_note6 (hs : w[a]? = some (oS fr lp lps sn k st so ss)) (x y : Int32) (hsn : sn = 6) : JR 0 mX3_note [.ref a, .int x, .int y] w (.int (bI false)) w := by
  refine j_start (ls := [.ref a, .int x, .int y]) rfl ?_
  refine j_aload_n iX3_note_0 rfl ?_
  refine j_get fk_X3_35 iX3_note_1 (by repeat (first | assumption | refine wset_ne (by decide) ?_ | exact wset_lt (by (try simp only [List.length_set]); exact wsome (by assumption)))) (by rfl) ?_
  refine j_if_ltN (tgt := 16) iX3_note_4 (by decide) (by omega) (fun hno => by exfalso; omega) (fun _ => ?_)
  refine j_aload_n iX3_note_7 rfl ?_
  refine j_get fk_X3_35 iX3_note_8 (by repeat (first | assumption | refine wset_ne (by decide) ?_ | exact wset_lt (by (try simp only [List.length_set]); exact wsome (by assumption)))) (by rfl) ?_
  refine j_bipush (v := nI 6) iX3_note_11 (by decide) ?_
  refine j_icmp_ltN (tgt := 18) iX3_note_13 (by decide) (by omega) (by omega) (fun hno => by exfalso; omega) (fun _ => ?_)
  refine j_iconst (v := nI 0) iX3_note_16 (by decide) ?_
  refine j_iret iX3_note_17 rfl (by first | rfl | exact nar_bI _ | exact nar_bP) (⟨rfl, rfl⟩)
def sortsFrom (sof sso : Nat → Nat) (l : Nat) : Nat → Nat → Nat → Nat
  | 0, _, r => r
  | n + 1, i, r => sortsFrom sof sso l n (i + 1) (if sof i = l then r &&& sso i else r)
def sortsF (sn : Nat) (sof sso : Nat → Nat) (l : Nat) : Nat := sortsFrom sof sso l sn 0 31
theorem c_sorts (hs : w[a]? = some (oS fr lp lps sn k st so ss)) (hsn : sn ≤ 6) (ho : w[so]? = some (nA 6 sof)) (h2 : w[ss]? = some (nA 6 sso)) (hso : ∀ i, sof i < 4) (l : Nat) (hl : l < 4) : JR 0 mX3_sorts [.ref a, .int (nI l)] w (.int (nI (sortsF sn sof sso l))) w := by
  have L : ∀ (n i r : Nat), i + n = sn → J 0 mX3_sorts 5 [.ref a, .int (nI l), .int (nI r), .int (nI i)] [] w (fun v u => v = some (.int (nI (sortsFrom sof sso l n i r))) ∧ u = w) := by
    intro n
    induction n with
    | zero =>
      intro i r hi
      refine j_iload_n iX3_sorts_5 rfl ?_
      refine j_aload_n iX3_sorts_6 rfl ?_
      refine j_get fk_X3_35 iX3_sorts_7 (by repeat (first | assumption | refine wset_ne (by decide) ?_ | exact wset_lt (by (try simp only [List.length_set]); exact wsome (by assumption)))) (by rfl) ?_
      refine j_icmp_geN (tgt := 44) iX3_sorts_10 (by decide) (by omega) (by omega) (fun _ => ?_) (fun hno => by exfalso; omega)
      refine j_iload_n iX3_sorts_44 rfl ?_
      refine j_iret iX3_sorts_45 rfl (by first | rfl | exact nar_bI _ | exact nar_bP) (⟨rfl, rfl⟩)
    | succ n ih =>
      intro i r hi
      have hx := hso i
      refine j_iload_n iX3_sorts_5 rfl ?_
      refine j_aload_n iX3_sorts_6 rfl ?_
      refine j_get fk_X3_35 iX3_sorts_7 (by repeat (first | assumption | refine wset_ne (by decide) ?_ | exact wset_lt (by (try simp only [List.length_set]); exact wsome (by assumption)))) (by rfl) ?_
      refine j_icmp_geN (tgt := 44) iX3_sorts_10 (by decide) (by omega) (by omega) (fun hno => by exfalso; omega) (fun _ => ?_)
      refine j_iload_n iX3_sorts_13 rfl ?_
      refine j_bipush (v := nI 6) iX3_sorts_14 (by decide) ?_
      refine j_icmp_geN (tgt := 44) iX3_sorts_16 (by decide) (by omega) (by omega) (fun hno => by exfalso; omega) (fun _ => ?_)
      refine j_aload_n iX3_sorts_19 rfl ?_
      refine j_get fk_X3_18 iX3_sorts_20 (by repeat (first | assumption | refine wset_ne (by decide) ?_ | exact wset_lt (by (try simp only [List.length_set]); exact wsome (by assumption)))) (by rfl) ?_
      refine j_iload_n iX3_sorts_23 rfl ?_
      refine j_ialdN iX3_sorts_24 (by repeat (first | assumption | refine wset_ne (by decide) ?_ | exact wset_lt (by (try simp only [List.length_set]); exact wsome (by assumption)))) (by omega) ?_
      refine j_iload_n iX3_sorts_25 rfl ?_
      refine j_icmp_neN (tgt := 38) iX3_sorts_26 (by decide) (by omega) (by omega) (fun h26 => ?_) (fun h26 => ?_)
      · refine j_iincN iX3_sorts_38 rfl (by decide) rfl ?_
        dsimp only [List.set]
        refine j_goto (tgt := 5) iX3_sorts_41 (by decide) ?_
        first | exact (by simpa only [sortsFrom, h26, if_false] using ih (i + 1) r (by omega)) | exact (by simpa only [sortsFrom, h26, if_true] using ih (i + 1) (r &&& sso i) (by omega))
      · refine j_iload_n iX3_sorts_29 rfl ?_
        refine j_aload_n iX3_sorts_30 rfl ?_
        refine j_get fk_X3_21 iX3_sorts_31 (by repeat (first | assumption | refine wset_ne (by decide) ?_ | exact wset_lt (by (try simp only [List.length_set]); exact wsome (by assumption)))) (by rfl) ?_
        refine j_iload_n iX3_sorts_34 rfl ?_
        refine j_ialdN iX3_sorts_35 (by repeat (first | assumption | refine wset_ne (by decide) ?_ | exact wset_lt (by (try simp only [List.length_set]); exact wsome (by assumption)))) (by omega) ?_
        refine j_iandN iX3_sorts_36 ?_
        refine j_istore_n iX3_sorts_37 (by decide) rfl ?_
        dsimp only [List.set]
        refine j_iincN iX3_sorts_38 rfl (by decide) rfl ?_
        dsimp only [List.set]
        refine j_goto (tgt := 5) iX3_sorts_41 (by decide) ?_
        first | exact (by simpa only [sortsFrom, h26, if_false] using ih (i + 1) r (by omega)) | exact (by simpa only [sortsFrom, h26, if_true] using ih (i + 1) (r &&& sso i) (by omega))
  refine j_start (ls := [.ref a, .int (nI l), .null, .null]) rfl ?_
  refine j_bipush (v := nI 31) iX3_sorts_0 (by decide) ?_
  refine j_istore_n iX3_sorts_2 (by decide) rfl ?_
  dsimp only [List.set]
  refine j_iconst (v := nI 0) iX3_sorts_3 (by decide) ?_
  refine j_istore_n iX3_sorts_4 (by decide) rfl ?_
  dsimp only [List.set]
  exact L sn 0 31 (by omega)
end
