/-! ===== the reference: what is done ===== -/
section
variable {d : Nat} {mi : MI} {pc pc' : Nat} {ls st : List Value} {w : mW} {Q Q' : Option Value → mW → Prop}
theorem j_bastN {a n : Nat} {f : Nat → Nat} {i x : Nat} (h : decode mi.2.1 pc = .ok (.bastore, 1) ∧ pc + 1 = pc') (hc : w[a]? = some (bA n (fun j => nI (f j)))) (hi : i < n ∧ n < 2 ^ 31 ∧ x < 127) (k : J d mi pc' ls st (w.set a (bA n (fun j => nI (un f i x j)))) Q) : J d mi pc ls (.int (nI x) :: .int (nI i) :: .ref a :: st) w Q :=
  j_bast h hc (vp_in_nI hi.1 hi.2.1) (by rw [nI_clamp (Nat.lt_trans hi.1 hi.2.1), vp_nar_byte, i2b_ok ⟨x, hi.2.2⟩, upd_un]; exact k)
end
abbrev pB (pg : Nat → Nat) : mE := bA 30 (fun i => nI (pg i))
section
variable {w : mW} {bd R C fr lp lps sn sz : Nat} {wh : Bool} {nc nf nl tl : Nat} {sd : Int64} {ik : Bool} {kb kf kl kn : Nat} {hh : Int64} {ks sts pg sof rr cc cn : Nat → Nat}
def atM (pg : Nat → Nat) (sz k : Nat) : Nat := if k < sz then pg k else 0
theorem m_at (hm : w[33]? = some (oM bd R C fr lp lps sn sz wh nc nf nl tl sd ik kb kf kl kn hh)) (h40 : w[40]? = some (pB pg)) (hsz : sz ≤ 30) (k : Nat) (hk : k < 2 ^ 31) : JR 0 mX6_at [.ref 33, .int (nI k)] w (.int (nI (atM pg sz k))) w := by
  refine j_start (ls := [.ref 33, .int (nI k)]) rfl ?_
  refine j_iload_n iX6_at_0 rfl ?_
  refine j_aload_n iX6_at_1 rfl ?_
  refine j_get fk_X6_72 iX6_at_2 (by repeat (first | assumption | refine wset_ne (by decide) ?_ | exact wset_lt (by (try simp only [List.length_set]); exact wsome (by assumption)))) (by rfl) ?_
  refine j_icmp_geN (tgt := 17) iX6_at_5 (by decide) (by omega) (by omega) (fun h5 => ?_) (fun h5 => ?_)
  · refine j_iconst (v := nI 0) iX6_at_17 (by decide) ?_
    refine j_iret iX6_at_18 rfl (by first | rfl | exact nar_bI _ | exact nar_bP) (⟨by unfold atM; first | rw [if_pos h5] | rw [if_neg (by omega)], rfl⟩)
  · refine j_aload_n iX6_at_8 rfl ?_
    refine j_get fk_X6_28 iX6_at_9 (by repeat (first | assumption | refine wset_ne (by decide) ?_ | exact wset_lt (by (try simp only [List.length_set]); exact wsome (by assumption)))) (by rfl) ?_
    refine j_iload_n iX6_at_12 rfl ?_
    refine j_baldN iX6_at_13 (by repeat (first | assumption | refine wset_ne (by decide) ?_ | exact wset_lt (by (try simp only [List.length_set]); exact wsome (by assumption)))) (by omega) ?_
    refine j_goto (tgt := 18) iX6_at_14 (by decide) ?_
    refine j_iret iX6_at_18 rfl (by first | rfl | exact nar_bI _ | exact nar_bP) (⟨by unfold atM; first | rw [if_pos h5] | rw [if_neg (by omega)], rfl⟩)
theorem m_letter_o (x : Int32) (hx : x < 32 ∨ 126 < x) : JR 1 mX6_letter [.ref 33, .int x] w (.int (-102)) w := by
  refine j_start (ls := [.ref 33, .int x]) rfl ?_
  refine j_iload_n iX6_letter_0 rfl ?_
  refine j_bipush (v := nI 32) iX6_letter_1 (by decide) ?_
  refine j_bipush (v := nI 126) iX6_letter_3 (by decide) ?_
  refine j_S3R okX6_within lk_X6_68 iX6_letter_5 (by omega) (m_within _ _ _) rfl (Nat.le_of_ble_eq_true rfl) (Nat.le_of_ble_eq_true rfl) ?_
  refine j_if_neB (tgt := 14) iX6_letter_8 (by decide) (fun hno => Bool.noConfusion (hno.symm.trans (show _ = false from by rcases hx with q | q; (unfold wi; exact decide_eq_false (fun z => z.1 q)); (unfold wi; exact decide_eq_false (fun z => z.2 q))))) (fun _ => ?_)
  refine j_bipush (v := (-102)) iX6_letter_11 (by decide) ?_
  refine j_iret iX6_letter_13 rfl (by first | rfl | exact nar_bI _ | exact nar_bP) (⟨rfl, rfl⟩)
theorem m_letter_f (hm : w[33]? = some (oM bd R C fr lp lps sn (30) wh nc nf nl tl sd ik kb kf kl kn hh)) (c : Nat) (h1 : 32 ≤ c) (h2 : c ≤ 126) : JR 1 mX6_letter [.ref 33, .int (nI c)] w (.int (-104)) w := by
  refine j_start (ls := [.ref 33, .int (nI c)]) rfl ?_
  refine j_iload_n iX6_letter_0 rfl ?_
  refine j_bipush (v := nI 32) iX6_letter_1 (by decide) ?_
  refine j_bipush (v := nI 126) iX6_letter_3 (by decide) ?_
  refine j_S3R okX6_within lk_X6_68 iX6_letter_5 (by omega) (m_within _ _ _) rfl (Nat.le_of_ble_eq_true rfl) (Nat.le_of_ble_eq_true rfl) ?_
  refine j_if_neB (tgt := 14) iX6_letter_8 (by decide) (fun _ => ?_) (fun hno => Bool.noConfusion (hno.symm.trans (show _ = true from by rw [wi_N (by omega) (by decide) (by decide)]; exact decide_eq_true ⟨h1, h2⟩)))
  refine j_aload_n iX6_letter_14 rfl ?_
  refine j_get fk_X6_72 iX6_letter_15 (by repeat (first | assumption | refine wset_ne (by decide) ?_ | exact wset_lt (by (try simp only [List.length_set]); exact wsome (by assumption)))) (by rfl) ?_
  refine j_bipush (v := nI 30) iX6_letter_18 (by decide) ?_
  refine j_icmp_neN (tgt := 26) iX6_letter_20 (by decide) (by omega) (by omega) (fun hno => by exfalso; omega) (fun _ => ?_)
  refine j_bipush (v := (-104)) iX6_letter_23 (by decide) ?_
  refine j_iret iX6_letter_25 rfl (by first | rfl | exact nar_bI _ | exact nar_bP) (⟨rfl, rfl⟩)
theorem m_letter (hm : w[33]? = some (oM bd R C fr lp lps sn sz wh nc nf nl tl sd ik kb kf kl kn hh)) (h40 : w[40]? = some (pB pg)) (hsz : sz < 30) (c : Nat) (h1 : 32 ≤ c) (h2 : c ≤ 126) : JR 1 mX6_letter [.ref 33, .int (nI c)] w (.int (nI (sz + 1))) ((w.set 40 (pB (un pg sz c))).set 33 (oM bd R C fr lp lps sn (sz + 1) wh nc nf nl tl sd ik kb kf kl kn hh)) := by
  refine j_start (ls := [.ref 33, .int (nI c)]) rfl ?_
  refine j_iload_n iX6_letter_0 rfl ?_
  refine j_bipush (v := nI 32) iX6_letter_1 (by decide) ?_
  refine j_bipush (v := nI 126) iX6_letter_3 (by decide) ?_
  refine j_S3R okX6_within lk_X6_68 iX6_letter_5 (by omega) (m_within _ _ _) rfl (Nat.le_of_ble_eq_true rfl) (Nat.le_of_ble_eq_true rfl) ?_
  refine j_if_neB (tgt := 14) iX6_letter_8 (by decide) (fun _ => ?_) (fun hno => Bool.noConfusion (hno.symm.trans (show _ = true from by rw [wi_N (by omega) (by decide) (by decide)]; exact decide_eq_true ⟨h1, h2⟩)))
  refine j_aload_n iX6_letter_14 rfl ?_
  refine j_get fk_X6_72 iX6_letter_15 (by repeat (first | assumption | refine wset_ne (by decide) ?_ | exact wset_lt (by (try simp only [List.length_set]); exact wsome (by assumption)))) (by rfl) ?_
  refine j_bipush (v := nI 30) iX6_letter_18 (by decide) ?_
  refine j_icmp_neN (tgt := 26) iX6_letter_20 (by decide) (by omega) (by omega) (fun _ => ?_) (fun hno => by exfalso; omega)
  refine j_aload_n iX6_letter_26 rfl ?_
  refine j_get fk_X6_28 iX6_letter_27 (by repeat (first | assumption | refine wset_ne (by decide) ?_ | exact wset_lt (by (try simp only [List.length_set]); exact wsome (by assumption)))) (by rfl) ?_
  refine j_aload_n iX6_letter_30 rfl ?_
  refine j_get fk_X6_72 iX6_letter_31 (by repeat (first | assumption | refine wset_ne (by decide) ?_ | exact wset_lt (by (try simp only [List.length_set]); exact wsome (by assumption)))) (by rfl) ?_
  refine j_iload_n iX6_letter_34 rfl ?_
  refine j_i2b iX6_letter_35 ?_
  refine j_top (y := nI c) (by exact i2b_ok ⟨c, by omega⟩) ?_
  refine j_bastN iX6_letter_36 (by repeat (first | assumption | refine wset_ne (by decide) ?_ | exact wset_lt (by (try simp only [List.length_set]); exact wsome (by assumption)))) (by omega) ?_
  refine j_aload_n iX6_letter_37 rfl ?_
  refine j_dup iX6_letter_38 rfl ?_
  refine j_get fk_X6_72 iX6_letter_39 (by repeat (first | assumption | refine wset_ne (by decide) ?_ | exact wset_lt (by (try simp only [List.length_set]); exact wsome (by assumption)))) (by rfl) ?_
  refine j_iconst (v := nI 1) iX6_letter_42 (by decide) ?_
  refine j_iaddN iX6_letter_43  ?_
  refine j_put fk_X6_72 iX6_letter_44 (by repeat (first | assumption | refine wset_ne (by decide) ?_ | exact wset_lt (by (try simp only [List.length_set]); exact wsome (by assumption)))) (by intro; rfl) (by intro; rfl) (Nat.le_of_ble_eq_true rfl) ?_
  dsimp only [List.set]
  refine j_aload_n iX6_letter_47 rfl ?_
  refine j_get fk_X6_72 iX6_letter_48 (by repeat (first | assumption | refine wset_ne (by decide) ?_ | exact wset_lt (by (try simp only [List.length_set]); exact wsome (by assumption)))) (by rfl) ?_
  refine j_iret iX6_letter_51 rfl (by first | rfl | exact nar_bI _ | exact nar_bP) (⟨rfl, rfl⟩)
theorem m_blank (hm : w[33]? = some (oM bd R C fr lp lps sn sz wh nc nf nl tl sd ik kb kf kl kn hh)) : JR 0 mX6_blank [.ref 33] w (.int (nI sz)) (w.set 33 (oM bd R C fr lp lps sn (0) wh nc nf nl tl sd ik kb kf kl kn hh)) := by
  refine j_start (ls := [.ref 33, .null]) rfl ?_
  refine j_aload_n iX6_blank_0 rfl ?_
  refine j_get fk_X6_72 iX6_blank_1 (by repeat (first | assumption | refine wset_ne (by decide) ?_ | exact wset_lt (by (try simp only [List.length_set]); exact wsome (by assumption)))) (by rfl) ?_
  refine j_istore_n iX6_blank_4 (by decide) rfl ?_
  dsimp only [List.set]
  refine j_aload_n iX6_blank_5 rfl ?_
  refine j_iconst (v := nI 0) iX6_blank_6 (by decide) ?_
  refine j_put fk_X6_72 iX6_blank_7 (by repeat (first | assumption | refine wset_ne (by decide) ?_ | exact wset_lt (by (try simp only [List.length_set]); exact wsome (by assumption)))) (by intro; rfl) (by intro; rfl) (Nat.le_of_ble_eq_true rfl) ?_
  dsimp only [List.set]
  refine j_iload_n iX6_blank_10 rfl ?_
  refine j_iret iX6_blank_11 rfl (by first | rfl | exact nar_bI _ | exact nar_bP) (⟨rfl, rfl⟩)
theorem m_leap_u (hm : w[33]? = some (oM bd R C fr lp lps sn sz wh nc nf nl tl sd ik kb kf kl kn hh)) (hN : R * C ≤ 12) (hlp : lp ≤ 4) (x y : Int32) (hx : inR x lp = false ∨ inR y (R * C) = false) : JR 5 mX6_leap [.ref 33, .int x, .int y] w (.int (-101)) w := by
  refine j_start (ls := [.ref 33, .int x, .int y]) rfl ?_
  refine j_aload_n iX6_leap_0 rfl ?_
  refine j_iload_n iX6_leap_1 rfl ?_
  refine j_V1R okX6_isLeaper lk_X6_166 iX6_leap_2 (by omega) (by repeat (first | assumption | refine wset_ne (by decide) ?_ | exact wset_lt (by (try simp only [List.length_set]); exact wsome (by assumption)))) rfl (m_isLeaper hm hlp x) rfl (Nat.le_of_ble_eq_true rfl) (Nat.le_of_ble_eq_true rfl) ?_
  refine j_if_eqB (tgt := 16) iX6_leap_5 (by decide) (fun h5 => ?_) (fun h5 => ?_)
  · refine j_bipush (v := (-101)) iX6_leap_16 (by decide) ?_
    refine j_iret iX6_leap_18 rfl (by first | rfl | exact nar_bI _ | exact nar_bP) (⟨rfl, rfl⟩)
  · refine j_aload_n iX6_leap_8 rfl ?_
    refine j_iload_n iX6_leap_9 rfl ?_
    refine j_V1R okX6_isCell lk_X6_179 iX6_leap_10 (by omega) (by repeat (first | assumption | refine wset_ne (by decide) ?_ | exact wset_lt (by (try simp only [List.length_set]); exact wsome (by assumption)))) rfl (m_isCell hm hN y) rfl (Nat.le_of_ble_eq_true rfl) (Nat.le_of_ble_eq_true rfl) ?_
    refine j_if_neB (tgt := 19) iX6_leap_13 (by decide) (fun hno => Bool.noConfusion (hno.symm.trans (show _ = false from by rcases hx with q | q; (rw [h5] at q; cases q); exact q))) (fun _ => ?_)
    refine j_bipush (v := (-101)) iX6_leap_16 (by decide) ?_
    refine j_iret iX6_leap_18 rfl (by first | rfl | exact nar_bI _ | exact nar_bP) (⟨rfl, rfl⟩)
theorem m_leap_s (hm : w[33]? = some (oM bd R C fr lp lps sn sz wh nc nf nl tl sd ik kb kf kl kn hh)) (h34 : w[34]? = some (nA 4 ks)) (h35 : w[35]? = some (nA 4 sts)) (hN : R * C ≤ 12) (hfr : fr < 4096) (hlp : lp ≤ 4) (hks : ∀ i, ks i < 5) (hst : ∀ i, sts i < 12) (hsN : ∀ i, i < lp → sts i < R * C) (j c : Nat) (hj : j < lp) (hc : c < R * C) (hg : (gol C (R * C) fr lp ks sts j).testBit c = false) : JR 5 mX6_leap [.ref 33, .int (nI j), .int (nI c)] w (.int (-103)) w := by
  have hgb := gol_b (C := C) (N := R * C) (lp := lp) (ks := ks) (sts := sts) hfr j
  refine j_start (ls := [.ref 33, .int (nI j), .int (nI c)]) rfl ?_
  refine j_aload_n iX6_leap_0 rfl ?_
  refine j_iload_n iX6_leap_1 rfl ?_
  refine j_V1R okX6_isLeaper lk_X6_166 iX6_leap_2 (by omega) (by repeat (first | assumption | refine wset_ne (by decide) ?_ | exact wset_lt (by (try simp only [List.length_set]); exact wsome (by assumption)))) rfl (m_isLeaper hm hlp _) rfl (Nat.le_of_ble_eq_true rfl) (Nat.le_of_ble_eq_true rfl) ?_
  refine j_if_eqB (tgt := 16) iX6_leap_5 (by decide) (fun hno => Bool.noConfusion (hno.symm.trans (show _ = true from by rw [inR_nI (by omega) (by omega)]; exact decide_eq_true hj))) (fun _ => ?_)
  refine j_aload_n iX6_leap_8 rfl ?_
  refine j_iload_n iX6_leap_9 rfl ?_
  refine j_V1R okX6_isCell lk_X6_179 iX6_leap_10 (by omega) (by repeat (first | assumption | refine wset_ne (by decide) ?_ | exact wset_lt (by (try simp only [List.length_set]); exact wsome (by assumption)))) rfl (m_isCell hm hN _) rfl (Nat.le_of_ble_eq_true rfl) (Nat.le_of_ble_eq_true rfl) ?_
  refine j_if_neB (tgt := 19) iX6_leap_13 (by decide) (fun _ => ?_) (fun hno => Bool.noConfusion (hno.symm.trans (show _ = true from by rw [inR_nI (by omega) (by omega)]; exact decide_eq_true hc)))
  refine j_aload_n iX6_leap_19 rfl ?_
  refine j_iload_n iX6_leap_20 rfl ?_
  refine j_V1R okX6_canGo lk_X6_154 iX6_leap_21 (by omega) (by repeat (first | assumption | refine wset_ne (by decide) ?_ | exact wset_lt (by (try simp only [List.length_set]); exact wsome (by assumption)))) rfl (m_canGo hm h34 h35 hN hfr hlp hst j (by omega) (hks j) (hsN j hj)) rfl (Nat.le_of_ble_eq_true rfl) (Nat.le_of_ble_eq_true rfl) ?_
  refine j_iload_n iX6_leap_24 rfl ?_
  refine j_S2R okX6_isIn lk_X6_92 iX6_leap_25 (by omega) (m_isIn _ c (by omega) (by omega)) rfl (Nat.le_of_ble_eq_true rfl) (Nat.le_of_ble_eq_true rfl) ?_
  refine j_if_neB (tgt := 34) iX6_leap_28 (by decide) (fun hno => Bool.noConfusion (hno.symm.trans (show _ = false from hg))) (fun _ => ?_)
  refine j_bipush (v := (-103)) iX6_leap_31 (by decide) ?_
  refine j_iret iX6_leap_33 rfl (by first | rfl | exact nar_bI _ | exact nar_bP) (⟨rfl, rfl⟩)
theorem m_leap_f (hm : w[33]? = some (oM bd R C fr lp (999) sn sz wh nc nf nl tl sd ik kb kf kl kn hh)) (h34 : w[34]? = some (nA 4 ks)) (h35 : w[35]? = some (nA 4 sts)) (hN : R * C ≤ 12) (hfr : fr < 4096) (hlp : lp ≤ 4) (hks : ∀ i, ks i < 5) (hst : ∀ i, sts i < 12) (hsN : ∀ i, i < lp → sts i < R * C) (j c : Nat) (hj : j < lp) (hc : c < R * C) (hg : (gol C (R * C) fr lp ks sts j).testBit c = true) : JR 5 mX6_leap [.ref 33, .int (nI j), .int (nI c)] w (.int (-104)) w := by
  have hgb := gol_b (C := C) (N := R * C) (lp := lp) (ks := ks) (sts := sts) hfr j
  refine j_start (ls := [.ref 33, .int (nI j), .int (nI c)]) rfl ?_
  refine j_aload_n iX6_leap_0 rfl ?_
  refine j_iload_n iX6_leap_1 rfl ?_
  refine j_V1R okX6_isLeaper lk_X6_166 iX6_leap_2 (by omega) (by repeat (first | assumption | refine wset_ne (by decide) ?_ | exact wset_lt (by (try simp only [List.length_set]); exact wsome (by assumption)))) rfl (m_isLeaper hm hlp _) rfl (Nat.le_of_ble_eq_true rfl) (Nat.le_of_ble_eq_true rfl) ?_
  refine j_if_eqB (tgt := 16) iX6_leap_5 (by decide) (fun hno => Bool.noConfusion (hno.symm.trans (show _ = true from by rw [inR_nI (by omega) (by omega)]; exact decide_eq_true hj))) (fun _ => ?_)
  refine j_aload_n iX6_leap_8 rfl ?_
  refine j_iload_n iX6_leap_9 rfl ?_
  refine j_V1R okX6_isCell lk_X6_179 iX6_leap_10 (by omega) (by repeat (first | assumption | refine wset_ne (by decide) ?_ | exact wset_lt (by (try simp only [List.length_set]); exact wsome (by assumption)))) rfl (m_isCell hm hN _) rfl (Nat.le_of_ble_eq_true rfl) (Nat.le_of_ble_eq_true rfl) ?_
  refine j_if_neB (tgt := 19) iX6_leap_13 (by decide) (fun _ => ?_) (fun hno => Bool.noConfusion (hno.symm.trans (show _ = true from by rw [inR_nI (by omega) (by omega)]; exact decide_eq_true hc)))
  refine j_aload_n iX6_leap_19 rfl ?_
  refine j_iload_n iX6_leap_20 rfl ?_
  refine j_V1R okX6_canGo lk_X6_154 iX6_leap_21 (by omega) (by repeat (first | assumption | refine wset_ne (by decide) ?_ | exact wset_lt (by (try simp only [List.length_set]); exact wsome (by assumption)))) rfl (m_canGo hm h34 h35 hN hfr hlp hst j (by omega) (hks j) (hsN j hj)) rfl (Nat.le_of_ble_eq_true rfl) (Nat.le_of_ble_eq_true rfl) ?_
  refine j_iload_n iX6_leap_24 rfl ?_
  refine j_S2R okX6_isIn lk_X6_92 iX6_leap_25 (by omega) (m_isIn _ c (by omega) (by omega)) rfl (Nat.le_of_ble_eq_true rfl) (Nat.le_of_ble_eq_true rfl) ?_
  refine j_if_neB (tgt := 34) iX6_leap_28 (by decide) (fun _ => ?_) (fun hno => Bool.noConfusion (hno.symm.trans (show _ = true from hg)))
  refine j_aload_n iX6_leap_34 rfl ?_
  refine j_get fk_X6_122 iX6_leap_35 (by repeat (first | assumption | refine wset_ne (by decide) ?_ | exact wset_lt (by (try simp only [List.length_set]); exact wsome (by assumption)))) (by rfl) ?_
  refine j_sipush (v := nI 999) iX6_leap_38 (by decide) ?_
  refine j_icmp_neN (tgt := 47) iX6_leap_41 (by decide) (by omega) (by omega) (fun hno => by exfalso; omega) (fun _ => ?_)
  refine j_bipush (v := (-104)) iX6_leap_44 (by decide) ?_
  refine j_iret iX6_leap_46 rfl (by first | rfl | exact nar_bI _ | exact nar_bP) (⟨rfl, rfl⟩)
theorem m_leap (hm : w[33]? = some (oM bd R C fr lp lps sn sz wh nc nf nl tl sd ik kb kf kl kn hh)) (h34 : w[34]? = some (nA 4 ks)) (h35 : w[35]? = some (nA 4 sts)) (hN : R * C ≤ 12) (hfr : fr < 4096) (hlp : lp ≤ 4) (hks : ∀ i, ks i < 5) (hst : ∀ i, sts i < 12) (hsN : ∀ i, i < lp → sts i < R * C) (j c : Nat) (hj : j < lp) (hc : c < R * C) (hg : (gol C (R * C) fr lp ks sts j).testBit c = true) (hl : lps < 999) : JR 5 mX6_leap [.ref 33, .int (nI j), .int (nI c)] w (.int (nI (lps + 1))) ((w.set 35 (nA 4 (un sts j c))).set 33 (oM bd R C fr lp (lps + 1) sn sz wh nc nf nl tl sd ik kb kf kl kn hh)) := by
  have hgb := gol_b (C := C) (N := R * C) (lp := lp) (ks := ks) (sts := sts) hfr j
  refine j_start (ls := [.ref 33, .int (nI j), .int (nI c)]) rfl ?_
  refine j_aload_n iX6_leap_0 rfl ?_
  refine j_iload_n iX6_leap_1 rfl ?_
  refine j_V1R okX6_isLeaper lk_X6_166 iX6_leap_2 (by omega) (by repeat (first | assumption | refine wset_ne (by decide) ?_ | exact wset_lt (by (try simp only [List.length_set]); exact wsome (by assumption)))) rfl (m_isLeaper hm hlp _) rfl (Nat.le_of_ble_eq_true rfl) (Nat.le_of_ble_eq_true rfl) ?_
  refine j_if_eqB (tgt := 16) iX6_leap_5 (by decide) (fun hno => Bool.noConfusion (hno.symm.trans (show _ = true from by rw [inR_nI (by omega) (by omega)]; exact decide_eq_true hj))) (fun _ => ?_)
  refine j_aload_n iX6_leap_8 rfl ?_
  refine j_iload_n iX6_leap_9 rfl ?_
  refine j_V1R okX6_isCell lk_X6_179 iX6_leap_10 (by omega) (by repeat (first | assumption | refine wset_ne (by decide) ?_ | exact wset_lt (by (try simp only [List.length_set]); exact wsome (by assumption)))) rfl (m_isCell hm hN _) rfl (Nat.le_of_ble_eq_true rfl) (Nat.le_of_ble_eq_true rfl) ?_
  refine j_if_neB (tgt := 19) iX6_leap_13 (by decide) (fun _ => ?_) (fun hno => Bool.noConfusion (hno.symm.trans (show _ = true from by rw [inR_nI (by omega) (by omega)]; exact decide_eq_true hc)))
  refine j_aload_n iX6_leap_19 rfl ?_
  refine j_iload_n iX6_leap_20 rfl ?_
  refine j_V1R okX6_canGo lk_X6_154 iX6_leap_21 (by omega) (by repeat (first | assumption | refine wset_ne (by decide) ?_ | exact wset_lt (by (try simp only [List.length_set]); exact wsome (by assumption)))) rfl (m_canGo hm h34 h35 hN hfr hlp hst j (by omega) (hks j) (hsN j hj)) rfl (Nat.le_of_ble_eq_true rfl) (Nat.le_of_ble_eq_true rfl) ?_
  refine j_iload_n iX6_leap_24 rfl ?_
  refine j_S2R okX6_isIn lk_X6_92 iX6_leap_25 (by omega) (m_isIn _ c (by omega) (by omega)) rfl (Nat.le_of_ble_eq_true rfl) (Nat.le_of_ble_eq_true rfl) ?_
  refine j_if_neB (tgt := 34) iX6_leap_28 (by decide) (fun _ => ?_) (fun hno => Bool.noConfusion (hno.symm.trans (show _ = true from hg)))
  refine j_aload_n iX6_leap_34 rfl ?_
  refine j_get fk_X6_122 iX6_leap_35 (by repeat (first | assumption | refine wset_ne (by decide) ?_ | exact wset_lt (by (try simp only [List.length_set]); exact wsome (by assumption)))) (by rfl) ?_
  refine j_sipush (v := nI 999) iX6_leap_38 (by decide) ?_
  refine j_icmp_neN (tgt := 47) iX6_leap_41 (by decide) (by omega) (by omega) (fun _ => ?_) (fun hno => by exfalso; omega)
  refine j_aload_n iX6_leap_47 rfl ?_
  refine j_get fk_X6_13 iX6_leap_48 (by repeat (first | assumption | refine wset_ne (by decide) ?_ | exact wset_lt (by (try simp only [List.length_set]); exact wsome (by assumption)))) (by rfl) ?_
  refine j_iload_n iX6_leap_51 rfl ?_
  refine j_iload_n iX6_leap_52 rfl ?_
  refine j_iastN iX6_leap_53 (by repeat (first | assumption | refine wset_ne (by decide) ?_ | exact wset_lt (by (try simp only [List.length_set]); exact wsome (by assumption)))) (by omega) ?_
  refine j_aload_n iX6_leap_54 rfl ?_
  refine j_dup iX6_leap_55 rfl ?_
  refine j_get fk_X6_122 iX6_leap_56 (by repeat (first | assumption | refine wset_ne (by decide) ?_ | exact wset_lt (by (try simp only [List.length_set]); exact wsome (by assumption)))) (by rfl) ?_
  refine j_iconst (v := nI 1) iX6_leap_59 (by decide) ?_
  refine j_iaddN iX6_leap_60  ?_
  refine j_put fk_X6_122 iX6_leap_61 (by repeat (first | assumption | refine wset_ne (by decide) ?_ | exact wset_lt (by (try simp only [List.length_set]); exact wsome (by assumption)))) (by intro; rfl) (by intro; rfl) (Nat.le_of_ble_eq_true rfl) ?_
  dsimp only [List.set]
  refine j_aload_n iX6_leap_64 rfl ?_
  refine j_get fk_X6_122 iX6_leap_65 (by repeat (first | assumption | refine wset_ne (by decide) ?_ | exact wset_lt (by (try simp only [List.length_set]); exact wsome (by assumption)))) (by rfl) ?_
  refine j_iret iX6_leap_68 rfl (by first | rfl | exact nar_bI _ | exact nar_bP) (⟨rfl, rfl⟩)
theorem m_dig_u (hm : w[33]? = some (oM bd R C fr lp lps sn sz wh nc nf nl tl sd ik kb kf kl kn hh)) (hN : R * C ≤ 12) (x : Int32) (hx : inR x (R * C) = false) : JR 2 mX6_dig [.ref 33, .int x] w (.int (-101)) w := by
  refine j_start (ls := [.ref 33, .int x]) rfl ?_
  refine j_aload_n iX6_dig_0 rfl ?_
  refine j_iload_n iX6_dig_1 rfl ?_
  refine j_V1R okX6_isCell lk_X6_179 iX6_dig_2 (by omega) (by repeat (first | assumption | refine wset_ne (by decide) ?_ | exact wset_lt (by (try simp only [List.length_set]); exact wsome (by assumption)))) rfl (m_isCell hm hN x) rfl (Nat.le_of_ble_eq_true rfl) (Nat.le_of_ble_eq_true rfl) ?_
  refine j_if_neB (tgt := 11) iX6_dig_5 (by decide) (fun hno => Bool.noConfusion (hno.symm.trans (show _ = false from hx))) (fun _ => ?_)
  refine j_bipush (v := (-101)) iX6_dig_8 (by decide) ?_
  refine j_iret iX6_dig_10 rfl (by first | rfl | exact nar_bI _ | exact nar_bP) (⟨rfl, rfl⟩)
theorem m_dig_s (hm : w[33]? = some (oM bd R C fr lp lps sn sz wh nc nf nl tl sd ik kb kf kl kn hh)) (h35 : w[35]? = some (nA 4 sts)) (hN : R * C ≤ 12) (hfr : fr < 4096) (hlp : lp ≤ 4) (hst : ∀ i, sts i < 12) (c : Nat) (hc : c < R * C) (hg : (emptyF fr lp sts).testBit c = false) : JR 2 mX6_dig [.ref 33, .int (nI c)] w (.int (-103)) w := by
  have he := ad_b (b := stdF lp sts) hfr
  rw [empty_ad] at hg
  refine j_start (ls := [.ref 33, .int (nI c)]) rfl ?_
  refine j_aload_n iX6_dig_0 rfl ?_
  refine j_iload_n iX6_dig_1 rfl ?_
  refine j_V1R okX6_isCell lk_X6_179 iX6_dig_2 (by omega) (by repeat (first | assumption | refine wset_ne (by decide) ?_ | exact wset_lt (by (try simp only [List.length_set]); exact wsome (by assumption)))) rfl (m_isCell hm hN _) rfl (Nat.le_of_ble_eq_true rfl) (Nat.le_of_ble_eq_true rfl) ?_
  refine j_if_neB (tgt := 11) iX6_dig_5 (by decide) (fun _ => ?_) (fun hno => Bool.noConfusion (hno.symm.trans (show _ = true from by rw [inR_nI (by omega) (by omega)]; exact decide_eq_true hc)))
  refine j_aload_n iX6_dig_11 rfl ?_
  refine j_get fk_X6_116 iX6_dig_12 (by repeat (first | assumption | refine wset_ne (by decide) ?_ | exact wset_lt (by (try simp only [List.length_set]); exact wsome (by assumption)))) (by rfl) ?_
  refine j_aload_n iX6_dig_15 rfl ?_
  refine j_V0R okX6_standing lk_X6_151 iX6_dig_16 (by omega) (by repeat (first | assumption | refine wset_ne (by decide) ?_ | exact wset_lt (by (try simp only [List.length_set]); exact wsome (by assumption)))) rfl (m_standing hm h35 hlp hst) rfl (Nat.le_of_ble_eq_true rfl) (Nat.le_of_ble_eq_true rfl) ?_
  refine j_iconst (v := (-1)) iX6_dig_19 (by decide) ?_
  refine j_ixor iX6_dig_20 ?_
  refine j_iandnN iX6_dig_21 ?_
  refine j_iload_n iX6_dig_22 rfl ?_
  refine j_S2R okX6_isIn lk_X6_92 iX6_dig_23 (by omega) (m_isIn _ c (by omega) (by omega)) rfl (Nat.le_of_ble_eq_true rfl) (Nat.le_of_ble_eq_true rfl) ?_
  refine j_if_neB (tgt := 32) iX6_dig_26 (by decide) (fun hno => Bool.noConfusion (hno.symm.trans (show _ = false from hg))) (fun _ => ?_)
  refine j_bipush (v := (-103)) iX6_dig_29 (by decide) ?_
  refine j_iret iX6_dig_31 rfl (by first | rfl | exact nar_bI _ | exact nar_bP) (⟨rfl, rfl⟩)
theorem m_dig (hm : w[33]? = some (oM bd R C fr lp lps sn sz wh nc nf nl tl sd ik kb kf kl kn hh)) (h35 : w[35]? = some (nA 4 sts)) (hN : R * C ≤ 12) (hfr : fr < 4096) (hlp : lp ≤ 4) (hst : ∀ i, sts i < 12) (c : Nat) (hc : c < R * C) (hg : (emptyF fr lp sts).testBit c = true) : JR 2 mX6_dig [.ref 33, .int (nI c)] w (.int (nI (pop (ad fr (2 ^ c))))) (w.set 33 (oM bd R C (ad fr (2 ^ c)) lp lps sn sz wh nc nf nl tl sd ik kb kf kl kn hh)) := by
  have he := ad_b (b := stdF lp sts) hfr
  have he2 := ad_b (b := 2 ^ c) hfr
  rw [empty_ad] at hg
  refine j_start (ls := [.ref 33, .int (nI c)]) rfl ?_
  refine j_aload_n iX6_dig_0 rfl ?_
  refine j_iload_n iX6_dig_1 rfl ?_
  refine j_V1R okX6_isCell lk_X6_179 iX6_dig_2 (by omega) (by repeat (first | assumption | refine wset_ne (by decide) ?_ | exact wset_lt (by (try simp only [List.length_set]); exact wsome (by assumption)))) rfl (m_isCell hm hN _) rfl (Nat.le_of_ble_eq_true rfl) (Nat.le_of_ble_eq_true rfl) ?_
  refine j_if_neB (tgt := 11) iX6_dig_5 (by decide) (fun _ => ?_) (fun hno => Bool.noConfusion (hno.symm.trans (show _ = true from by rw [inR_nI (by omega) (by omega)]; exact decide_eq_true hc)))
  refine j_aload_n iX6_dig_11 rfl ?_
  refine j_get fk_X6_116 iX6_dig_12 (by repeat (first | assumption | refine wset_ne (by decide) ?_ | exact wset_lt (by (try simp only [List.length_set]); exact wsome (by assumption)))) (by rfl) ?_
  refine j_aload_n iX6_dig_15 rfl ?_
  refine j_V0R okX6_standing lk_X6_151 iX6_dig_16 (by omega) (by repeat (first | assumption | refine wset_ne (by decide) ?_ | exact wset_lt (by (try simp only [List.length_set]); exact wsome (by assumption)))) rfl (m_standing hm h35 hlp hst) rfl (Nat.le_of_ble_eq_true rfl) (Nat.le_of_ble_eq_true rfl) ?_
  refine j_iconst (v := (-1)) iX6_dig_19 (by decide) ?_
  refine j_ixor iX6_dig_20 ?_
  refine j_iandnN iX6_dig_21 ?_
  refine j_iload_n iX6_dig_22 rfl ?_
  refine j_S2R okX6_isIn lk_X6_92 iX6_dig_23 (by omega) (m_isIn _ c (by omega) (by omega)) rfl (Nat.le_of_ble_eq_true rfl) (Nat.le_of_ble_eq_true rfl) ?_
  refine j_if_neB (tgt := 32) iX6_dig_26 (by decide) (fun _ => ?_) (fun hno => Bool.noConfusion (hno.symm.trans (show _ = true from hg)))
  refine j_aload_n iX6_dig_32 rfl ?_
  refine j_dup iX6_dig_33 rfl ?_
  refine j_get fk_X6_116 iX6_dig_34 (by repeat (first | assumption | refine wset_ne (by decide) ?_ | exact wset_lt (by (try simp only [List.length_set]); exact wsome (by assumption)))) (by rfl) ?_
  refine j_iconst (v := nI 1) iX6_dig_37 (by decide) ?_
  refine j_iload_n iX6_dig_38 rfl ?_
  refine j_ishlN iX6_dig_39 (by omega) ?_
  refine j_iconst (v := (-1)) iX6_dig_40 (by decide) ?_
  refine j_ixor iX6_dig_41 ?_
  refine j_iandnN iX6_dig_42 ?_
  refine j_put fk_X6_116 iX6_dig_43 (by repeat (first | assumption | refine wset_ne (by decide) ?_ | exact wset_lt (by (try simp only [List.length_set]); exact wsome (by assumption)))) (by intro; rfl) (by intro; rfl) (Nat.le_of_ble_eq_true rfl) ?_
  dsimp only [List.set]
  refine j_aload_n iX6_dig_46 rfl ?_
  refine j_get fk_X6_116 iX6_dig_47 (by repeat (first | assumption | refine wset_ne (by decide) ?_ | exact wset_lt (by (try simp only [List.length_set]); exact wsome (by assumption)))) (by rfl) ?_
  refine j_S1R okX6_size lk_X6_185 iX6_dig_50 (by omega) (m_size _ (by omega)) rfl (Nat.le_of_ble_eq_true rfl) (Nat.le_of_ble_eq_true rfl) ?_
  refine j_iret iX6_dig_53 rfl (by first | rfl | exact nar_bI _ | exact nar_bP) (⟨rfl, rfl⟩)
theorem m_fill_u (hm : w[33]? = some (oM bd R C fr lp lps sn sz wh nc nf nl tl sd ik kb kf kl kn hh)) (hN : R * C ≤ 12) (x : Int32) (hx : inR x (R * C) = false) : JR 2 mX6_fill [.ref 33, .int x] w (.int (-101)) w := by
  refine j_start (ls := [.ref 33, .int x]) rfl ?_
  refine j_aload_n iX6_fill_0 rfl ?_
  refine j_iload_n iX6_fill_1 rfl ?_
  refine j_V1R okX6_isCell lk_X6_179 iX6_fill_2 (by omega) (by repeat (first | assumption | refine wset_ne (by decide) ?_ | exact wset_lt (by (try simp only [List.length_set]); exact wsome (by assumption)))) rfl (m_isCell hm hN x) rfl (Nat.le_of_ble_eq_true rfl) (Nat.le_of_ble_eq_true rfl) ?_
  refine j_if_neB (tgt := 11) iX6_fill_5 (by decide) (fun hno => Bool.noConfusion (hno.symm.trans (show _ = false from hx))) (fun _ => ?_)
  refine j_bipush (v := (-101)) iX6_fill_8 (by decide) ?_
  refine j_iret iX6_fill_10 rfl (by first | rfl | exact nar_bI _ | exact nar_bP) (⟨rfl, rfl⟩)
theorem m_fill_s (hm : w[33]? = some (oM bd R C fr lp lps sn sz wh nc nf nl tl sd ik kb kf kl kn hh)) (hN : R * C ≤ 12) (hfr : fr < 4096) (c : Nat) (hc : c < R * C) (hg : fr.testBit c = true) : JR 2 mX6_fill [.ref 33, .int (nI c)] w (.int (-103)) w := by
  refine j_start (ls := [.ref 33, .int (nI c)]) rfl ?_
  refine j_aload_n iX6_fill_0 rfl ?_
  refine j_iload_n iX6_fill_1 rfl ?_
  refine j_V1R okX6_isCell lk_X6_179 iX6_fill_2 (by omega) (by repeat (first | assumption | refine wset_ne (by decide) ?_ | exact wset_lt (by (try simp only [List.length_set]); exact wsome (by assumption)))) rfl (m_isCell hm hN _) rfl (Nat.le_of_ble_eq_true rfl) (Nat.le_of_ble_eq_true rfl) ?_
  refine j_if_neB (tgt := 11) iX6_fill_5 (by decide) (fun _ => ?_) (fun hno => Bool.noConfusion (hno.symm.trans (show _ = true from by rw [inR_nI (by omega) (by omega)]; exact decide_eq_true hc)))
  refine j_aload_n iX6_fill_11 rfl ?_
  refine j_get fk_X6_116 iX6_fill_12 (by repeat (first | assumption | refine wset_ne (by decide) ?_ | exact wset_lt (by (try simp only [List.length_set]); exact wsome (by assumption)))) (by rfl) ?_
  refine j_iload_n iX6_fill_15 rfl ?_
  refine j_S2R okX6_isIn lk_X6_92 iX6_fill_16 (by omega) (m_isIn _ c (by omega) (by omega)) rfl (Nat.le_of_ble_eq_true rfl) (Nat.le_of_ble_eq_true rfl) ?_
  refine j_if_eqB (tgt := 25) iX6_fill_19 (by decide) (fun hno => Bool.noConfusion (hno.symm.trans (show _ = true from hg))) (fun _ => ?_)
  refine j_bipush (v := (-103)) iX6_fill_22 (by decide) ?_
  refine j_iret iX6_fill_24 rfl (by first | rfl | exact nar_bI _ | exact nar_bP) (⟨rfl, rfl⟩)
theorem m_fill (hm : w[33]? = some (oM bd R C fr lp lps sn sz wh nc nf nl tl sd ik kb kf kl kn hh)) (hN : R * C ≤ 12) (hfr : fr < 4096) (c : Nat) (hc : c < R * C) (hg : fr.testBit c = false) : JR 2 mX6_fill [.ref 33, .int (nI c)] w (.int (nI (pop (fr ||| 2 ^ c)))) (w.set 33 (oM bd R C (fr ||| 2 ^ c) lp lps sn sz wh nc nf nl tl sd ik kb kf kl kn hh)) := by
  have he := or_b hfr (pw_b (i := c) (by omega))
  refine j_start (ls := [.ref 33, .int (nI c)]) rfl ?_
  refine j_aload_n iX6_fill_0 rfl ?_
  refine j_iload_n iX6_fill_1 rfl ?_
  refine j_V1R okX6_isCell lk_X6_179 iX6_fill_2 (by omega) (by repeat (first | assumption | refine wset_ne (by decide) ?_ | exact wset_lt (by (try simp only [List.length_set]); exact wsome (by assumption)))) rfl (m_isCell hm hN _) rfl (Nat.le_of_ble_eq_true rfl) (Nat.le_of_ble_eq_true rfl) ?_
  refine j_if_neB (tgt := 11) iX6_fill_5 (by decide) (fun _ => ?_) (fun hno => Bool.noConfusion (hno.symm.trans (show _ = true from by rw [inR_nI (by omega) (by omega)]; exact decide_eq_true hc)))
  refine j_aload_n iX6_fill_11 rfl ?_
  refine j_get fk_X6_116 iX6_fill_12 (by repeat (first | assumption | refine wset_ne (by decide) ?_ | exact wset_lt (by (try simp only [List.length_set]); exact wsome (by assumption)))) (by rfl) ?_
  refine j_iload_n iX6_fill_15 rfl ?_
  refine j_S2R okX6_isIn lk_X6_92 iX6_fill_16 (by omega) (m_isIn _ c (by omega) (by omega)) rfl (Nat.le_of_ble_eq_true rfl) (Nat.le_of_ble_eq_true rfl) ?_
  refine j_if_eqB (tgt := 25) iX6_fill_19 (by decide) (fun _ => ?_) (fun hno => Bool.noConfusion (hno.symm.trans (show _ = false from hg)))
  refine j_aload_n iX6_fill_25 rfl ?_
  refine j_dup iX6_fill_26 rfl ?_
  refine j_get fk_X6_116 iX6_fill_27 (by repeat (first | assumption | refine wset_ne (by decide) ?_ | exact wset_lt (by (try simp only [List.length_set]); exact wsome (by assumption)))) (by rfl) ?_
  refine j_iconst (v := nI 1) iX6_fill_30 (by decide) ?_
  refine j_iload_n iX6_fill_31 rfl ?_
  refine j_ishlN iX6_fill_32 (by omega) ?_
  refine j_iorN iX6_fill_33  ?_
  refine j_put fk_X6_116 iX6_fill_34 (by repeat (first | assumption | refine wset_ne (by decide) ?_ | exact wset_lt (by (try simp only [List.length_set]); exact wsome (by assumption)))) (by intro; rfl) (by intro; rfl) (Nat.le_of_ble_eq_true rfl) ?_
  dsimp only [List.set]
  refine j_aload_n iX6_fill_37 rfl ?_
  refine j_get fk_X6_116 iX6_fill_38 (by repeat (first | assumption | refine wset_ne (by decide) ?_ | exact wset_lt (by (try simp only [List.length_set]); exact wsome (by assumption)))) (by rfl) ?_
  refine j_S1R okX6_size lk_X6_185 iX6_fill_41 (by omega) (m_size _ (by omega)) rfl (Nat.le_of_ble_eq_true rfl) (Nat.le_of_ble_eq_true rfl) ?_
  refine j_iret iX6_fill_44 rfl (by first | rfl | exact nar_bI _ | exact nar_bP) (⟨rfl, rfl⟩)
theorem m_be_u (hm : w[33]? = some (oM bd R C fr lp lps sn sz wh nc nf nl tl sd ik kb kf kl kn hh)) (hlp : lp ≤ 4) (x y : Int32) (hx : inR x lp = false) : JR 2 mX6_be [.ref 33, .int x, .int y] w (.int (-101)) w := by
  refine j_start (ls := [.ref 33, .int x, .int y, .null]) rfl ?_
  refine j_aload_n iX6_be_0 rfl ?_
  refine j_iload_n iX6_be_1 rfl ?_
  refine j_V1R okX6_isLeaper lk_X6_166 iX6_be_2 (by omega) (by repeat (first | assumption | refine wset_ne (by decide) ?_ | exact wset_lt (by (try simp only [List.length_set]); exact wsome (by assumption)))) rfl (m_isLeaper hm hlp x) rfl (Nat.le_of_ble_eq_true rfl) (Nat.le_of_ble_eq_true rfl) ?_
  refine j_if_neB (tgt := 11) iX6_be_5 (by decide) (fun hno => Bool.noConfusion (hno.symm.trans (show _ = false from hx))) (fun _ => ?_)
  refine j_bipush (v := (-101)) iX6_be_8 (by decide) ?_
  refine j_iret iX6_be_10 rfl (by first | rfl | exact nar_bI _ | exact nar_bP) (⟨rfl, rfl⟩)
theorem m_be_o (hm : w[33]? = some (oM bd R C fr lp lps sn sz wh nc nf nl tl sd ik kb kf kl kn hh)) (hlp : lp ≤ 4) (x y : Int32) (hx : inR x lp = true) (hy : inR y 5 = false) : JR 2 mX6_be [.ref 33, .int x, .int y] w (.int (-102)) w := by
  refine j_start (ls := [.ref 33, .int x, .int y, .null]) rfl ?_
  refine j_aload_n iX6_be_0 rfl ?_
  refine j_iload_n iX6_be_1 rfl ?_
  refine j_V1R okX6_isLeaper lk_X6_166 iX6_be_2 (by omega) (by repeat (first | assumption | refine wset_ne (by decide) ?_ | exact wset_lt (by (try simp only [List.length_set]); exact wsome (by assumption)))) rfl (m_isLeaper hm hlp x) rfl (Nat.le_of_ble_eq_true rfl) (Nat.le_of_ble_eq_true rfl) ?_
  refine j_if_neB (tgt := 11) iX6_be_5 (by decide) (fun _ => ?_) (fun hno => Bool.noConfusion (hno.symm.trans (show _ = true from hx)))
  refine j_iload_n iX6_be_11 rfl ?_
  refine j_iconst (v := nI 0) iX6_be_12 (by decide) ?_
  refine j_iconst (v := nI 4) iX6_be_13 (by decide) ?_
  refine j_S3R okX6_within lk_X6_68 iX6_be_14 (by omega) (m_within _ _ _) rfl (Nat.le_of_ble_eq_true rfl) (Nat.le_of_ble_eq_true rfl) ?_
  refine j_if_neB (tgt := 23) iX6_be_17 (by decide) (fun hno => Bool.noConfusion (hno.symm.trans (show _ = false from by rw [wi_R (by decide)]; exact hy))) (fun _ => ?_)
  refine j_bipush (v := (-102)) iX6_be_20 (by decide) ?_
  refine j_iret iX6_be_22 rfl (by first | rfl | exact nar_bI _ | exact nar_bP) (⟨rfl, rfl⟩)
theorem m_be (hm : w[33]? = some (oM bd R C fr lp lps sn sz wh nc nf nl tl sd ik kb kf kl kn hh)) (h34 : w[34]? = some (nA 4 ks)) (hlp : lp ≤ 4) (j k : Nat) (hj : j < lp) (hk : k < 5) : JR 2 mX6_be [.ref 33, .int (nI j), .int (nI k)] w (.int (nI (ks j))) (w.set 34 (nA 4 (un ks j k))) := by
  refine j_start (ls := [.ref 33, .int (nI j), .int (nI k), .null]) rfl ?_
  refine j_aload_n iX6_be_0 rfl ?_
  refine j_iload_n iX6_be_1 rfl ?_
  refine j_V1R okX6_isLeaper lk_X6_166 iX6_be_2 (by omega) (by repeat (first | assumption | refine wset_ne (by decide) ?_ | exact wset_lt (by (try simp only [List.length_set]); exact wsome (by assumption)))) rfl (m_isLeaper hm hlp _) rfl (Nat.le_of_ble_eq_true rfl) (Nat.le_of_ble_eq_true rfl) ?_
  refine j_if_neB (tgt := 11) iX6_be_5 (by decide) (fun _ => ?_) (fun hno => Bool.noConfusion (hno.symm.trans (show _ = true from by rw [inR_nI (by omega) (by omega)]; exact decide_eq_true hj)))
  refine j_iload_n iX6_be_11 rfl ?_
  refine j_iconst (v := nI 0) iX6_be_12 (by decide) ?_
  refine j_iconst (v := nI 4) iX6_be_13 (by decide) ?_
  refine j_S3R okX6_within lk_X6_68 iX6_be_14 (by omega) (m_within _ _ _) rfl (Nat.le_of_ble_eq_true rfl) (Nat.le_of_ble_eq_true rfl) ?_
  refine j_if_neB (tgt := 23) iX6_be_17 (by decide) (fun _ => ?_) (fun hno => Bool.noConfusion (hno.symm.trans (show _ = true from by rw [wi_R (by decide), inR_nI (by omega) (by decide)]; exact decide_eq_true hk)))
  refine j_aload_n iX6_be_23 rfl ?_
  refine j_get fk_X6_7 iX6_be_24 (by repeat (first | assumption | refine wset_ne (by decide) ?_ | exact wset_lt (by (try simp only [List.length_set]); exact wsome (by assumption)))) (by rfl) ?_
  refine j_iload_n iX6_be_27 rfl ?_
  refine j_ialdN iX6_be_28 (by repeat (first | assumption | refine wset_ne (by decide) ?_ | exact wset_lt (by (try simp only [List.length_set]); exact wsome (by assumption)))) (by omega) ?_
  refine j_istore_n iX6_be_29 (by decide) rfl ?_
  dsimp only [List.set]
  refine j_aload_n iX6_be_30 rfl ?_
  refine j_get fk_X6_7 iX6_be_31 (by repeat (first | assumption | refine wset_ne (by decide) ?_ | exact wset_lt (by (try simp only [List.length_set]); exact wsome (by assumption)))) (by rfl) ?_
  refine j_iload_n iX6_be_34 rfl ?_
  refine j_iload_n iX6_be_35 rfl ?_
  refine j_iastN iX6_be_36 (by repeat (first | assumption | refine wset_ne (by decide) ?_ | exact wset_lt (by (try simp only [List.length_set]); exact wsome (by assumption)))) (by omega) ?_
  refine j_iload_n iX6_be_37 rfl ?_
  refine j_iret iX6_be_38 rfl (by first | rfl | exact nar_bI _ | exact nar_bP) (⟨rfl, rfl⟩)
theorem m_see_u (hm : w[33]? = some (oM bd R C fr lp lps sn sz wh nc nf nl tl sd ik kb kf kl kn hh)) (hlp : lp ≤ 4) (x y z : Int32) (b : Bool) (hx : inR x lp = false) : JR 2 mX6_see [.ref 33, .int x, .int y, .int z, .int (bI b)] w (.int (-101)) w := by
  refine j_start (ls := [.ref 33, .int x, .int y, .int z, .int (bI b)]) rfl ?_
  refine j_aload_n iX6_see_0 rfl ?_
  refine j_iload_n iX6_see_1 rfl ?_
  refine j_V1R okX6_isLeaper lk_X6_166 iX6_see_2 (by omega) (by repeat (first | assumption | refine wset_ne (by decide) ?_ | exact wset_lt (by (try simp only [List.length_set]); exact wsome (by assumption)))) rfl (m_isLeaper hm hlp x) rfl (Nat.le_of_ble_eq_true rfl) (Nat.le_of_ble_eq_true rfl) ?_
  refine j_if_neB (tgt := 11) iX6_see_5 (by decide) (fun hno => Bool.noConfusion (hno.symm.trans (show _ = false from hx))) (fun _ => ?_)
  refine j_bipush (v := (-101)) iX6_see_8 (by decide) ?_
  refine j_iret iX6_see_10 rfl (by first | rfl | exact nar_bI _ | exact nar_bP) (⟨rfl, rfl⟩)
theorem m_see_o (hm : w[33]? = some (oM bd R C fr lp lps sn sz wh nc nf nl tl sd ik kb kf kl kn hh)) (hlp : lp ≤ 4) (x y z : Int32) (b : Bool) (hx : inR x lp = true) (hy : inR y 4 = false ∨ inR z 4 = false) : JR 2 mX6_see [.ref 33, .int x, .int y, .int z, .int (bI b)] w (.int (-102)) w := by
  refine j_start (ls := [.ref 33, .int x, .int y, .int z, .int (bI b)]) rfl ?_
  refine j_aload_n iX6_see_0 rfl ?_
  refine j_iload_n iX6_see_1 rfl ?_
  refine j_V1R okX6_isLeaper lk_X6_166 iX6_see_2 (by omega) (by repeat (first | assumption | refine wset_ne (by decide) ?_ | exact wset_lt (by (try simp only [List.length_set]); exact wsome (by assumption)))) rfl (m_isLeaper hm hlp x) rfl (Nat.le_of_ble_eq_true rfl) (Nat.le_of_ble_eq_true rfl) ?_
  refine j_if_neB (tgt := 11) iX6_see_5 (by decide) (fun _ => ?_) (fun hno => Bool.noConfusion (hno.symm.trans (show _ = true from hx)))
  refine j_iload_n iX6_see_11 rfl ?_
  refine j_iconst (v := nI 0) iX6_see_12 (by decide) ?_
  refine j_iconst (v := nI 3) iX6_see_13 (by decide) ?_
  refine j_S3R okX6_within lk_X6_68 iX6_see_14 (by omega) (m_within _ _ _) rfl (Nat.le_of_ble_eq_true rfl) (Nat.le_of_ble_eq_true rfl) ?_
  refine j_if_eqB (tgt := 29) iX6_see_17 (by decide) (fun h17 => ?_) (fun h17 => ?_)
  · refine j_bipush (v := (-102)) iX6_see_29 (by decide) ?_
    refine j_iret iX6_see_31 rfl (by first | rfl | exact nar_bI _ | exact nar_bP) (⟨rfl, rfl⟩)
  · refine j_iload_n iX6_see_20 rfl ?_
    refine j_iconst (v := nI 0) iX6_see_21 (by decide) ?_
    refine j_iconst (v := nI 3) iX6_see_22 (by decide) ?_
    refine j_S3R okX6_within lk_X6_68 iX6_see_23 (by omega) (m_within _ _ _) rfl (Nat.le_of_ble_eq_true rfl) (Nat.le_of_ble_eq_true rfl) ?_
    refine j_if_neB (tgt := 32) iX6_see_26 (by decide) (fun hno => Bool.noConfusion (hno.symm.trans (show _ = false from by rw [wi_R (by decide)] at h17 ⊢; rcases hy with q | q; (rw [h17] at q; cases q); exact q))) (fun _ => ?_)
    refine j_bipush (v := (-102)) iX6_see_29 (by decide) ?_
    refine j_iret iX6_see_31 rfl (by first | rfl | exact nar_bI _ | exact nar_bP) (⟨rfl, rfl⟩)
theorem m_see_f (hm : w[33]? = some (oM bd R C fr lp lps (6) sz wh nc nf nl tl sd ik kb kf kl kn hh)) (hlp : lp ≤ 4) (x : Int32) (y z : Nat) (b : Bool) (hx : inR x lp = true) (hy : y < 4) (hz : z < 4) : JR 2 mX6_see [.ref 33, .int x, .int (nI y), .int (nI z), .int (bI b)] w (.int (-104)) w := by
  refine j_start (ls := [.ref 33, .int x, .int (nI y), .int (nI z), .int (bI b)]) rfl ?_
  refine j_aload_n iX6_see_0 rfl ?_
  refine j_iload_n iX6_see_1 rfl ?_
  refine j_V1R okX6_isLeaper lk_X6_166 iX6_see_2 (by omega) (by repeat (first | assumption | refine wset_ne (by decide) ?_ | exact wset_lt (by (try simp only [List.length_set]); exact wsome (by assumption)))) rfl (m_isLeaper hm hlp x) rfl (Nat.le_of_ble_eq_true rfl) (Nat.le_of_ble_eq_true rfl) ?_
  refine j_if_neB (tgt := 11) iX6_see_5 (by decide) (fun _ => ?_) (fun hno => Bool.noConfusion (hno.symm.trans (show _ = true from hx)))
  refine j_iload_n iX6_see_11 rfl ?_
  refine j_iconst (v := nI 0) iX6_see_12 (by decide) ?_
  refine j_iconst (v := nI 3) iX6_see_13 (by decide) ?_
  refine j_S3R okX6_within lk_X6_68 iX6_see_14 (by omega) (m_within _ _ _) rfl (Nat.le_of_ble_eq_true rfl) (Nat.le_of_ble_eq_true rfl) ?_
  refine j_if_eqB (tgt := 29) iX6_see_17 (by decide) (fun hno => Bool.noConfusion (hno.symm.trans (show _ = true from by rw [wi_R (by decide), inR_nI (by omega) (by decide)]; exact decide_eq_true hy))) (fun _ => ?_)
  refine j_iload_n iX6_see_20 rfl ?_
  refine j_iconst (v := nI 0) iX6_see_21 (by decide) ?_
  refine j_iconst (v := nI 3) iX6_see_22 (by decide) ?_
  refine j_S3R okX6_within lk_X6_68 iX6_see_23 (by omega) (m_within _ _ _) rfl (Nat.le_of_ble_eq_true rfl) (Nat.le_of_ble_eq_true rfl) ?_
  refine j_if_neB (tgt := 32) iX6_see_26 (by decide) (fun _ => ?_) (fun hno => Bool.noConfusion (hno.symm.trans (show _ = true from by rw [wi_R (by decide), inR_nI (by omega) (by decide)]; exact decide_eq_true hz)))
  refine j_aload_n iX6_see_32 rfl ?_
  refine j_get fk_X6_128 iX6_see_33 (by repeat (first | assumption | refine wset_ne (by decide) ?_ | exact wset_lt (by (try simp only [List.length_set]); exact wsome (by assumption)))) (by rfl) ?_
  refine j_bipush (v := nI 6) iX6_see_36 (by decide) ?_
  refine j_icmp_neN (tgt := 44) iX6_see_38 (by decide) (by omega) (by omega) (fun hno => by exfalso; omega) (fun _ => ?_)
  refine j_bipush (v := (-104)) iX6_see_41 (by decide) ?_
  refine j_iret iX6_see_43 rfl (by first | rfl | exact nar_bI _ | exact nar_bP) (⟨rfl, rfl⟩)
theorem m_see (hm : w[33]? = some (oM bd R C fr lp lps sn sz wh nc nf nl tl sd ik kb kf kl kn hh)) (h36 : w[36]? = some (nA 6 sof)) (h37 : w[37]? = some (nA 6 rr)) (h38 : w[38]? = some (nA 6 cc)) (h39 : w[39]? = some (nA 6 cn)) (hlp : lp ≤ 4) (j y z : Nat) (b : Bool) (hj : j < lp) (hy : y < 4) (hz : z < 4) (hsn : sn < 6) : JR 2 mX6_see [.ref 33, .int (nI j), .int (nI y), .int (nI z), .int (bI b)] w (.int (nI (sn + 1))) (((((w.set 36 (nA 6 (un sof sn j))).set 37 (nA 6 (un rr sn y))).set 38 (nA 6 (un cc sn z))).set 39 (nA 6 (un cn sn b.toNat))).set 33 (oM bd R C fr lp lps (sn + 1) sz wh nc nf nl tl sd ik kb kf kl kn hh)) := by
  refine j_start (ls := [.ref 33, .int (nI j), .int (nI y), .int (nI z), .int (bI b)]) rfl ?_
  refine j_aload_n iX6_see_0 rfl ?_
  refine j_iload_n iX6_see_1 rfl ?_
  refine j_V1R okX6_isLeaper lk_X6_166 iX6_see_2 (by omega) (by repeat (first | assumption | refine wset_ne (by decide) ?_ | exact wset_lt (by (try simp only [List.length_set]); exact wsome (by assumption)))) rfl (m_isLeaper hm hlp _) rfl (Nat.le_of_ble_eq_true rfl) (Nat.le_of_ble_eq_true rfl) ?_
  refine j_if_neB (tgt := 11) iX6_see_5 (by decide) (fun _ => ?_) (fun hno => Bool.noConfusion (hno.symm.trans (show _ = true from by rw [inR_nI (by omega) (by omega)]; exact decide_eq_true hj)))
  refine j_iload_n iX6_see_11 rfl ?_
  refine j_iconst (v := nI 0) iX6_see_12 (by decide) ?_
  refine j_iconst (v := nI 3) iX6_see_13 (by decide) ?_
  refine j_S3R okX6_within lk_X6_68 iX6_see_14 (by omega) (m_within _ _ _) rfl (Nat.le_of_ble_eq_true rfl) (Nat.le_of_ble_eq_true rfl) ?_
  refine j_if_eqB (tgt := 29) iX6_see_17 (by decide) (fun hno => Bool.noConfusion (hno.symm.trans (show _ = true from by rw [wi_R (by decide), inR_nI (by omega) (by decide)]; exact decide_eq_true hy))) (fun _ => ?_)
  refine j_iload_n iX6_see_20 rfl ?_
  refine j_iconst (v := nI 0) iX6_see_21 (by decide) ?_
  refine j_iconst (v := nI 3) iX6_see_22 (by decide) ?_
  refine j_S3R okX6_within lk_X6_68 iX6_see_23 (by omega) (m_within _ _ _) rfl (Nat.le_of_ble_eq_true rfl) (Nat.le_of_ble_eq_true rfl) ?_
  refine j_if_neB (tgt := 32) iX6_see_26 (by decide) (fun _ => ?_) (fun hno => Bool.noConfusion (hno.symm.trans (show _ = true from by rw [wi_R (by decide), inR_nI (by omega) (by decide)]; exact decide_eq_true hz)))
  refine j_aload_n iX6_see_32 rfl ?_
  refine j_get fk_X6_128 iX6_see_33 (by repeat (first | assumption | refine wset_ne (by decide) ?_ | exact wset_lt (by (try simp only [List.length_set]); exact wsome (by assumption)))) (by rfl) ?_
  refine j_bipush (v := nI 6) iX6_see_36 (by decide) ?_
  refine j_icmp_neN (tgt := 44) iX6_see_38 (by decide) (by omega) (by omega) (fun _ => ?_) (fun hno => by exfalso; omega)
  refine j_aload_n iX6_see_44 rfl ?_
  refine j_get fk_X6_16 iX6_see_45 (by repeat (first | assumption | refine wset_ne (by decide) ?_ | exact wset_lt (by (try simp only [List.length_set]); exact wsome (by assumption)))) (by rfl) ?_
  refine j_aload_n iX6_see_48 rfl ?_
  refine j_get fk_X6_128 iX6_see_49 (by repeat (first | assumption | refine wset_ne (by decide) ?_ | exact wset_lt (by (try simp only [List.length_set]); exact wsome (by assumption)))) (by rfl) ?_
  refine j_iload_n iX6_see_52 rfl ?_
  refine j_iastN iX6_see_53 (by repeat (first | assumption | refine wset_ne (by decide) ?_ | exact wset_lt (by (try simp only [List.length_set]); exact wsome (by assumption)))) (by omega) ?_
  refine j_aload_n iX6_see_54 rfl ?_
  refine j_get fk_X6_19 iX6_see_55 (by repeat (first | assumption | refine wset_ne (by decide) ?_ | exact wset_lt (by (try simp only [List.length_set]); exact wsome (by assumption)))) (by rfl) ?_
  refine j_aload_n iX6_see_58 rfl ?_
  refine j_get fk_X6_128 iX6_see_59 (by repeat (first | assumption | refine wset_ne (by decide) ?_ | exact wset_lt (by (try simp only [List.length_set]); exact wsome (by assumption)))) (by rfl) ?_
  refine j_iload_n iX6_see_62 rfl ?_
  refine j_iastN iX6_see_63 (by repeat (first | assumption | refine wset_ne (by decide) ?_ | exact wset_lt (by (try simp only [List.length_set]); exact wsome (by assumption)))) (by omega) ?_
  refine j_aload_n iX6_see_64 rfl ?_
  refine j_get fk_X6_22 iX6_see_65 (by repeat (first | assumption | refine wset_ne (by decide) ?_ | exact wset_lt (by (try simp only [List.length_set]); exact wsome (by assumption)))) (by rfl) ?_
  refine j_aload_n iX6_see_68 rfl ?_
  refine j_get fk_X6_128 iX6_see_69 (by repeat (first | assumption | refine wset_ne (by decide) ?_ | exact wset_lt (by (try simp only [List.length_set]); exact wsome (by assumption)))) (by rfl) ?_
  refine j_iload_n iX6_see_72 rfl ?_
  refine j_iastN iX6_see_73 (by repeat (first | assumption | refine wset_ne (by decide) ?_ | exact wset_lt (by (try simp only [List.length_set]); exact wsome (by assumption)))) (by omega) ?_
  refine j_aload_n iX6_see_74 rfl ?_
  refine j_get fk_X6_25 iX6_see_75 (by repeat (first | assumption | refine wset_ne (by decide) ?_ | exact wset_lt (by (try simp only [List.length_set]); exact wsome (by assumption)))) (by rfl) ?_
  refine j_aload_n iX6_see_78 rfl ?_
  refine j_get fk_X6_128 iX6_see_79 (by repeat (first | assumption | refine wset_ne (by decide) ?_ | exact wset_lt (by (try simp only [List.length_set]); exact wsome (by assumption)))) (by rfl) ?_
  refine j_iload iX6_see_82 rfl ?_
  refine j_if_eqB (tgt := 91) iX6_see_84 (by decide) (fun h84 => ?_) (fun h84 => ?_)
  · refine j_iconst (v := nI 0) iX6_see_91 (by decide) ?_
    refine j_iastN iX6_see_92 (by repeat (first | assumption | refine wset_ne (by decide) ?_ | exact wset_lt (by (try simp only [List.length_set]); exact wsome (by assumption)))) (by omega) ?_
    refine j_aload_n iX6_see_93 rfl ?_
    refine j_dup iX6_see_94 rfl ?_
    refine j_get fk_X6_128 iX6_see_95 (by repeat (first | assumption | refine wset_ne (by decide) ?_ | exact wset_lt (by (try simp only [List.length_set]); exact wsome (by assumption)))) (by rfl) ?_
    refine j_iconst (v := nI 1) iX6_see_98 (by decide) ?_
    refine j_iaddN iX6_see_99  ?_
    refine j_put fk_X6_128 iX6_see_100 (by repeat (first | assumption | refine wset_ne (by decide) ?_ | exact wset_lt (by (try simp only [List.length_set]); exact wsome (by assumption)))) (by intro; rfl) (by intro; rfl) (Nat.le_of_ble_eq_true rfl) ?_
    dsimp only [List.set]
    refine j_aload_n iX6_see_103 rfl ?_
    refine j_get fk_X6_128 iX6_see_104 (by repeat (first | assumption | refine wset_ne (by decide) ?_ | exact wset_lt (by (try simp only [List.length_set]); exact wsome (by assumption)))) (by rfl) ?_
    refine j_iret iX6_see_107 rfl (by first | rfl | exact nar_bI _ | exact nar_bP) (⟨rfl, by rw [h84]; rfl⟩)
  · refine j_iconst (v := nI 1) iX6_see_87 (by decide) ?_
    refine j_goto (tgt := 92) iX6_see_88 (by decide) ?_
    refine j_iastN iX6_see_92 (by repeat (first | assumption | refine wset_ne (by decide) ?_ | exact wset_lt (by (try simp only [List.length_set]); exact wsome (by assumption)))) (by omega) ?_
    refine j_aload_n iX6_see_93 rfl ?_
    refine j_dup iX6_see_94 rfl ?_
    refine j_get fk_X6_128 iX6_see_95 (by repeat (first | assumption | refine wset_ne (by decide) ?_ | exact wset_lt (by (try simp only [List.length_set]); exact wsome (by assumption)))) (by rfl) ?_
    refine j_iconst (v := nI 1) iX6_see_98 (by decide) ?_
    refine j_iaddN iX6_see_99  ?_
    refine j_put fk_X6_128 iX6_see_100 (by repeat (first | assumption | refine wset_ne (by decide) ?_ | exact wset_lt (by (try simp only [List.length_set]); exact wsome (by assumption)))) (by intro; rfl) (by intro; rfl) (Nat.le_of_ble_eq_true rfl) ?_
    dsimp only [List.set]
    refine j_aload_n iX6_see_103 rfl ?_
    refine j_get fk_X6_128 iX6_see_104 (by repeat (first | assumption | refine wset_ne (by decide) ?_ | exact wset_lt (by (try simp only [List.length_set]); exact wsome (by assumption)))) (by rfl) ?_
    refine j_iret iX6_see_107 rfl (by first | rfl | exact nar_bI _ | exact nar_bP) (⟨rfl, by rw [h84]; rfl⟩)
theorem m_forget (hm : w[33]? = some (oM bd R C fr lp lps sn sz wh nc nf nl tl sd ik kb kf kl kn hh)) : JR 0 mX6_forget [.ref 33] w (.int (nI sn)) (w.set 33 (oM bd R C fr lp lps (0) sz wh nc nf nl tl sd ik kb kf kl kn hh)) := by
  refine j_start (ls := [.ref 33, .null]) rfl ?_
  refine j_aload_n iX6_forget_0 rfl ?_
  refine j_get fk_X6_128 iX6_forget_1 (by repeat (first | assumption | refine wset_ne (by decide) ?_ | exact wset_lt (by (try simp only [List.length_set]); exact wsome (by assumption)))) (by rfl) ?_
  refine j_istore_n iX6_forget_4 (by decide) rfl ?_
  dsimp only [List.set]
  refine j_aload_n iX6_forget_5 rfl ?_
  refine j_iconst (v := nI 0) iX6_forget_6 (by decide) ?_
  refine j_put fk_X6_128 iX6_forget_7 (by repeat (first | assumption | refine wset_ne (by decide) ?_ | exact wset_lt (by (try simp only [List.length_set]); exact wsome (by assumption)))) (by intro; rfl) (by intro; rfl) (Nat.le_of_ble_eq_true rfl) ?_
  dsimp only [List.set]
  refine j_iload_n iX6_forget_10 rfl ?_
  refine j_iret iX6_forget_11 rfl (by first | rfl | exact nar_bI _ | exact nar_bP) (⟨rfl, rfl⟩)
theorem m_refused_o (hm : w[33]? = some (oM bd R C fr lp lps sn sz wh nc nf nl tl sd ik kb kf kl kn hh)) (x y : Int32) (hx : inR x 5 = false ∨ inR y 2 = false) : JR 2 mX6_refused [.ref 33, .int x, .int y] w (.int (-102)) w := by
  refine j_start (ls := [.ref 33, .int x, .int y]) rfl ?_
  have hk : ∀ x : Int32, JR 1 mX6_isKind [.int x] w (.int (bI (inR x 5))) w := by
    intro x
    refine j_start (ls := [.int x]) rfl ?_
    refine j_iload_n iX6_isKind_0 rfl ?_
    refine j_iconst (v := nI 0) iX6_isKind_1 (by decide) ?_
    refine j_iconst (v := nI 4) iX6_isKind_2 (by decide) ?_
    refine j_S3R okX6_within lk_X6_68 iX6_isKind_3 (by omega) (m_within _ _ _) rfl (Nat.le_of_ble_eq_true rfl) (Nat.le_of_ble_eq_true rfl) ?_
    refine j_iret iX6_isKind_6 rfl (by first | rfl | exact nar_bI _ | exact nar_bP) (⟨by rw [wi_R (by decide)], rfl⟩)
  refine j_iload_n iX6_refused_0 rfl ?_
  refine j_S1R okX6_isKind lk_X6_219 iX6_refused_1 (by omega) (hk x) rfl (Nat.le_of_ble_eq_true rfl) (Nat.le_of_ble_eq_true rfl) ?_
  refine j_if_eqB (tgt := 16) iX6_refused_4 (by decide) (fun h4 => ?_) (fun h4 => ?_)
  · refine j_bipush (v := (-102)) iX6_refused_16 (by decide) ?_
    refine j_goto (tgt := 34) iX6_refused_18 (by decide) ?_
    refine j_iret iX6_refused_34 rfl (by first | rfl | exact nar_bI _ | exact nar_bP) (⟨rfl, rfl⟩)
  · refine j_iload_n iX6_refused_7 rfl ?_
    refine j_iconst (v := nI 0) iX6_refused_8 (by decide) ?_
    refine j_iconst (v := nI 1) iX6_refused_9 (by decide) ?_
    refine j_S3R okX6_within lk_X6_68 iX6_refused_10 (by omega) (m_within _ _ _) rfl (Nat.le_of_ble_eq_true rfl) (Nat.le_of_ble_eq_true rfl) ?_
    refine j_if_neB (tgt := 21) iX6_refused_13 (by decide) (fun hno => Bool.noConfusion (hno.symm.trans (show _ = false from by rw [wi_R (by decide)]; rcases hx with q | q; (rw [h4] at q; cases q); exact q))) (fun _ => ?_)
    refine j_bipush (v := (-102)) iX6_refused_16 (by decide) ?_
    refine j_goto (tgt := 34) iX6_refused_18 (by decide) ?_
    refine j_iret iX6_refused_34 rfl (by first | rfl | exact nar_bI _ | exact nar_bP) (⟨rfl, rfl⟩)
theorem m_refused (hm : w[33]? = some (oM bd R C fr lp lps sn sz wh nc nf nl tl sd ik kb kf kl kn hh)) (hlp : lp ≤ 4) (x y : Int32) (hx : inR x 5 = true) (hy : inR y 2 = true) : JR 2 mX6_refused [.ref 33, .int x, .int y] w (.int (if lp = 0 then -103 else nI 0)) w := by
  refine j_start (ls := [.ref 33, .int x, .int y]) rfl ?_
  have hk : ∀ x : Int32, JR 1 mX6_isKind [.int x] w (.int (bI (inR x 5))) w := by
    intro x
    refine j_start (ls := [.int x]) rfl ?_
    refine j_iload_n iX6_isKind_0 rfl ?_
    refine j_iconst (v := nI 0) iX6_isKind_1 (by decide) ?_
    refine j_iconst (v := nI 4) iX6_isKind_2 (by decide) ?_
    refine j_S3R okX6_within lk_X6_68 iX6_isKind_3 (by omega) (m_within _ _ _) rfl (Nat.le_of_ble_eq_true rfl) (Nat.le_of_ble_eq_true rfl) ?_
    refine j_iret iX6_isKind_6 rfl (by first | rfl | exact nar_bI _ | exact nar_bP) (⟨by rw [wi_R (by decide)], rfl⟩)
  refine j_iload_n iX6_refused_0 rfl ?_
  refine j_S1R okX6_isKind lk_X6_219 iX6_refused_1 (by omega) (hk x) rfl (Nat.le_of_ble_eq_true rfl) (Nat.le_of_ble_eq_true rfl) ?_
  refine j_if_eqB (tgt := 16) iX6_refused_4 (by decide) (fun hno => Bool.noConfusion (hno.symm.trans (show _ = true from hx))) (fun _ => ?_)
  refine j_iload_n iX6_refused_7 rfl ?_
  refine j_iconst (v := nI 0) iX6_refused_8 (by decide) ?_
  refine j_iconst (v := nI 1) iX6_refused_9 (by decide) ?_
  refine j_S3R okX6_within lk_X6_68 iX6_refused_10 (by omega) (m_within _ _ _) rfl (Nat.le_of_ble_eq_true rfl) (Nat.le_of_ble_eq_true rfl) ?_
  refine j_if_neB (tgt := 21) iX6_refused_13 (by decide) (fun _ => ?_) (fun hno => Bool.noConfusion (hno.symm.trans (show _ = true from by rw [wi_R (by decide)]; exact hy)))
  refine j_aload_n iX6_refused_21 rfl ?_
  refine j_get fk_X6_119 iX6_refused_22 (by repeat (first | assumption | refine wset_ne (by decide) ?_ | exact wset_lt (by (try simp only [List.length_set]); exact wsome (by assumption)))) (by rfl) ?_
  refine j_if_neN (tgt := 33) iX6_refused_25 (by decide) (by omega) (fun h25 => ?_) (fun h25 => ?_)
  · refine j_iconst (v := nI 0) iX6_refused_33 (by decide) ?_
    refine j_iret iX6_refused_34 rfl (by first | rfl | exact nar_bI _ | exact nar_bP) (⟨by first | rw [if_pos h25] | rw [if_neg h25], rfl⟩)
  · refine j_bipush (v := (-103)) iX6_refused_28 (by decide) ?_
    refine j_goto (tgt := 34) iX6_refused_30 (by decide) ?_
    refine j_iret iX6_refused_34 rfl (by first | rfl | exact nar_bI _ | exact nar_bP) (⟨by first | rw [if_pos h25] | rw [if_neg h25], rfl⟩)
end
