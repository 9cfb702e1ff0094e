/-! ===== the class: what is done ===== -/
section
variable {w : mW} {R C sz rd fr lp lps sn : Nat} {pg ks sts sof sso : Nat → Nat} {ik : Bool} {K : Sc}
theorem c_leap_u (hC : CW w R C sz pg ik rd ((fr, lp, lps, sn), (ks, sts, sof, sso)) K) (hV : SV fr lp sn ks sts sof sso) (x y : Int32) (hx : inR x lp = false ∨ inR y (R * C) = false) : JR 6 mX5_leap [.ref 0, .int x, .int y] w (.int (-101)) w := by
  obtain ⟨h0, -, hG, hS, -⟩ := hC
  obtain ⟨g2, -⟩ := hG
  have hS : NOW w fr lp lps sn ks sts sof sso := hS
  obtain ⟨s3, s15, s16, s17, s18⟩ := hS
  obtain ⟨v1, v2, v3, v4, v5, v6, v7⟩ := hV
  refine j_start (ls := [.ref 0, .int x, .int y]) rfl ?_
  refine j_aload_n iX5_leap_0 rfl ?_
  refine j_get fk_X5_26 iX5_leap_1 (by repeat (first | assumption | refine wset_ne (by decide) ?_ | exact wset_lt (by (try simp only [List.length_set]); exact wsome (by assumption)))) (by rfl) ?_
  refine j_iload_n iX5_leap_4 rfl ?_
  refine j_V1R okX3_hasLeaper lk_X5_120 iX5_leap_5 (by omega) (by repeat (first | assumption | refine wset_ne (by decide) ?_ | exact wset_lt (by (try simp only [List.length_set]); exact wsome (by assumption)))) rfl (c_hasLeaper s3 v2 x) rfl (Nat.le_of_ble_eq_true rfl) (Nat.le_of_ble_eq_true rfl) ?_
  refine j_if_eqB (tgt := 22) iX5_leap_8 (by decide) (fun h8 => ?_) (fun h8 => ?_)
  · refine j_bipush (v := (-101)) iX5_leap_22 (by decide) ?_
    refine j_iret iX5_leap_24 rfl (by first | rfl | exact nar_bI _ | exact nar_bP) (⟨rfl, rfl⟩)
  · refine j_aload_n iX5_leap_11 rfl ?_
    refine j_get fk_X5_19 iX5_leap_12 (by repeat (first | assumption | refine wset_ne (by decide) ?_ | exact wset_lt (by (try simp only [List.length_set]); exact wsome (by assumption)))) (by rfl) ?_
    refine j_iload_n iX5_leap_15 rfl ?_
    refine j_V1R okX1_hasCell lk_X5_155 iX5_leap_16 (by omega) (by repeat (first | assumption | refine wset_ne (by decide) ?_ | exact wset_lt (by (try simp only [List.length_set]); exact wsome (by assumption)))) rfl (c_hasCell g2 y) rfl (Nat.le_of_ble_eq_true rfl) (Nat.le_of_ble_eq_true rfl) ?_
    refine j_if_neB (tgt := 25) iX5_leap_19 (by decide) (fun hno => Bool.noConfusion (hno.symm.trans (show _ = false from by rcases hx with q | q; (rw [h8] at q; cases q); exact q))) (fun _ => ?_)
    refine j_bipush (v := (-101)) iX5_leap_22 (by decide) ?_
    refine j_iret iX5_leap_24 rfl (by first | rfl | exact nar_bI _ | exact nar_bP) (⟨rfl, rfl⟩)
theorem c_leap_s (hC : CW w R C sz pg ik rd ((fr, lp, lps, sn), (ks, sts, sof, sso)) K) (hN : R * C ≤ 12) (hV : SV fr lp sn ks sts sof sso) (j c : Nat) (hj : j < lp) (hc : c < R * C) (hg : (gol C (R * C) fr lp ks sts j).testBit c = false) : JR 6 mX5_leap [.ref 0, .int (nI j), .int (nI c)] w (.int (-103)) w := by
  obtain ⟨h0, -, hG, hS, -⟩ := hC
  obtain ⟨g2, -⟩ := id hG
  have hS : NOW w fr lp lps sn ks sts sof sso := hS
  obtain ⟨s3, s15, s16, s17, s18⟩ := hS
  obtain ⟨v1, v2, v3, v4, v5, v6, v7⟩ := hV
  have hgb := gol_b (C := C) (N := R * C) (lp := lp) (ks := ks) (sts := sts) v1 j
  refine j_start (ls := [.ref 0, .int (nI j), .int (nI c)]) rfl ?_
  refine j_aload_n iX5_leap_0 rfl ?_
  refine j_get fk_X5_26 iX5_leap_1 (by repeat (first | assumption | refine wset_ne (by decide) ?_ | exact wset_lt (by (try simp only [List.length_set]); exact wsome (by assumption)))) (by rfl) ?_
  refine j_iload_n iX5_leap_4 rfl ?_
  refine j_V1R okX3_hasLeaper lk_X5_120 iX5_leap_5 (by omega) (by repeat (first | assumption | refine wset_ne (by decide) ?_ | exact wset_lt (by (try simp only [List.length_set]); exact wsome (by assumption)))) rfl (c_hasLeaper s3 v2 _) rfl (Nat.le_of_ble_eq_true rfl) (Nat.le_of_ble_eq_true rfl) ?_
  refine j_if_eqB (tgt := 22) iX5_leap_8 (by decide) (fun hno => Bool.noConfusion (hno.symm.trans (show _ = true from by rw [inR_nI (by omega) (by omega)]; exact decide_eq_true hj))) (fun _ => ?_)
  refine j_aload_n iX5_leap_11 rfl ?_
  refine j_get fk_X5_19 iX5_leap_12 (by repeat (first | assumption | refine wset_ne (by decide) ?_ | exact wset_lt (by (try simp only [List.length_set]); exact wsome (by assumption)))) (by rfl) ?_
  refine j_iload_n iX5_leap_15 rfl ?_
  refine j_V1R okX1_hasCell lk_X5_155 iX5_leap_16 (by omega) (by repeat (first | assumption | refine wset_ne (by decide) ?_ | exact wset_lt (by (try simp only [List.length_set]); exact wsome (by assumption)))) rfl (c_hasCell g2 _) rfl (Nat.le_of_ble_eq_true rfl) (Nat.le_of_ble_eq_true rfl) ?_
  refine j_if_neB (tgt := 25) iX5_leap_19 (by decide) (fun _ => ?_) (fun hno => Bool.noConfusion (hno.symm.trans (show _ = true from by rw [inR_nI (by omega) (by omega)]; exact decide_eq_true hc)))
  refine j_aload_n iX5_leap_25 rfl ?_
  refine j_aload_n iX5_leap_26 rfl ?_
  refine j_get fk_X5_26 iX5_leap_27 (by repeat (first | assumption | refine wset_ne (by decide) ?_ | exact wset_lt (by (try simp only [List.length_set]); exact wsome (by assumption)))) (by rfl) ?_
  refine j_iload_n iX5_leap_30 rfl ?_
  refine j_V2R okX5_goals lk_X5_129 iX5_leap_31 (by omega) (by repeat (first | assumption | refine wset_ne (by decide) ?_ | exact wset_lt (by (try simp only [List.length_set]); exact wsome (by assumption)))) rfl (c_goals h0 hG hN s3 s15 s16 v2 v4 v5 j hj) rfl (Nat.le_of_ble_eq_true rfl) (Nat.le_of_ble_eq_true rfl) ?_
  refine j_iload_n iX5_leap_34 rfl ?_
  refine j_S2R okX5_has lk_X5_158 iX5_leap_35 (by omega) (c_has _ c (by omega) (by omega)) rfl (Nat.le_of_ble_eq_true rfl) (Nat.le_of_ble_eq_true rfl) ?_
  refine j_if_neB (tgt := 44) iX5_leap_38 (by decide) (fun hno => Bool.noConfusion (hno.symm.trans (show _ = false from hg))) (fun _ => ?_)
  refine j_bipush (v := (-103)) iX5_leap_41 (by decide) ?_
  refine j_iret iX5_leap_43 rfl (by first | rfl | exact nar_bI _ | exact nar_bP) (⟨rfl, rfl⟩)
theorem c_leap_f (hC : CW w R C sz pg ik rd ((fr, lp, lps, sn), (ks, sts, sof, sso)) K) (hN : R * C ≤ 12) (hV : SV fr lp sn ks sts sof sso) (j c : Nat) (hj : j < lp) (hc : c < R * C) (hg : (gol C (R * C) fr lp ks sts j).testBit c = true) (hl : lps = 999) : JR 6 mX5_leap [.ref 0, .int (nI j), .int (nI c)] w (.int (-104)) w := by
  obtain ⟨h0, -, hG, hS, -⟩ := hC
  obtain ⟨g2, -⟩ := id hG
  have hS : NOW w fr lp lps sn ks sts sof sso := hS
  obtain ⟨s3, s15, s16, s17, s18⟩ := hS
  obtain ⟨v1, v2, v3, v4, v5, v6, v7⟩ := hV
  have hgb := gol_b (C := C) (N := R * C) (lp := lp) (ks := ks) (sts := sts) v1 j
  refine j_start (ls := [.ref 0, .int (nI j), .int (nI c)]) rfl ?_
  refine j_aload_n iX5_leap_0 rfl ?_
  refine j_get fk_X5_26 iX5_leap_1 (by repeat (first | assumption | refine wset_ne (by decide) ?_ | exact wset_lt (by (try simp only [List.length_set]); exact wsome (by assumption)))) (by rfl) ?_
  refine j_iload_n iX5_leap_4 rfl ?_
  refine j_V1R okX3_hasLeaper lk_X5_120 iX5_leap_5 (by omega) (by repeat (first | assumption | refine wset_ne (by decide) ?_ | exact wset_lt (by (try simp only [List.length_set]); exact wsome (by assumption)))) rfl (c_hasLeaper s3 v2 _) rfl (Nat.le_of_ble_eq_true rfl) (Nat.le_of_ble_eq_true rfl) ?_
  refine j_if_eqB (tgt := 22) iX5_leap_8 (by decide) (fun hno => Bool.noConfusion (hno.symm.trans (show _ = true from by rw [inR_nI (by omega) (by omega)]; exact decide_eq_true hj))) (fun _ => ?_)
  refine j_aload_n iX5_leap_11 rfl ?_
  refine j_get fk_X5_19 iX5_leap_12 (by repeat (first | assumption | refine wset_ne (by decide) ?_ | exact wset_lt (by (try simp only [List.length_set]); exact wsome (by assumption)))) (by rfl) ?_
  refine j_iload_n iX5_leap_15 rfl ?_
  refine j_V1R okX1_hasCell lk_X5_155 iX5_leap_16 (by omega) (by repeat (first | assumption | refine wset_ne (by decide) ?_ | exact wset_lt (by (try simp only [List.length_set]); exact wsome (by assumption)))) rfl (c_hasCell g2 _) rfl (Nat.le_of_ble_eq_true rfl) (Nat.le_of_ble_eq_true rfl) ?_
  refine j_if_neB (tgt := 25) iX5_leap_19 (by decide) (fun _ => ?_) (fun hno => Bool.noConfusion (hno.symm.trans (show _ = true from by rw [inR_nI (by omega) (by omega)]; exact decide_eq_true hc)))
  refine j_aload_n iX5_leap_25 rfl ?_
  refine j_aload_n iX5_leap_26 rfl ?_
  refine j_get fk_X5_26 iX5_leap_27 (by repeat (first | assumption | refine wset_ne (by decide) ?_ | exact wset_lt (by (try simp only [List.length_set]); exact wsome (by assumption)))) (by rfl) ?_
  refine j_iload_n iX5_leap_30 rfl ?_
  refine j_V2R okX5_goals lk_X5_129 iX5_leap_31 (by omega) (by repeat (first | assumption | refine wset_ne (by decide) ?_ | exact wset_lt (by (try simp only [List.length_set]); exact wsome (by assumption)))) rfl (c_goals h0 hG hN s3 s15 s16 v2 v4 v5 j hj) rfl (Nat.le_of_ble_eq_true rfl) (Nat.le_of_ble_eq_true rfl) ?_
  refine j_iload_n iX5_leap_34 rfl ?_
  refine j_S2R okX5_has lk_X5_158 iX5_leap_35 (by omega) (c_has _ c (by omega) (by omega)) rfl (Nat.le_of_ble_eq_true rfl) (Nat.le_of_ble_eq_true rfl) ?_
  refine j_if_neB (tgt := 44) iX5_leap_38 (by decide) (fun _ => ?_) (fun hno => Bool.noConfusion (hno.symm.trans (show _ = true from hg)))
  refine j_aload_n iX5_leap_44 rfl ?_
  refine j_get fk_X5_26 iX5_leap_45 (by repeat (first | assumption | refine wset_ne (by decide) ?_ | exact wset_lt (by (try simp only [List.length_set]); exact wsome (by assumption)))) (by rfl) ?_
  refine j_get fk_X5_111 iX5_leap_48 (by repeat (first | assumption | refine wset_ne (by decide) ?_ | exact wset_lt (by (try simp only [List.length_set]); exact wsome (by assumption)))) (by rfl) ?_
  refine j_sipush (v := nI 999) iX5_leap_51 (by decide) ?_
  refine j_icmp_ltN (tgt := 60) iX5_leap_54 (by decide) (by omega) (by omega) (fun hno => by exfalso; omega) (fun _ => ?_)
  refine j_bipush (v := (-104)) iX5_leap_57 (by decide) ?_
  refine j_iret iX5_leap_59 rfl (by first | rfl | exact nar_bI _ | exact nar_bP) (⟨rfl, rfl⟩)
theorem c_leap (hC : CW w R C sz pg ik rd ((fr, lp, lps, sn), (ks, sts, sof, sso)) K) (hN : R * C ≤ 12) (hV : SV fr lp sn ks sts sof sso) (j c : Nat) (hj : j < lp) (hc : c < R * C) (hg : (gol C (R * C) fr lp ks sts j).testBit c = true) (hl : lps < 999) : JX 6 mX5_leap [.ref 0, .int (nI j), .int (nI c)] w (fun v u => v = some (.int (nI (lps + 1))) ∧ CW u R C sz pg ik rd ((fr, lp, lps + 1, sn), (ks, un sts j c, sof, sso)) K ∧ F33 w u) := by
  obtain ⟨h0, hP, hG, hS, hK, hTr, hT, hD⟩ := hC
  obtain ⟨g2, -⟩ := id hG
  have hS : NOW w fr lp lps sn ks sts sof sso := hS
  obtain ⟨s3, s15, s16, s17, s18⟩ := hS
  obtain ⟨v1, v2, v3, v4, v5, v6, v7⟩ := hV
  have hgb := gol_b (C := C) (N := R * C) (lp := lp) (ks := ks) (sts := sts) v1 j
  refine j_start (ls := [.ref 0, .int (nI j), .int (nI c)]) rfl ?_
  refine j_aload_n iX5_leap_0 rfl ?_
  refine j_get fk_X5_26 iX5_leap_1 (by repeat (first | assumption | refine wset_ne (by decide) ?_ | exact wset_lt (by (try simp only [List.length_set]); exact wsome (by assumption)))) (by rfl) ?_
  refine j_iload_n iX5_leap_4 rfl ?_
  refine j_V1R okX3_hasLeaper lk_X5_120 iX5_leap_5 (by omega) (by repeat (first | assumption | refine wset_ne (by decide) ?_ | exact wset_lt (by (try simp only [List.length_set]); exact wsome (by assumption)))) rfl (c_hasLeaper s3 v2 _) rfl (Nat.le_of_ble_eq_true rfl) (Nat.le_of_ble_eq_true rfl) ?_
  refine j_if_eqB (tgt := 22) iX5_leap_8 (by decide) (fun hno => Bool.noConfusion (hno.symm.trans (show _ = true from by rw [inR_nI (by omega) (by omega)]; exact decide_eq_true hj))) (fun _ => ?_)
  refine j_aload_n iX5_leap_11 rfl ?_
  refine j_get fk_X5_19 iX5_leap_12 (by repeat (first | assumption | refine wset_ne (by decide) ?_ | exact wset_lt (by (try simp only [List.length_set]); exact wsome (by assumption)))) (by rfl) ?_
  refine j_iload_n iX5_leap_15 rfl ?_
  refine j_V1R okX1_hasCell lk_X5_155 iX5_leap_16 (by omega) (by repeat (first | assumption | refine wset_ne (by decide) ?_ | exact wset_lt (by (try simp only [List.length_set]); exact wsome (by assumption)))) rfl (c_hasCell g2 _) rfl (Nat.le_of_ble_eq_true rfl) (Nat.le_of_ble_eq_true rfl) ?_
  refine j_if_neB (tgt := 25) iX5_leap_19 (by decide) (fun _ => ?_) (fun hno => Bool.noConfusion (hno.symm.trans (show _ = true from by rw [inR_nI (by omega) (by omega)]; exact decide_eq_true hc)))
  refine j_aload_n iX5_leap_25 rfl ?_
  refine j_aload_n iX5_leap_26 rfl ?_
  refine j_get fk_X5_26 iX5_leap_27 (by repeat (first | assumption | refine wset_ne (by decide) ?_ | exact wset_lt (by (try simp only [List.length_set]); exact wsome (by assumption)))) (by rfl) ?_
  refine j_iload_n iX5_leap_30 rfl ?_
  refine j_V2R okX5_goals lk_X5_129 iX5_leap_31 (by omega) (by repeat (first | assumption | refine wset_ne (by decide) ?_ | exact wset_lt (by (try simp only [List.length_set]); exact wsome (by assumption)))) rfl (c_goals h0 hG hN s3 s15 s16 v2 v4 v5 j hj) rfl (Nat.le_of_ble_eq_true rfl) (Nat.le_of_ble_eq_true rfl) ?_
  refine j_iload_n iX5_leap_34 rfl ?_
  refine j_S2R okX5_has lk_X5_158 iX5_leap_35 (by omega) (c_has _ c (by omega) (by omega)) rfl (Nat.le_of_ble_eq_true rfl) (Nat.le_of_ble_eq_true rfl) ?_
  refine j_if_neB (tgt := 44) iX5_leap_38 (by decide) (fun _ => ?_) (fun hno => Bool.noConfusion (hno.symm.trans (show _ = true from hg)))
  refine j_aload_n iX5_leap_44 rfl ?_
  refine j_get fk_X5_26 iX5_leap_45 (by repeat (first | assumption | refine wset_ne (by decide) ?_ | exact wset_lt (by (try simp only [List.length_set]); exact wsome (by assumption)))) (by rfl) ?_
  refine j_get fk_X5_111 iX5_leap_48 (by repeat (first | assumption | refine wset_ne (by decide) ?_ | exact wset_lt (by (try simp only [List.length_set]); exact wsome (by assumption)))) (by rfl) ?_
  refine j_sipush (v := nI 999) iX5_leap_51 (by decide) ?_
  refine j_icmp_ltN (tgt := 60) iX5_leap_54 (by decide) (by omega) (by omega) (fun _ => ?_) (fun hno => by exfalso; omega)
  refine j_aload_n iX5_leap_60 rfl ?_
  refine j_get fk_X5_26 iX5_leap_61 (by repeat (first | assumption | refine wset_ne (by decide) ?_ | exact wset_lt (by (try simp only [List.length_set]); exact wsome (by assumption)))) (by rfl) ?_
  refine j_get fk_X5_105 iX5_leap_64 (by repeat (first | assumption | refine wset_ne (by decide) ?_ | exact wset_lt (by (try simp only [List.length_set]); exact wsome (by assumption)))) (by rfl) ?_
  refine j_iload_n iX5_leap_67 rfl ?_
  refine j_iload_n iX5_leap_68 rfl ?_
  refine j_iastN iX5_leap_69 (by repeat (first | assumption | refine wset_ne (by decide) ?_ | exact wset_lt (by (try simp only [List.length_set]); exact wsome (by assumption)))) (by omega) ?_
  refine j_aload_n iX5_leap_70 rfl ?_
  refine j_get fk_X5_26 iX5_leap_71 (by repeat (first | assumption | refine wset_ne (by decide) ?_ | exact wset_lt (by (try simp only [List.length_set]); exact wsome (by assumption)))) (by rfl) ?_
  refine j_dup iX5_leap_74 rfl ?_
  refine j_get fk_X5_111 iX5_leap_75 (by repeat (first | assumption | refine wset_ne (by decide) ?_ | exact wset_lt (by (try simp only [List.length_set]); exact wsome (by assumption)))) (by rfl) ?_
  refine j_iconst (v := nI 1) iX5_leap_78 (by decide) ?_
  refine j_iaddN iX5_leap_79  ?_
  refine j_put fk_X5_111 iX5_leap_80 (by repeat (first | assumption | refine wset_ne (by decide) ?_ | exact wset_lt (by (try simp only [List.length_set]); exact wsome (by assumption)))) (by intro; rfl) (by intro; rfl) (Nat.le_of_ble_eq_true rfl) ?_
  dsimp only [List.set]
  refine j_aload_n iX5_leap_83 rfl ?_
  refine j_get fk_X5_26 iX5_leap_84 (by repeat (first | assumption | refine wset_ne (by decide) ?_ | exact wset_lt (by (try simp only [List.length_set]); exact wsome (by assumption)))) (by rfl) ?_
  refine j_get fk_X5_111 iX5_leap_87 (by repeat (first | assumption | refine wset_ne (by decide) ?_ | exact wset_lt (by (try simp only [List.length_set]); exact wsome (by assumption)))) (by rfl) ?_
  refine j_iret iX5_leap_90 rfl (by first | rfl | exact nar_bI _ | exact nar_bP) (⟨rfl, ⟨(by repeat (first | assumption | refine wset_ne (by decide) ?_ | exact wset_lt (by (try simp only [List.length_set]); exact wsome (by assumption)))), (by repeat (first | assumption | refine PW.set ?_ (by decide))), (by repeat (first | assumption | refine GW.set ?_ (by decide))), ⟨(by repeat (first | assumption | refine wset_ne (by decide) ?_ | exact wset_lt (by (try simp only [List.length_set]); exact wsome (by assumption)))), (by repeat (first | assumption | refine wset_ne (by decide) ?_ | exact wset_lt (by (try simp only [List.length_set]); exact wsome (by assumption)))), (by repeat (first | assumption | refine wset_ne (by decide) ?_ | exact wset_lt (by (try simp only [List.length_set]); exact wsome (by assumption)))), (by repeat (first | assumption | refine wset_ne (by decide) ?_ | exact wset_lt (by (try simp only [List.length_set]); exact wsome (by assumption)))), (by repeat (first | assumption | refine wset_ne (by decide) ?_ | exact wset_lt (by (try simp only [List.length_set]); exact wsome (by assumption))))⟩, (by repeat (first | assumption | refine KEPs.set ?_ (by decide))), (by repeat (first | assumption | refine TRI.set ?_ (by decide))), (by repeat (first | assumption | refine TW.set ?_ (by decide))), (by repeat (first | assumption | refine DRW.set ?_ (by decide)))⟩, (by repeat (first | exact F33.rf | refine F33.set ?_ (by decide)))⟩)
theorem c_dig_u (hC : CW w R C sz pg ik rd ((fr, lp, lps, sn), (ks, sts, sof, sso)) K) (x : Int32) (hx : inR x (R * C) = false) : JR 1 mX5_dig [.ref 0, .int x] w (.int (-101)) w := by
  obtain ⟨h0, -, hG, hS, -⟩ := hC
  obtain ⟨g2, -⟩ := hG
  refine j_start (ls := [.ref 0, .int x]) rfl ?_
  refine j_aload_n iX5_dig_0 rfl ?_
  refine j_get fk_X5_19 iX5_dig_1 (by repeat (first | assumption | refine wset_ne (by decide) ?_ | exact wset_lt (by (try simp only [List.length_set]); exact wsome (by assumption)))) (by rfl) ?_
  refine j_iload_n iX5_dig_4 rfl ?_
  refine j_V1R okX1_hasCell lk_X5_155 iX5_dig_5 (by omega) (by repeat (first | assumption | refine wset_ne (by decide) ?_ | exact wset_lt (by (try simp only [List.length_set]); exact wsome (by assumption)))) rfl (c_hasCell g2 x) rfl (Nat.le_of_ble_eq_true rfl) (Nat.le_of_ble_eq_true rfl) ?_
  refine j_if_neB (tgt := 14) iX5_dig_8 (by decide) (fun hno => Bool.noConfusion (hno.symm.trans (show _ = false from hx))) (fun _ => ?_)
  refine j_bipush (v := (-101)) iX5_dig_11 (by decide) ?_
  refine j_iret iX5_dig_13 rfl (by first | rfl | exact nar_bI _ | exact nar_bP) (⟨rfl, rfl⟩)
theorem c_dig_s (hC : CW w R C sz pg ik rd ((fr, lp, lps, sn), (ks, sts, sof, sso)) K) (hN : R * C ≤ 12) (hV : SV fr lp sn ks sts sof sso) (c : Nat) (hc : c < R * C) (hg : (emptyF fr lp sts).testBit c = false) : JR 1 mX5_dig [.ref 0, .int (nI c)] w (.int (-103)) w := by
  obtain ⟨h0, -, hG, hS, -⟩ := hC
  obtain ⟨g2, -⟩ := hG
  have hS : NOW w fr lp lps sn ks sts sof sso := hS
  obtain ⟨s3, s15, s16, s17, s18⟩ := hS
  obtain ⟨v1, v2, v3, v4, v5, v6, v7⟩ := hV
  have he := empty_b (lp := lp) (sts := sts) v1
  refine j_start (ls := [.ref 0, .int (nI c)]) rfl ?_
  refine j_aload_n iX5_dig_0 rfl ?_
  refine j_get fk_X5_19 iX5_dig_1 (by repeat (first | assumption | refine wset_ne (by decide) ?_ | exact wset_lt (by (try simp only [List.length_set]); exact wsome (by assumption)))) (by rfl) ?_
  refine j_iload_n iX5_dig_4 rfl ?_
  refine j_V1R okX1_hasCell lk_X5_155 iX5_dig_5 (by omega) (by repeat (first | assumption | refine wset_ne (by decide) ?_ | exact wset_lt (by (try simp only [List.length_set]); exact wsome (by assumption)))) rfl (c_hasCell g2 _) rfl (Nat.le_of_ble_eq_true rfl) (Nat.le_of_ble_eq_true rfl) ?_
  refine j_if_neB (tgt := 14) iX5_dig_8 (by decide) (fun _ => ?_) (fun hno => Bool.noConfusion (hno.symm.trans (show _ = true from by rw [inR_nI (by omega) (by omega)]; exact decide_eq_true hc)))
  refine j_aload_n iX5_dig_14 rfl ?_
  refine j_get fk_X5_26 iX5_dig_15 (by repeat (first | assumption | refine wset_ne (by decide) ?_ | exact wset_lt (by (try simp only [List.length_set]); exact wsome (by assumption)))) (by rfl) ?_
  refine j_V0R okX3_empty lk_X5_142 iX5_dig_18 (by omega) (by repeat (first | assumption | refine wset_ne (by decide) ?_ | exact wset_lt (by (try simp only [List.length_set]); exact wsome (by assumption)))) rfl (c_empty s3 v2 s16 v5) rfl (Nat.le_of_ble_eq_true rfl) (Nat.le_of_ble_eq_true rfl) ?_
  refine j_iload_n iX5_dig_21 rfl ?_
  refine j_S2R okX5_has lk_X5_158 iX5_dig_22 (by omega) (c_has _ c (by omega) (by omega)) rfl (Nat.le_of_ble_eq_true rfl) (Nat.le_of_ble_eq_true rfl) ?_
  refine j_if_neB (tgt := 31) iX5_dig_25 (by decide) (fun hno => Bool.noConfusion (hno.symm.trans (show _ = false from hg))) (fun _ => ?_)
  refine j_bipush (v := (-103)) iX5_dig_28 (by decide) ?_
  refine j_iret iX5_dig_30 rfl (by first | rfl | exact nar_bI _ | exact nar_bP) (⟨rfl, rfl⟩)
theorem c_dig (hC : CW w R C sz pg ik rd ((fr, lp, lps, sn), (ks, sts, sof, sso)) K) (hN : R * C ≤ 12) (hV : SV fr lp sn ks sts sof sso) (c : Nat) (hc : c < R * C) (hg : (emptyF fr lp sts).testBit c = true) : JX 1 mX5_dig [.ref 0, .int (nI c)] w (fun v u => v = some (.int (nI (pop (ad fr (2 ^ c))))) ∧ CW u R C sz pg ik rd ((ad fr (2 ^ c), lp, lps, sn), (ks, sts, sof, sso)) K ∧ F33 w u) := by
  obtain ⟨h0, hP, hG, hS, hK, hTr, hT, hD⟩ := hC
  obtain ⟨g2, -⟩ := id hG
  have hS : NOW w fr lp lps sn ks sts sof sso := hS
  obtain ⟨s3, s15, s16, s17, s18⟩ := hS
  obtain ⟨v1, v2, v3, v4, v5, v6, v7⟩ := hV
  have he := empty_b (lp := lp) (sts := sts) v1
  refine j_start (ls := [.ref 0, .int (nI c)]) rfl ?_
  refine j_aload_n iX5_dig_0 rfl ?_
  refine j_get fk_X5_19 iX5_dig_1 (by repeat (first | assumption | refine wset_ne (by decide) ?_ | exact wset_lt (by (try simp only [List.length_set]); exact wsome (by assumption)))) (by rfl) ?_
  refine j_iload_n iX5_dig_4 rfl ?_
  refine j_V1R okX1_hasCell lk_X5_155 iX5_dig_5 (by omega) (by repeat (first | assumption | refine wset_ne (by decide) ?_ | exact wset_lt (by (try simp only [List.length_set]); exact wsome (by assumption)))) rfl (c_hasCell g2 _) rfl (Nat.le_of_ble_eq_true rfl) (Nat.le_of_ble_eq_true rfl) ?_
  refine j_if_neB (tgt := 14) iX5_dig_8 (by decide) (fun _ => ?_) (fun hno => Bool.noConfusion (hno.symm.trans (show _ = true from by rw [inR_nI (by omega) (by omega)]; exact decide_eq_true hc)))
  refine j_aload_n iX5_dig_14 rfl ?_
  refine j_get fk_X5_26 iX5_dig_15 (by repeat (first | assumption | refine wset_ne (by decide) ?_ | exact wset_lt (by (try simp only [List.length_set]); exact wsome (by assumption)))) (by rfl) ?_
  refine j_V0R okX3_empty lk_X5_142 iX5_dig_18 (by omega) (by repeat (first | assumption | refine wset_ne (by decide) ?_ | exact wset_lt (by (try simp only [List.length_set]); exact wsome (by assumption)))) rfl (c_empty s3 v2 s16 v5) rfl (Nat.le_of_ble_eq_true rfl) (Nat.le_of_ble_eq_true rfl) ?_
  refine j_iload_n iX5_dig_21 rfl ?_
  refine j_S2R okX5_has lk_X5_158 iX5_dig_22 (by omega) (c_has _ c (by omega) (by omega)) rfl (Nat.le_of_ble_eq_true rfl) (Nat.le_of_ble_eq_true rfl) ?_
  refine j_if_neB (tgt := 31) iX5_dig_25 (by decide) (fun _ => ?_) (fun hno => Bool.noConfusion (hno.symm.trans (show _ = true from hg)))
  refine j_aload_n iX5_dig_31 rfl ?_
  refine j_get fk_X5_26 iX5_dig_32 (by repeat (first | assumption | refine wset_ne (by decide) ?_ | exact wset_lt (by (try simp only [List.length_set]); exact wsome (by assumption)))) (by rfl) ?_
  refine j_dup iX5_dig_35 rfl ?_
  refine j_get fk_X5_89 iX5_dig_36 (by repeat (first | assumption | refine wset_ne (by decide) ?_ | exact wset_lt (by (try simp only [List.length_set]); exact wsome (by assumption)))) (by rfl) ?_
  refine j_iconst (v := nI 1) iX5_dig_39 (by decide) ?_
  refine j_iload_n iX5_dig_40 rfl ?_
  refine j_ishlN iX5_dig_41 (by omega) ?_
  refine j_iconst (v := (-1)) iX5_dig_42 (by decide) ?_
  refine j_ixor iX5_dig_43 ?_
  refine j_iandnN iX5_dig_44 ?_
  refine j_put fk_X5_89 iX5_dig_45 (by repeat (first | assumption | refine wset_ne (by decide) ?_ | exact wset_lt (by (try simp only [List.length_set]); exact wsome (by assumption)))) (by intro; rfl) (by intro; rfl) (Nat.le_of_ble_eq_true rfl) ?_
  dsimp only [List.set]
  refine j_aload_n iX5_dig_48 rfl ?_
  refine j_get fk_X5_26 iX5_dig_49 (by repeat (first | assumption | refine wset_ne (by decide) ?_ | exact wset_lt (by (try simp only [List.length_set]); exact wsome (by assumption)))) (by rfl) ?_
  refine j_get fk_X5_89 iX5_dig_52 (by repeat (first | assumption | refine wset_ne (by decide) ?_ | exact wset_lt (by (try simp only [List.length_set]); exact wsome (by assumption)))) (by rfl) ?_
  refine j_S1R okJ6_bitCount lk_X5_168 iX5_dig_55 (by omega) (c_bitCount _ (ad_b v1)) rfl (Nat.le_of_ble_eq_true rfl) (Nat.le_of_ble_eq_true rfl) ?_
  refine j_iret iX5_dig_58 rfl (by first | rfl | exact nar_bI _ | exact nar_bP) (⟨rfl, ⟨(by repeat (first | assumption | refine wset_ne (by decide) ?_ | exact wset_lt (by (try simp only [List.length_set]); exact wsome (by assumption)))), (by repeat (first | assumption | refine PW.set ?_ (by decide))), (by repeat (first | assumption | refine GW.set ?_ (by decide))), ⟨(by repeat (first | assumption | refine wset_ne (by decide) ?_ | exact wset_lt (by (try simp only [List.length_set]); exact wsome (by assumption)))), (by repeat (first | assumption | refine wset_ne (by decide) ?_ | exact wset_lt (by (try simp only [List.length_set]); exact wsome (by assumption)))), (by repeat (first | assumption | refine wset_ne (by decide) ?_ | exact wset_lt (by (try simp only [List.length_set]); exact wsome (by assumption)))), (by repeat (first | assumption | refine wset_ne (by decide) ?_ | exact wset_lt (by (try simp only [List.length_set]); exact wsome (by assumption)))), (by repeat (first | assumption | refine wset_ne (by decide) ?_ | exact wset_lt (by (try simp only [List.length_set]); exact wsome (by assumption))))⟩, (by repeat (first | assumption | refine KEPs.set ?_ (by decide))), (by repeat (first | assumption | refine TRI.set ?_ (by decide))), (by repeat (first | assumption | refine TW.set ?_ (by decide))), (by repeat (first | assumption | refine DRW.set ?_ (by decide)))⟩, (by repeat (first | exact F33.rf | refine F33.set ?_ (by decide)))⟩)
theorem c_fill_u (hC : CW w R C sz pg ik rd ((fr, lp, lps, sn), (ks, sts, sof, sso)) K) (x : Int32) (hx : inR x (R * C) = false) : JR 1 mX5_fill [.ref 0, .int x] w (.int (-101)) w := by
  obtain ⟨h0, -, hG, hS, -⟩ := hC
  obtain ⟨g2, -⟩ := hG
  refine j_start (ls := [.ref 0, .int x]) rfl ?_
  refine j_aload_n iX5_fill_0 rfl ?_
  refine j_get fk_X5_19 iX5_fill_1 (by repeat (first | assumption | refine wset_ne (by decide) ?_ | exact wset_lt (by (try simp only [List.length_set]); exact wsome (by assumption)))) (by rfl) ?_
  refine j_iload_n iX5_fill_4 rfl ?_
  refine j_V1R okX1_hasCell lk_X5_155 iX5_fill_5 (by omega) (by repeat (first | assumption | refine wset_ne (by decide) ?_ | exact wset_lt (by (try simp only [List.length_set]); exact wsome (by assumption)))) rfl (c_hasCell g2 x) rfl (Nat.le_of_ble_eq_true rfl) (Nat.le_of_ble_eq_true rfl) ?_
  refine j_if_neB (tgt := 14) iX5_fill_8 (by decide) (fun hno => Bool.noConfusion (hno.symm.trans (show _ = false from hx))) (fun _ => ?_)
  refine j_bipush (v := (-101)) iX5_fill_11 (by decide) ?_
  refine j_iret iX5_fill_13 rfl (by first | rfl | exact nar_bI _ | exact nar_bP) (⟨rfl, rfl⟩)
theorem c_fill_s (hC : CW w R C sz pg ik rd ((fr, lp, lps, sn), (ks, sts, sof, sso)) K) (hN : R * C ≤ 12) (hV : SV fr lp sn ks sts sof sso) (c : Nat) (hc : c < R * C) (hg : fr.testBit c = true) : JR 1 mX5_fill [.ref 0, .int (nI c)] w (.int (-103)) w := by
  obtain ⟨h0, -, hG, hS, -⟩ := hC
  obtain ⟨g2, -⟩ := hG
  have hS : NOW w fr lp lps sn ks sts sof sso := hS
  obtain ⟨s3, s15, s16, s17, s18⟩ := hS
  obtain ⟨v1, v2, v3, v4, v5, v6, v7⟩ := hV
  refine j_start (ls := [.ref 0, .int (nI c)]) rfl ?_
  refine j_aload_n iX5_fill_0 rfl ?_
  refine j_get fk_X5_19 iX5_fill_1 (by repeat (first | assumption | refine wset_ne (by decide) ?_ | exact wset_lt (by (try simp only [List.length_set]); exact wsome (by assumption)))) (by rfl) ?_
  refine j_iload_n iX5_fill_4 rfl ?_
  refine j_V1R okX1_hasCell lk_X5_155 iX5_fill_5 (by omega) (by repeat (first | assumption | refine wset_ne (by decide) ?_ | exact wset_lt (by (try simp only [List.length_set]); exact wsome (by assumption)))) rfl (c_hasCell g2 _) rfl (Nat.le_of_ble_eq_true rfl) (Nat.le_of_ble_eq_true rfl) ?_
  refine j_if_neB (tgt := 14) iX5_fill_8 (by decide) (fun _ => ?_) (fun hno => Bool.noConfusion (hno.symm.trans (show _ = true from by rw [inR_nI (by omega) (by omega)]; exact decide_eq_true hc)))
  refine j_aload_n iX5_fill_14 rfl ?_
  refine j_get fk_X5_26 iX5_fill_15 (by repeat (first | assumption | refine wset_ne (by decide) ?_ | exact wset_lt (by (try simp only [List.length_set]); exact wsome (by assumption)))) (by rfl) ?_
  refine j_get fk_X5_89 iX5_fill_18 (by repeat (first | assumption | refine wset_ne (by decide) ?_ | exact wset_lt (by (try simp only [List.length_set]); exact wsome (by assumption)))) (by rfl) ?_
  refine j_iload_n iX5_fill_21 rfl ?_
  refine j_S2R okX5_has lk_X5_158 iX5_fill_22 (by omega) (c_has _ c (by omega) (by omega)) rfl (Nat.le_of_ble_eq_true rfl) (Nat.le_of_ble_eq_true rfl) ?_
  refine j_if_eqB (tgt := 31) iX5_fill_25 (by decide) (fun hno => Bool.noConfusion (hno.symm.trans (show _ = true from hg))) (fun _ => ?_)
  refine j_bipush (v := (-103)) iX5_fill_28 (by decide) ?_
  refine j_iret iX5_fill_30 rfl (by first | rfl | exact nar_bI _ | exact nar_bP) (⟨rfl, rfl⟩)
theorem c_fill (hC : CW w R C sz pg ik rd ((fr, lp, lps, sn), (ks, sts, sof, sso)) K) (hN : R * C ≤ 12) (hV : SV fr lp sn ks sts sof sso) (c : Nat) (hc : c < R * C) (hg : fr.testBit c = false) : JX 1 mX5_fill [.ref 0, .int (nI c)] w (fun v u => v = some (.int (nI (pop (fr ||| 2 ^ c)))) ∧ CW u R C sz pg ik rd ((fr ||| 2 ^ c, lp, lps, sn), (ks, sts, sof, sso)) K ∧ F33 w u) := by
  obtain ⟨h0, hP, hG, hS, hK, hTr, hT, hD⟩ := hC
  obtain ⟨g2, -⟩ := id hG
  have hS : NOW w fr lp lps sn ks sts sof sso := hS
  obtain ⟨s3, s15, s16, s17, s18⟩ := hS
  obtain ⟨v1, v2, v3, v4, v5, v6, v7⟩ := hV
  have he := or_b v1 (pw_b (i := c) (by omega))
  refine j_start (ls := [.ref 0, .int (nI c)]) rfl ?_
  refine j_aload_n iX5_fill_0 rfl ?_
  refine j_get fk_X5_19 iX5_fill_1 (by repeat (first | assumption | refine wset_ne (by decide) ?_ | exact wset_lt (by (try simp only [List.length_set]); exact wsome (by assumption)))) (by rfl) ?_
  refine j_iload_n iX5_fill_4 rfl ?_
  refine j_V1R okX1_hasCell lk_X5_155 iX5_fill_5 (by omega) (by repeat (first | assumption | refine wset_ne (by decide) ?_ | exact wset_lt (by (try simp only [List.length_set]); exact wsome (by assumption)))) rfl (c_hasCell g2 _) rfl (Nat.le_of_ble_eq_true rfl) (Nat.le_of_ble_eq_true rfl) ?_
  refine j_if_neB (tgt := 14) iX5_fill_8 (by decide) (fun _ => ?_) (fun hno => Bool.noConfusion (hno.symm.trans (show _ = true from by rw [inR_nI (by omega) (by omega)]; exact decide_eq_true hc)))
  refine j_aload_n iX5_fill_14 rfl ?_
  refine j_get fk_X5_26 iX5_fill_15 (by repeat (first | assumption | refine wset_ne (by decide) ?_ | exact wset_lt (by (try simp only [List.length_set]); exact wsome (by assumption)))) (by rfl) ?_
  refine j_get fk_X5_89 iX5_fill_18 (by repeat (first | assumption | refine wset_ne (by decide) ?_ | exact wset_lt (by (try simp only [List.length_set]); exact wsome (by assumption)))) (by rfl) ?_
  refine j_iload_n iX5_fill_21 rfl ?_
  refine j_S2R okX5_has lk_X5_158 iX5_fill_22 (by omega) (c_has _ c (by omega) (by omega)) rfl (Nat.le_of_ble_eq_true rfl) (Nat.le_of_ble_eq_true rfl) ?_
  refine j_if_eqB (tgt := 31) iX5_fill_25 (by decide) (fun _ => ?_) (fun hno => Bool.noConfusion (hno.symm.trans (show _ = false from hg)))
  refine j_aload_n iX5_fill_31 rfl ?_
  refine j_get fk_X5_26 iX5_fill_32 (by repeat (first | assumption | refine wset_ne (by decide) ?_ | exact wset_lt (by (try simp only [List.length_set]); exact wsome (by assumption)))) (by rfl) ?_
  refine j_dup iX5_fill_35 rfl ?_
  refine j_get fk_X5_89 iX5_fill_36 (by repeat (first | assumption | refine wset_ne (by decide) ?_ | exact wset_lt (by (try simp only [List.length_set]); exact wsome (by assumption)))) (by rfl) ?_
  refine j_iconst (v := nI 1) iX5_fill_39 (by decide) ?_
  refine j_iload_n iX5_fill_40 rfl ?_
  refine j_ishlN iX5_fill_41 (by omega) ?_
  refine j_iorN iX5_fill_42  ?_
  refine j_put fk_X5_89 iX5_fill_43 (by repeat (first | assumption | refine wset_ne (by decide) ?_ | exact wset_lt (by (try simp only [List.length_set]); exact wsome (by assumption)))) (by intro; rfl) (by intro; rfl) (Nat.le_of_ble_eq_true rfl) ?_
  dsimp only [List.set]
  refine j_aload_n iX5_fill_46 rfl ?_
  refine j_get fk_X5_26 iX5_fill_47 (by repeat (first | assumption | refine wset_ne (by decide) ?_ | exact wset_lt (by (try simp only [List.length_set]); exact wsome (by assumption)))) (by rfl) ?_
  refine j_get fk_X5_89 iX5_fill_50 (by repeat (first | assumption | refine wset_ne (by decide) ?_ | exact wset_lt (by (try simp only [List.length_set]); exact wsome (by assumption)))) (by rfl) ?_
  refine j_S1R okJ6_bitCount lk_X5_168 iX5_fill_53 (by omega) (c_bitCount _ he) rfl (Nat.le_of_ble_eq_true rfl) (Nat.le_of_ble_eq_true rfl) ?_
  refine j_iret iX5_fill_56 rfl (by first | rfl | exact nar_bI _ | exact nar_bP) (⟨rfl, ⟨(by repeat (first | assumption | refine wset_ne (by decide) ?_ | exact wset_lt (by (try simp only [List.length_set]); exact wsome (by assumption)))), (by repeat (first | assumption | refine PW.set ?_ (by decide))), (by repeat (first | assumption | refine GW.set ?_ (by decide))), ⟨(by repeat (first | assumption | refine wset_ne (by decide) ?_ | exact wset_lt (by (try simp only [List.length_set]); exact wsome (by assumption)))), (by repeat (first | assumption | refine wset_ne (by decide) ?_ | exact wset_lt (by (try simp only [List.length_set]); exact wsome (by assumption)))), (by repeat (first | assumption | refine wset_ne (by decide) ?_ | exact wset_lt (by (try simp only [List.length_set]); exact wsome (by assumption)))), (by repeat (first | assumption | refine wset_ne (by decide) ?_ | exact wset_lt (by (try simp only [List.length_set]); exact wsome (by assumption)))), (by repeat (first | assumption | refine wset_ne (by decide) ?_ | exact wset_lt (by (try simp only [List.length_set]); exact wsome (by assumption))))⟩, (by repeat (first | assumption | refine KEPs.set ?_ (by decide))), (by repeat (first | assumption | refine TRI.set ?_ (by decide))), (by repeat (first | assumption | refine TW.set ?_ (by decide))), (by repeat (first | assumption | refine DRW.set ?_ (by decide)))⟩, (by repeat (first | exact F33.rf | refine F33.set ?_ (by decide)))⟩)
theorem c_be_u (hC : CW w R C sz pg ik rd ((fr, lp, lps, sn), (ks, sts, sof, sso)) K) (hV : SV fr lp sn ks sts sof sso) (x y : Int32) (hx : inR x lp = false) : JR 2 mX5_be [.ref 0, .int x, .int y] w (.int (-101)) w := by
  obtain ⟨h0, -, hG, hS, -⟩ := hC
  have hS : NOW w fr lp lps sn ks sts sof sso := hS
  obtain ⟨s3, s15, s16, s17, s18⟩ := hS
  obtain ⟨v1, v2, v3, v4, v5, v6, v7⟩ := hV
  refine j_start (ls := [.ref 0, .int x, .int y, .null]) rfl ?_
  refine j_aload_n iX5_be_0 rfl ?_
  refine j_get fk_X5_26 iX5_be_1 (by repeat (first | assumption | refine wset_ne (by decide) ?_ | exact wset_lt (by (try simp only [List.length_set]); exact wsome (by assumption)))) (by rfl) ?_
  refine j_iload_n iX5_be_4 rfl ?_
  refine j_V1R okX3_hasLeaper lk_X5_120 iX5_be_5 (by omega) (by repeat (first | assumption | refine wset_ne (by decide) ?_ | exact wset_lt (by (try simp only [List.length_set]); exact wsome (by assumption)))) rfl (c_hasLeaper s3 v2 x) rfl (Nat.le_of_ble_eq_true rfl) (Nat.le_of_ble_eq_true rfl) ?_
  refine j_if_neB (tgt := 14) iX5_be_8 (by decide) (fun hno => Bool.noConfusion (hno.symm.trans (show _ = false from hx))) (fun _ => ?_)
  refine j_bipush (v := (-101)) iX5_be_11 (by decide) ?_
  refine j_iret iX5_be_13 rfl (by first | rfl | exact nar_bI _ | exact nar_bP) (⟨rfl, rfl⟩)
theorem c_be_o (hC : CW w R C sz pg ik rd ((fr, lp, lps, sn), (ks, sts, sof, sso)) K) (hV : SV fr lp sn ks sts sof sso) (x y : Int32) (hx : inR x lp = true) (hy : inR y 5 = false) : JR 2 mX5_be [.ref 0, .int x, .int y] w (.int (-102)) w := by
  obtain ⟨h0, -, hG, hS, -⟩ := hC
  have hS : NOW w fr lp lps sn ks sts sof sso := hS
  obtain ⟨s3, s15, s16, s17, s18⟩ := hS
  obtain ⟨v1, v2, v3, v4, v5, v6, v7⟩ := hV
  refine j_start (ls := [.ref 0, .int x, .int y, .null]) rfl ?_
  refine j_aload_n iX5_be_0 rfl ?_
  refine j_get fk_X5_26 iX5_be_1 (by repeat (first | assumption | refine wset_ne (by decide) ?_ | exact wset_lt (by (try simp only [List.length_set]); exact wsome (by assumption)))) (by rfl) ?_
  refine j_iload_n iX5_be_4 rfl ?_
  refine j_V1R okX3_hasLeaper lk_X5_120 iX5_be_5 (by omega) (by repeat (first | assumption | refine wset_ne (by decide) ?_ | exact wset_lt (by (try simp only [List.length_set]); exact wsome (by assumption)))) rfl (c_hasLeaper s3 v2 x) rfl (Nat.le_of_ble_eq_true rfl) (Nat.le_of_ble_eq_true rfl) ?_
  refine j_if_neB (tgt := 14) iX5_be_8 (by decide) (fun _ => ?_) (fun hno => Bool.noConfusion (hno.symm.trans (show _ = true from hx)))
  refine j_iload_n iX5_be_14 rfl ?_
  refine j_S1R okX5_isKind lk_X5_152 iX5_be_15 (by omega) (c_isKind y) rfl (Nat.le_of_ble_eq_true rfl) (Nat.le_of_ble_eq_true rfl) ?_
  refine j_if_neB (tgt := 24) iX5_be_18 (by decide) (fun hno => Bool.noConfusion (hno.symm.trans (show _ = false from hy))) (fun _ => ?_)
  refine j_bipush (v := (-102)) iX5_be_21 (by decide) ?_
  refine j_iret iX5_be_23 rfl (by first | rfl | exact nar_bI _ | exact nar_bP) (⟨rfl, rfl⟩)
theorem c_be (hC : CW w R C sz pg ik rd ((fr, lp, lps, sn), (ks, sts, sof, sso)) K) (hV : SV fr lp sn ks sts sof sso) (j k : Nat) (hj : j < lp) (hk : k < 5) : JX 2 mX5_be [.ref 0, .int (nI j), .int (nI k)] w (fun v u => v = some (.int (nI (ks j))) ∧ CW u R C sz pg ik rd ((fr, lp, lps, sn), (un ks j k, sts, sof, sso)) K ∧ F33 w u) := by
  obtain ⟨h0, hP, hG, hS, hK, hTr, hT, hD⟩ := hC
  have hS : NOW w fr lp lps sn ks sts sof sso := hS
  obtain ⟨s3, s15, s16, s17, s18⟩ := hS
  obtain ⟨v1, v2, v3, v4, v5, v6, v7⟩ := hV
  refine j_start (ls := [.ref 0, .int (nI j), .int (nI k), .null]) rfl ?_
  refine j_aload_n iX5_be_0 rfl ?_
  refine j_get fk_X5_26 iX5_be_1 (by repeat (first | assumption | refine wset_ne (by decide) ?_ | exact wset_lt (by (try simp only [List.length_set]); exact wsome (by assumption)))) (by rfl) ?_
  refine j_iload_n iX5_be_4 rfl ?_
  refine j_V1R okX3_hasLeaper lk_X5_120 iX5_be_5 (by omega) (by repeat (first | assumption | refine wset_ne (by decide) ?_ | exact wset_lt (by (try simp only [List.length_set]); exact wsome (by assumption)))) rfl (c_hasLeaper s3 v2 _) rfl (Nat.le_of_ble_eq_true rfl) (Nat.le_of_ble_eq_true rfl) ?_
  refine j_if_neB (tgt := 14) iX5_be_8 (by decide) (fun _ => ?_) (fun hno => Bool.noConfusion (hno.symm.trans (show _ = true from by rw [inR_nI (by omega) (by omega)]; exact decide_eq_true hj)))
  refine j_iload_n iX5_be_14 rfl ?_
  refine j_S1R okX5_isKind lk_X5_152 iX5_be_15 (by omega) (c_isKind _) rfl (Nat.le_of_ble_eq_true rfl) (Nat.le_of_ble_eq_true rfl) ?_
  refine j_if_neB (tgt := 24) iX5_be_18 (by decide) (fun _ => ?_) (fun hno => Bool.noConfusion (hno.symm.trans (show _ = true from by rw [inR_nI (by omega) (by decide)]; exact decide_eq_true hk)))
  refine j_aload_n iX5_be_24 rfl ?_
  refine j_get fk_X5_26 iX5_be_25 (by repeat (first | assumption | refine wset_ne (by decide) ?_ | exact wset_lt (by (try simp only [List.length_set]); exact wsome (by assumption)))) (by rfl) ?_
  refine j_iload_n iX5_be_28 rfl ?_
  refine j_V1R okX3_kindOf lk_X5_123 iX5_be_29 (by omega) (by repeat (first | assumption | refine wset_ne (by decide) ?_ | exact wset_lt (by (try simp only [List.length_set]); exact wsome (by assumption)))) rfl (c_kindOf s3 v2 s15 j hj) rfl (Nat.le_of_ble_eq_true rfl) (Nat.le_of_ble_eq_true rfl) ?_
  refine j_istore_n iX5_be_32 (by decide) rfl ?_
  dsimp only [List.set]
  refine j_aload_n iX5_be_33 rfl ?_
  refine j_get fk_X5_26 iX5_be_34 (by repeat (first | assumption | refine wset_ne (by decide) ?_ | exact wset_lt (by (try simp only [List.length_set]); exact wsome (by assumption)))) (by rfl) ?_
  refine j_get fk_X5_97 iX5_be_37 (by repeat (first | assumption | refine wset_ne (by decide) ?_ | exact wset_lt (by (try simp only [List.length_set]); exact wsome (by assumption)))) (by rfl) ?_
  refine j_iload_n iX5_be_40 rfl ?_
  refine j_iload_n iX5_be_41 rfl ?_
  refine j_iastN iX5_be_42 (by repeat (first | assumption | refine wset_ne (by decide) ?_ | exact wset_lt (by (try simp only [List.length_set]); exact wsome (by assumption)))) (by omega) ?_
  refine j_iload_n iX5_be_43 rfl ?_
  refine j_iret iX5_be_44 rfl (by first | rfl | exact nar_bI _ | exact nar_bP) (⟨rfl, ⟨(by repeat (first | assumption | refine wset_ne (by decide) ?_ | exact wset_lt (by (try simp only [List.length_set]); exact wsome (by assumption)))), (by repeat (first | assumption | refine PW.set ?_ (by decide))), (by repeat (first | assumption | refine GW.set ?_ (by decide))), ⟨(by repeat (first | assumption | refine wset_ne (by decide) ?_ | exact wset_lt (by (try simp only [List.length_set]); exact wsome (by assumption)))), (by repeat (first | assumption | refine wset_ne (by decide) ?_ | exact wset_lt (by (try simp only [List.length_set]); exact wsome (by assumption)))), (by repeat (first | assumption | refine wset_ne (by decide) ?_ | exact wset_lt (by (try simp only [List.length_set]); exact wsome (by assumption)))), (by repeat (first | assumption | refine wset_ne (by decide) ?_ | exact wset_lt (by (try simp only [List.length_set]); exact wsome (by assumption)))), (by repeat (first | assumption | refine wset_ne (by decide) ?_ | exact wset_lt (by (try simp only [List.length_set]); exact wsome (by assumption))))⟩, (by repeat (first | assumption | refine KEPs.set ?_ (by decide))), (by repeat (first | assumption | refine TRI.set ?_ (by decide))), (by repeat (first | assumption | refine TW.set ?_ (by decide))), (by repeat (first | assumption | refine DRW.set ?_ (by decide)))⟩, (by repeat (first | exact F33.rf | refine F33.set ?_ (by decide)))⟩)
theorem c_see_u (hC : CW w R C sz pg ik rd ((fr, lp, lps, sn), (ks, sts, sof, sso)) K) (hV : SV fr lp sn ks sts sof sso) (x y z : Int32) (b : Bool) (hx : inR x lp = false) : JR 3 mX5_see [.ref 0, .int x, .int y, .int z, .int (bI b)] w (.int (-101)) w := by
  obtain ⟨h0, -, hG, hS, -⟩ := hC
  have hS : NOW w fr lp lps sn ks sts sof sso := hS
  obtain ⟨s3, s15, s16, s17, s18⟩ := hS
  obtain ⟨v1, v2, v3, v4, v5, v6, v7⟩ := hV
  refine j_start (ls := [.ref 0, .int x, .int y, .int z, .int (bI b), .null]) rfl ?_
  refine j_aload_n iX5_see_0 rfl ?_
  refine j_get fk_X5_26 iX5_see_1 (by repeat (first | assumption | refine wset_ne (by decide) ?_ | exact wset_lt (by (try simp only [List.length_set]); exact wsome (by assumption)))) (by rfl) ?_
  refine j_iload_n iX5_see_4 rfl ?_
  refine j_V1R okX3_hasLeaper lk_X5_120 iX5_see_5 (by omega) (by repeat (first | assumption | refine wset_ne (by decide) ?_ | exact wset_lt (by (try simp only [List.length_set]); exact wsome (by assumption)))) rfl (c_hasLeaper s3 v2 x) rfl (Nat.le_of_ble_eq_true rfl) (Nat.le_of_ble_eq_true rfl) ?_
  refine j_if_neB (tgt := 14) iX5_see_8 (by decide) (fun hno => Bool.noConfusion (hno.symm.trans (show _ = false from hx))) (fun _ => ?_)
  refine j_bipush (v := (-101)) iX5_see_11 (by decide) ?_
  refine j_iret iX5_see_13 rfl (by first | rfl | exact nar_bI _ | exact nar_bP) (⟨rfl, rfl⟩)
theorem c_see_o (hC : CW w R C sz pg ik rd ((fr, lp, lps, sn), (ks, sts, sof, sso)) K) (hV : SV fr lp sn ks sts sof sso) (x y z : Int32) (b : Bool) (hx : inR x lp = true) (hy : inR y 4 = false ∨ inR z 4 = false) : JR 3 mX5_see [.ref 0, .int x, .int y, .int z, .int (bI b)] w (.int (-102)) w := by
  obtain ⟨h0, -, hG, hS, -⟩ := hC
  have hS : NOW w fr lp lps sn ks sts sof sso := hS
  obtain ⟨s3, s15, s16, s17, s18⟩ := hS
  obtain ⟨v1, v2, v3, v4, v5, v6, v7⟩ := hV
  refine j_start (ls := [.ref 0, .int x, .int y, .int z, .int (bI b), .null]) rfl ?_
  refine j_aload_n iX5_see_0 rfl ?_
  refine j_get fk_X5_26 iX5_see_1 (by repeat (first | assumption | refine wset_ne (by decide) ?_ | exact wset_lt (by (try simp only [List.length_set]); exact wsome (by assumption)))) (by rfl) ?_
  refine j_iload_n iX5_see_4 rfl ?_
  refine j_V1R okX3_hasLeaper lk_X5_120 iX5_see_5 (by omega) (by repeat (first | assumption | refine wset_ne (by decide) ?_ | exact wset_lt (by (try simp only [List.length_set]); exact wsome (by assumption)))) rfl (c_hasLeaper s3 v2 x) rfl (Nat.le_of_ble_eq_true rfl) (Nat.le_of_ble_eq_true rfl) ?_
  refine j_if_neB (tgt := 14) iX5_see_8 (by decide) (fun _ => ?_) (fun hno => Bool.noConfusion (hno.symm.trans (show _ = true from hx)))
  refine j_iload_n iX5_see_14 rfl ?_
  refine j_if_lt (tgt := 32) iX5_see_15 (by decide) (fun h15 => ?_) (fun h15 => ?_)
  · refine j_bipush (v := (-102)) iX5_see_32 (by decide) ?_
    refine j_iret iX5_see_34 rfl (by first | rfl | exact nar_bI _ | exact nar_bP) (⟨rfl, rfl⟩)
  · refine j_iload_n iX5_see_18 rfl ?_
    refine j_iconst (v := nI 3) iX5_see_19 (by decide) ?_
    refine j_icmp_gt (tgt := 32) iX5_see_20 (by decide) (fun h20 => ?_) (fun h20 => ?_)
    · refine j_bipush (v := (-102)) iX5_see_32 (by decide) ?_
      refine j_iret iX5_see_34 rfl (by first | rfl | exact nar_bI _ | exact nar_bP) (⟨rfl, rfl⟩)
    · refine j_iload_n iX5_see_23 rfl ?_
      refine j_if_lt (tgt := 32) iX5_see_24 (by decide) (fun h24 => ?_) (fun h24 => ?_)
      · refine j_bipush (v := (-102)) iX5_see_32 (by decide) ?_
        refine j_iret iX5_see_34 rfl (by first | rfl | exact nar_bI _ | exact nar_bP) (⟨rfl, rfl⟩)
      · refine j_iload_n iX5_see_27 rfl ?_
        refine j_iconst (v := nI 3) iX5_see_28 (by decide) ?_
        refine j_icmp_le (tgt := 35) iX5_see_29 (by decide) (fun hno => by first | exact absurd hno (fun q => by rcases hy with e | e; exact inR_lt (n := 3) (by decide) e h15 (Int32.not_lt.mp h20); exact inR_lt (n := 3) (by decide) e h24 q) | exact absurd (fun q => by rcases hy with e | e; exact inR_lt (n := 3) (by decide) e h15 (Int32.not_lt.mp h20); exact inR_lt (n := 3) (by decide) e h24 q) hno) (fun _ => ?_)
        refine j_bipush (v := (-102)) iX5_see_32 (by decide) ?_
        refine j_iret iX5_see_34 rfl (by first | rfl | exact nar_bI _ | exact nar_bP) (⟨rfl, rfl⟩)
def seeS (y z : Nat) (b : Bool) : Nat := if b = true then goersF y z else ad 31 (goersF y z)
theorem c_see_f (hC : CW w R C sz pg ik rd ((fr, lp, lps, sn), (ks, sts, sof, sso)) K) (hV : SV fr lp sn ks sts sof sso) (x : Int32) (y z : Nat) (b : Bool) (hx : inR x lp = true) (hy : y < 4) (hz : z < 4) (hsn : sn = 6) : JR 3 mX5_see [.ref 0, .int x, .int (nI y), .int (nI z), .int (bI b)] w (.int (-104)) w := by
  obtain ⟨h0, -, hG, hS, -⟩ := hC
  have hS : NOW w fr lp lps sn ks sts sof sso := hS
  obtain ⟨s3, s15, s16, s17, s18⟩ := hS
  obtain ⟨v1, v2, v3, v4, v5, v6, v7⟩ := hV
  refine j_start (ls := [.ref 0, .int x, .int (nI y), .int (nI z), .int (bI b), .null]) rfl ?_
  refine j_aload_n iX5_see_0 rfl ?_
  refine j_get fk_X5_26 iX5_see_1 (by repeat (first | assumption | refine wset_ne (by decide) ?_ | exact wset_lt (by (try simp only [List.length_set]); exact wsome (by assumption)))) (by rfl) ?_
  refine j_iload_n iX5_see_4 rfl ?_
  refine j_V1R okX3_hasLeaper lk_X5_120 iX5_see_5 (by omega) (by repeat (first | assumption | refine wset_ne (by decide) ?_ | exact wset_lt (by (try simp only [List.length_set]); exact wsome (by assumption)))) rfl (c_hasLeaper s3 v2 x) rfl (Nat.le_of_ble_eq_true rfl) (Nat.le_of_ble_eq_true rfl) ?_
  refine j_if_neB (tgt := 14) iX5_see_8 (by decide) (fun _ => ?_) (fun hno => Bool.noConfusion (hno.symm.trans (show _ = true from hx)))
  refine j_iload_n iX5_see_14 rfl ?_
  refine j_if_ltN (tgt := 32) iX5_see_15 (by decide) (by omega) (fun hno => by exfalso; omega) (fun _ => ?_)
  refine j_iload_n iX5_see_18 rfl ?_
  refine j_iconst (v := nI 3) iX5_see_19 (by decide) ?_
  refine j_icmp_gtN (tgt := 32) iX5_see_20 (by decide) (by omega) (by omega) (fun hno => by exfalso; omega) (fun _ => ?_)
  refine j_iload_n iX5_see_23 rfl ?_
  refine j_if_ltN (tgt := 32) iX5_see_24 (by decide) (by omega) (fun hno => by exfalso; omega) (fun _ => ?_)
  refine j_iload_n iX5_see_27 rfl ?_
  refine j_iconst (v := nI 3) iX5_see_28 (by decide) ?_
  refine j_icmp_leN (tgt := 35) iX5_see_29 (by decide) (by omega) (by omega) (fun _ => ?_) (fun hno => by exfalso; omega)
  refine j_iload_n iX5_see_35 rfl ?_
  refine j_iload_n iX5_see_36 rfl ?_
  refine j_S2R okX5_goers lk_X5_209 iX5_see_37 (by omega) (c_goers y z (by omega) (by omega)) rfl (Nat.le_of_ble_eq_true rfl) (Nat.le_of_ble_eq_true rfl) ?_
  refine j_istore iX5_see_40 (by decide) rfl ?_
  dsimp only [List.set]
  refine j_aload_n iX5_see_42 rfl ?_
  refine j_get fk_X5_26 iX5_see_43 (by repeat (first | assumption | refine wset_ne (by decide) ?_ | exact wset_lt (by (try simp only [List.length_set]); exact wsome (by assumption)))) (by rfl) ?_
  refine j_iload_n iX5_see_46 rfl ?_
  refine j_iload iX5_see_47 rfl ?_
  refine j_if_eqB (tgt := 57) iX5_see_49 (by decide) (fun h49 => ?_) (fun h49 => ?_)
  · refine j_bipush (v := nI 31) iX5_see_57 (by decide) ?_
    refine j_iload iX5_see_59 rfl ?_
    refine j_iconst (v := (-1)) iX5_see_61 (by decide) ?_
    refine j_ixor iX5_see_62 ?_
    refine j_iandnN iX5_see_63 ?_
    refine j_V2R okX3_note lk_X5_213 iX5_see_64 (by omega) (by repeat (first | assumption | refine wset_ne (by decide) ?_ | exact wset_lt (by (try simp only [List.length_set]); exact wsome (by assumption)))) rfl (c_note6 s3 _ _ hsn) rfl (Nat.le_of_ble_eq_true rfl) (Nat.le_of_ble_eq_true rfl) ?_
    refine j_if_eqB (tgt := 80) iX5_see_67 (by decide) (fun _ => ?_) (fun hno => Bool.noConfusion (hno.symm.trans (show _ = false from rfl)))
    refine j_bipush (v := (-104)) iX5_see_80 (by decide) ?_
    refine j_iret iX5_see_82 rfl (by first | rfl | exact nar_bI _ | exact nar_bP) (⟨rfl, rfl⟩)
  · refine j_iload iX5_see_52 rfl ?_
    refine j_goto (tgt := 64) iX5_see_54 (by decide) ?_
    refine j_V2R okX3_note lk_X5_213 iX5_see_64 (by omega) (by repeat (first | assumption | refine wset_ne (by decide) ?_ | exact wset_lt (by (try simp only [List.length_set]); exact wsome (by assumption)))) rfl (c_note6 s3 _ _ hsn) rfl (Nat.le_of_ble_eq_true rfl) (Nat.le_of_ble_eq_true rfl) ?_
    refine j_if_eqB (tgt := 80) iX5_see_67 (by decide) (fun _ => ?_) (fun hno => Bool.noConfusion (hno.symm.trans (show _ = false from rfl)))
    refine j_bipush (v := (-104)) iX5_see_80 (by decide) ?_
    refine j_iret iX5_see_82 rfl (by first | rfl | exact nar_bI _ | exact nar_bP) (⟨rfl, rfl⟩)
theorem c_see (hC : CW w R C sz pg ik rd ((fr, lp, lps, sn), (ks, sts, sof, sso)) K) (hV : SV fr lp sn ks sts sof sso) (j y z : Nat) (b : Bool) (hj : j < lp) (hy : y < 4) (hz : z < 4) (hsn : sn < 6) : JX 3 mX5_see [.ref 0, .int (nI j), .int (nI y), .int (nI z), .int (bI b)] w (fun v u => v = some (.int (nI (sn + 1))) ∧ CW u R C sz pg ik rd ((fr, lp, lps, sn + 1), (ks, sts, un sof sn j, un sso sn (seeS y z b))) K ∧ F33 w u) := by
  obtain ⟨h0, hP, hG, hS, hK, hTr, hT, hD⟩ := hC
  have hS : NOW w fr lp lps sn ks sts sof sso := hS
  obtain ⟨s3, s15, s16, s17, s18⟩ := hS
  obtain ⟨v1, v2, v3, v4, v5, v6, v7⟩ := hV
  have K64 : ∀ q : Nat, q = seeS y z b → J 3 mX5_see 64 [.ref 0, .int (nI j), .int (nI y), .int (nI z), .int (bI b), .int (nI (goersF y z))] [.int (nI q), .int (nI j), .ref 3] w (fun v u => v = some (.int (nI (sn + 1))) ∧ CW u R C sz pg ik rd ((fr, lp, lps, sn + 1), (ks, sts, un sof sn j, un sso sn (seeS y z b))) K ∧ F33 w u) := by
    intro q hq
    refine j_V2R okX3_note lk_X5_213 iX5_see_64 (by omega) (by repeat (first | assumption | refine wset_ne (by decide) ?_ | exact wset_lt (by (try simp only [List.length_set]); exact wsome (by assumption)))) rfl (c_note s3 s17 s18 (by decide) (by decide) (by decide) j q hsn) rfl (Nat.le_of_ble_eq_true rfl) (Nat.le_of_ble_eq_true rfl) ?_
    refine j_if_eqB (tgt := 80) iX5_see_67 (by decide) (fun hno => Bool.noConfusion (hno.symm.trans (show _ = true from rfl))) (fun _ => ?_)
    refine j_aload_n iX5_see_70 rfl ?_
    refine j_get fk_X5_26 iX5_see_71 (by repeat (first | assumption | refine wset_ne (by decide) ?_ | exact wset_lt (by (try simp only [List.length_set]); exact wsome (by assumption)))) (by rfl) ?_
    refine j_get fk_X5_114 iX5_see_74 (by repeat (first | assumption | refine wset_ne (by decide) ?_ | exact wset_lt (by (try simp only [List.length_set]); exact wsome (by assumption)))) (by rfl) ?_
    refine j_goto (tgt := 82) iX5_see_77 (by decide) ?_
    refine j_iret iX5_see_82 rfl (by first | rfl | exact nar_bI _ | exact nar_bP) (⟨rfl, ⟨(by repeat (first | assumption | refine wset_ne (by decide) ?_ | exact wset_lt (by (try simp only [List.length_set]); exact wsome (by assumption)))), (by repeat (first | assumption | refine PW.set ?_ (by decide))), (by repeat (first | assumption | refine GW.set ?_ (by decide))), ⟨(by repeat (first | assumption | refine wset_ne (by decide) ?_ | exact wset_lt (by (try simp only [List.length_set]); exact wsome (by assumption)))), (by repeat (first | assumption | refine wset_ne (by decide) ?_ | exact wset_lt (by (try simp only [List.length_set]); exact wsome (by assumption)))), (by repeat (first | assumption | refine wset_ne (by decide) ?_ | exact wset_lt (by (try simp only [List.length_set]); exact wsome (by assumption)))), (by repeat (first | assumption | refine wset_ne (by decide) ?_ | exact wset_lt (by (try simp only [List.length_set]); exact wsome (by assumption)))), by rw [← hq]; exact (by repeat (first | assumption | refine wset_ne (by decide) ?_ | exact wset_lt (by (try simp only [List.length_set]); exact wsome (by assumption))))⟩, (by repeat (first | assumption | refine KEPs.set ?_ (by decide))), (by repeat (first | assumption | refine TRI.set ?_ (by decide))), (by repeat (first | assumption | refine TW.set ?_ (by decide))), (by repeat (first | assumption | refine DRW.set ?_ (by decide)))⟩, (by repeat (first | exact F33.rf | refine F33.set ?_ (by decide)))⟩)
  refine j_start (ls := [.ref 0, .int (nI j), .int (nI y), .int (nI z), .int (bI b), .null]) rfl ?_
  refine j_aload_n iX5_see_0 rfl ?_
  refine j_get fk_X5_26 iX5_see_1 (by repeat (first | assumption | refine wset_ne (by decide) ?_ | exact wset_lt (by (try simp only [List.length_set]); exact wsome (by assumption)))) (by rfl) ?_
  refine j_iload_n iX5_see_4 rfl ?_
  refine j_V1R okX3_hasLeaper lk_X5_120 iX5_see_5 (by omega) (by repeat (first | assumption | refine wset_ne (by decide) ?_ | exact wset_lt (by (try simp only [List.length_set]); exact wsome (by assumption)))) rfl (c_hasLeaper s3 v2 _) rfl (Nat.le_of_ble_eq_true rfl) (Nat.le_of_ble_eq_true rfl) ?_
  refine j_if_neB (tgt := 14) iX5_see_8 (by decide) (fun _ => ?_) (fun hno => Bool.noConfusion (hno.symm.trans (show _ = true from by rw [inR_nI (by omega) (by omega)]; exact decide_eq_true hj)))
  refine j_iload_n iX5_see_14 rfl ?_
  refine j_if_ltN (tgt := 32) iX5_see_15 (by decide) (by omega) (fun hno => by exfalso; omega) (fun _ => ?_)
  refine j_iload_n iX5_see_18 rfl ?_
  refine j_iconst (v := nI 3) iX5_see_19 (by decide) ?_
  refine j_icmp_gtN (tgt := 32) iX5_see_20 (by decide) (by omega) (by omega) (fun hno => by exfalso; omega) (fun _ => ?_)
  refine j_iload_n iX5_see_23 rfl ?_
  refine j_if_ltN (tgt := 32) iX5_see_24 (by decide) (by omega) (fun hno => by exfalso; omega) (fun _ => ?_)
  refine j_iload_n iX5_see_27 rfl ?_
  refine j_iconst (v := nI 3) iX5_see_28 (by decide) ?_
  refine j_icmp_leN (tgt := 35) iX5_see_29 (by decide) (by omega) (by omega) (fun _ => ?_) (fun hno => by exfalso; omega)
  refine j_iload_n iX5_see_35 rfl ?_
  refine j_iload_n iX5_see_36 rfl ?_
  refine j_S2R okX5_goers lk_X5_209 iX5_see_37 (by omega) (c_goers y z (by omega) (by omega)) rfl (Nat.le_of_ble_eq_true rfl) (Nat.le_of_ble_eq_true rfl) ?_
  refine j_istore iX5_see_40 (by decide) rfl ?_
  dsimp only [List.set]
  refine j_aload_n iX5_see_42 rfl ?_
  refine j_get fk_X5_26 iX5_see_43 (by repeat (first | assumption | refine wset_ne (by decide) ?_ | exact wset_lt (by (try simp only [List.length_set]); exact wsome (by assumption)))) (by rfl) ?_
  refine j_iload_n iX5_see_46 rfl ?_
  refine j_iload iX5_see_47 rfl ?_
  refine j_if_eqB (tgt := 57) iX5_see_49 (by decide) (fun h49 => ?_) (fun h49 => ?_)
  · refine j_bipush (v := nI 31) iX5_see_57 (by decide) ?_
    refine j_iload iX5_see_59 rfl ?_
    refine j_iconst (v := (-1)) iX5_see_61 (by decide) ?_
    refine j_ixor iX5_see_62 ?_
    refine j_iandnN iX5_see_63 ?_
    exact K64 _ (by unfold seeS; first | rw [if_neg (nt h49)] | rw [if_pos h49])
  · refine j_iload iX5_see_52 rfl ?_
    refine j_goto (tgt := 64) iX5_see_54 (by decide) ?_
    exact K64 _ (by unfold seeS; first | rw [if_neg (nt h49)] | rw [if_pos h49])
theorem c_forget (hC : CW w R C sz pg ik rd ((fr, lp, lps, sn), (ks, sts, sof, sso)) K) : JX 0 mX5_forget [.ref 0] w (fun v u => v = some (.int (nI sn)) ∧ CW u R C sz pg ik rd ((fr, lp, lps, 0), (ks, sts, sof, sso)) K ∧ F33 w u) := by
  obtain ⟨h0, hP, hG, hS, hK, hTr, hT, hD⟩ := hC
  have hS : NOW w fr lp lps sn ks sts sof sso := hS
  obtain ⟨s3, s15, s16, s17, s18⟩ := hS
  refine j_start (ls := [.ref 0, .null]) rfl ?_
  refine j_aload_n iX5_forget_0 rfl ?_
  refine j_get fk_X5_26 iX5_forget_1 (by repeat (first | assumption | refine wset_ne (by decide) ?_ | exact wset_lt (by (try simp only [List.length_set]); exact wsome (by assumption)))) (by rfl) ?_
  refine j_get fk_X5_114 iX5_forget_4 (by repeat (first | assumption | refine wset_ne (by decide) ?_ | exact wset_lt (by (try simp only [List.length_set]); exact wsome (by assumption)))) (by rfl) ?_
  refine j_istore_n iX5_forget_7 (by decide) rfl ?_
  dsimp only [List.set]
  refine j_aload_n iX5_forget_8 rfl ?_
  refine j_get fk_X5_26 iX5_forget_9 (by repeat (first | assumption | refine wset_ne (by decide) ?_ | exact wset_lt (by (try simp only [List.length_set]); exact wsome (by assumption)))) (by rfl) ?_
  refine j_iconst (v := nI 0) iX5_forget_12 (by decide) ?_
  refine j_put fk_X5_114 iX5_forget_13 (by repeat (first | assumption | refine wset_ne (by decide) ?_ | exact wset_lt (by (try simp only [List.length_set]); exact wsome (by assumption)))) (by intro; rfl) (by intro; rfl) (Nat.le_of_ble_eq_true rfl) ?_
  dsimp only [List.set]
  refine j_iload_n iX5_forget_16 rfl ?_
  refine j_iret iX5_forget_17 rfl (by first | rfl | exact nar_bI _ | exact nar_bP) (⟨rfl, ⟨(by repeat (first | assumption | refine wset_ne (by decide) ?_ | exact wset_lt (by (try simp only [List.length_set]); exact wsome (by assumption)))), (by repeat (first | assumption | refine PW.set ?_ (by decide))), (by repeat (first | assumption | refine GW.set ?_ (by decide))), ⟨(by repeat (first | assumption | refine wset_ne (by decide) ?_ | exact wset_lt (by (try simp only [List.length_set]); exact wsome (by assumption)))), (by repeat (first | assumption | refine wset_ne (by decide) ?_ | exact wset_lt (by (try simp only [List.length_set]); exact wsome (by assumption)))), (by repeat (first | assumption | refine wset_ne (by decide) ?_ | exact wset_lt (by (try simp only [List.length_set]); exact wsome (by assumption)))), (by repeat (first | assumption | refine wset_ne (by decide) ?_ | exact wset_lt (by (try simp only [List.length_set]); exact wsome (by assumption)))), (by repeat (first | assumption | refine wset_ne (by decide) ?_ | exact wset_lt (by (try simp only [List.length_set]); exact wsome (by assumption))))⟩, (by repeat (first | assumption | refine KEPs.set ?_ (by decide))), (by repeat (first | assumption | refine TRI.set ?_ (by decide))), (by repeat (first | assumption | refine TW.set ?_ (by decide))), (by repeat (first | assumption | refine DRW.set ?_ (by decide)))⟩, (by repeat (first | exact F33.rf | refine F33.set ?_ (by decide)))⟩)
theorem c_image_s (hC : CW w R C sz pg ik rd ((fr, 0, lps, sn), (ks, sts, sof, sso)) K) : JR 1 mX5_image [.ref 0] w (.int (-103)) w := by
  obtain ⟨h0, hP, hG, hS, hK, hTr, hT, hD⟩ := hC
  have hS : NOW w fr 0 lps sn ks sts sof sso := hS
  obtain ⟨s3, s15, s16, s17, s18⟩ := hS
  refine j_start (ls := [.ref 0]) rfl ?_
  refine j_aload_n iX5_image_0 rfl ?_
  refine j_get fk_X5_26 iX5_image_1 (by repeat (first | assumption | refine wset_ne (by decide) ?_ | exact wset_lt (by (try simp only [List.length_set]); exact wsome (by assumption)))) (by rfl) ?_
  refine j_V0R okX3_isThere lk_X5_184 iX5_image_4 (by omega) (by repeat (first | assumption | refine wset_ne (by decide) ?_ | exact wset_lt (by (try simp only [List.length_set]); exact wsome (by assumption)))) rfl (c_isThere s3 (by decide)) rfl (Nat.le_of_ble_eq_true rfl) (Nat.le_of_ble_eq_true rfl) ?_
  refine j_if_neB (tgt := 13) iX5_image_7 (by decide) (fun hno => Bool.noConfusion (hno.symm.trans (show _ = false from rfl))) (fun _ => ?_)
  refine j_bipush (v := (-103)) iX5_image_10 (by decide) ?_
  refine j_iret iX5_image_12 rfl (by first | rfl | exact nar_bI _ | exact nar_bP) (⟨rfl, rfl⟩)
theorem c_image (hC : CW w R C sz pg ik rd ((fr, lp, lps, sn), (ks, sts, sof, sso)) K) (hl : 0 < lp) (hl4 : lp ≤ 4) : JX 1 mX5_image [.ref 0] w (fun v u => v = some (.int (nI lps)) ∧ CW u R C sz pg true rd ((fr, lp, lps, sn), (ks, sts, sof, sso)) ((fr, lp, lps, sn), (ks, sts, sof, sso)) ∧ F33 w u) := by
  obtain ⟨h0, hP, hG, hS, hK, hTr, hT, hD⟩ := hC
  have hS : NOW w fr lp lps sn ks sts sof sso := hS
  obtain ⟨s3, s15, s16, s17, s18⟩ := hS
  obtain ⟨⟨fr2, lp2, lps2, sn2⟩, ks2, sts2, sof2, sso2⟩ := K
  have hK : KEP w fr2 lp2 lps2 sn2 ks2 sts2 sof2 sso2 := hK
  obtain ⟨k4, k19, k20, k21, k22⟩ := hK
  refine j_start (ls := [.ref 0]) rfl ?_
  refine j_aload_n iX5_image_0 rfl ?_
  refine j_get fk_X5_26 iX5_image_1 (by repeat (first | assumption | refine wset_ne (by decide) ?_ | exact wset_lt (by (try simp only [List.length_set]); exact wsome (by assumption)))) (by rfl) ?_
  refine j_V0R okX3_isThere lk_X5_184 iX5_image_4 (by omega) (by repeat (first | assumption | refine wset_ne (by decide) ?_ | exact wset_lt (by (try simp only [List.length_set]); exact wsome (by assumption)))) rfl (c_isThere s3 hl4) rfl (Nat.le_of_ble_eq_true rfl) (Nat.le_of_ble_eq_true rfl) ?_
  refine j_if_neB (tgt := 13) iX5_image_7 (by decide) (fun _ => ?_) (fun hno => Bool.noConfusion (hno.symm.trans (show _ = true from decide_eq_true hl)))
  refine j_aload_n iX5_image_13 rfl ?_
  refine j_get fk_X5_30 iX5_image_14 (by repeat (first | assumption | refine wset_ne (by decide) ?_ | exact wset_lt (by (try simp only [List.length_set]); exact wsome (by assumption)))) (by rfl) ?_
  refine j_aload_n iX5_image_17 rfl ?_
  refine j_get fk_X5_26 iX5_image_18 (by repeat (first | assumption | refine wset_ne (by decide) ?_ | exact wset_lt (by (try simp only [List.length_set]); exact wsome (by assumption)))) (by rfl) ?_
  refine j_V1U (r := .null) okX3_copy lk_X5_226 iX5_image_21 (by omega) (by repeat (first | assumption | refine wset_ne (by decide) ?_ | exact wset_lt (by (try simp only [List.length_set]); exact wsome (by assumption)))) rfl (c_copy_kept k4 s3 s15 s16 s17 s18 k19 k20 k21 k22) rfl (Nat.le_of_ble_eq_true rfl) (Nat.le_of_ble_eq_true rfl) ?_
  refine j_aload_n iX5_image_24 rfl ?_
  refine j_iconst (v := nI 1) iX5_image_25 (by decide) ?_
  refine j_put fk_X5_50 iX5_image_26 (by repeat (first | assumption | refine wset_ne (by decide) ?_ | exact wset_lt (by (try simp only [List.length_set]); exact wsome (by assumption)))) (by intro; rfl) (by intro; rfl) (Nat.le_of_ble_eq_true rfl) ?_
  dsimp only [List.set]
  refine j_aload_n iX5_image_29 rfl ?_
  refine j_get fk_X5_30 iX5_image_30 (by repeat (first | assumption | refine wset_ne (by decide) ?_ | exact wset_lt (by (try simp only [List.length_set]); exact wsome (by assumption)))) (by rfl) ?_
  refine j_get fk_X5_111 iX5_image_33 (by repeat (first | assumption | refine wset_ne (by decide) ?_ | exact wset_lt (by (try simp only [List.length_set]); exact wsome (by assumption)))) (by rfl) ?_
  refine j_iret iX5_image_36 rfl (by first | rfl | exact nar_bI _ | exact nar_bP) (⟨rfl, ⟨(by repeat (first | assumption | refine wset_ne (by decide) ?_ | exact wset_lt (by (try simp only [List.length_set]); exact wsome (by assumption)))), (by repeat (first | assumption | refine PW.set ?_ (by decide))), (by repeat (first | assumption | refine GW.set ?_ (by decide))), ⟨(by repeat (first | assumption | refine wset_ne (by decide) ?_ | exact wset_lt (by (try simp only [List.length_set]); exact wsome (by assumption)))), (by repeat (first | assumption | refine wset_ne (by decide) ?_ | exact wset_lt (by (try simp only [List.length_set]); exact wsome (by assumption)))), (by repeat (first | assumption | refine wset_ne (by decide) ?_ | exact wset_lt (by (try simp only [List.length_set]); exact wsome (by assumption)))), (by repeat (first | assumption | refine wset_ne (by decide) ?_ | exact wset_lt (by (try simp only [List.length_set]); exact wsome (by assumption)))), (by repeat (first | assumption | refine wset_ne (by decide) ?_ | exact wset_lt (by (try simp only [List.length_set]); exact wsome (by assumption))))⟩, ⟨(by repeat (first | assumption | refine wset_ne (by decide) ?_ | exact wset_lt (by (try simp only [List.length_set]); exact wsome (by assumption)))), (by repeat (first | assumption | refine wset_ne (by decide) ?_ | exact wset_lt (by (try simp only [List.length_set]); exact wsome (by assumption)))), (by repeat (first | assumption | refine wset_ne (by decide) ?_ | exact wset_lt (by (try simp only [List.length_set]); exact wsome (by assumption)))), (by repeat (first | assumption | refine wset_ne (by decide) ?_ | exact wset_lt (by (try simp only [List.length_set]); exact wsome (by assumption)))), (by repeat (first | assumption | refine wset_ne (by decide) ?_ | exact wset_lt (by (try simp only [List.length_set]); exact wsome (by assumption))))⟩, (by repeat (first | assumption | refine TRI.set ?_ (by decide))), (by repeat (first | assumption | refine TW.set ?_ (by decide))), (by repeat (first | assumption | refine DRW.set ?_ (by decide)))⟩, (by repeat (first | exact F33.rf | refine F33.set ?_ (by decide)))⟩)
theorem c_restore_s (hC : CW w R C sz pg false rd ((fr, lp, lps, sn), (ks, sts, sof, sso)) K) : JR 1 mX5_restore [.ref 0] w (.int (-103)) w := by
  obtain ⟨h0, hP, hG, hS, hK, hTr, hT, hD⟩ := hC
  refine j_start (ls := [.ref 0]) rfl ?_
  refine j_aload_n iX5_restore_0 rfl ?_
  refine j_get fk_X5_50 iX5_restore_1 (by repeat (first | assumption | refine wset_ne (by decide) ?_ | exact wset_lt (by (try simp only [List.length_set]); exact wsome (by assumption)))) (by rfl) ?_
  refine j_if_neB (tgt := 10) iX5_restore_4 (by decide) (fun hno => Bool.noConfusion (hno.symm.trans (show _ = false from rfl))) (fun _ => ?_)
  refine j_bipush (v := (-103)) iX5_restore_7 (by decide) ?_
  refine j_iret iX5_restore_9 rfl (by first | rfl | exact nar_bI _ | exact nar_bP) (⟨rfl, rfl⟩)
theorem c_restore (hC : CW w R C sz pg true rd ((fr, lp, lps, sn), (ks, sts, sof, sso)) K) : JX 1 mX5_restore [.ref 0] w (fun v u => v = some (.int (nI K.1.2.2.1)) ∧ CW u R C sz pg true rd K K ∧ F33 w u) := by
  obtain ⟨h0, hP, hG, hS, hK, hTr, hT, hD⟩ := hC
  have hS : NOW w fr lp lps sn ks sts sof sso := hS
  obtain ⟨s3, s15, s16, s17, s18⟩ := hS
  obtain ⟨⟨fr2, lp2, lps2, sn2⟩, ks2, sts2, sof2, sso2⟩ := K
  have hK : KEP w fr2 lp2 lps2 sn2 ks2 sts2 sof2 sso2 := hK
  obtain ⟨k4, k19, k20, k21, k22⟩ := hK
  refine j_start (ls := [.ref 0]) rfl ?_
  refine j_aload_n iX5_restore_0 rfl ?_
  refine j_get fk_X5_50 iX5_restore_1 (by repeat (first | assumption | refine wset_ne (by decide) ?_ | exact wset_lt (by (try simp only [List.length_set]); exact wsome (by assumption)))) (by rfl) ?_
  refine j_if_neB (tgt := 10) iX5_restore_4 (by decide) (fun _ => ?_) (fun hno => Bool.noConfusion (hno.symm.trans (show _ = true from rfl)))
  refine j_aload_n iX5_restore_10 rfl ?_
  refine j_get fk_X5_26 iX5_restore_11 (by repeat (first | assumption | refine wset_ne (by decide) ?_ | exact wset_lt (by (try simp only [List.length_set]); exact wsome (by assumption)))) (by rfl) ?_
  refine j_aload_n iX5_restore_14 rfl ?_
  refine j_get fk_X5_30 iX5_restore_15 (by repeat (first | assumption | refine wset_ne (by decide) ?_ | exact wset_lt (by (try simp only [List.length_set]); exact wsome (by assumption)))) (by rfl) ?_
  refine j_V1U (r := .null) okX3_copy lk_X5_226 iX5_restore_18 (by omega) (by repeat (first | assumption | refine wset_ne (by decide) ?_ | exact wset_lt (by (try simp only [List.length_set]); exact wsome (by assumption)))) rfl (c_copy_back s3 k4 k19 k20 k21 k22 s15 s16 s17 s18) rfl (Nat.le_of_ble_eq_true rfl) (Nat.le_of_ble_eq_true rfl) ?_
  refine j_aload_n iX5_restore_21 rfl ?_
  refine j_get fk_X5_26 iX5_restore_22 (by repeat (first | assumption | refine wset_ne (by decide) ?_ | exact wset_lt (by (try simp only [List.length_set]); exact wsome (by assumption)))) (by rfl) ?_
  refine j_get fk_X5_111 iX5_restore_25 (by repeat (first | assumption | refine wset_ne (by decide) ?_ | exact wset_lt (by (try simp only [List.length_set]); exact wsome (by assumption)))) (by rfl) ?_
  refine j_iret iX5_restore_28 rfl (by first | rfl | exact nar_bI _ | exact nar_bP) (⟨rfl, ⟨(by repeat (first | assumption | refine wset_ne (by decide) ?_ | exact wset_lt (by (try simp only [List.length_set]); exact wsome (by assumption)))), (by repeat (first | assumption | refine PW.set ?_ (by decide))), (by repeat (first | assumption | refine GW.set ?_ (by decide))), ⟨(by repeat (first | assumption | refine wset_ne (by decide) ?_ | exact wset_lt (by (try simp only [List.length_set]); exact wsome (by assumption)))), (by repeat (first | assumption | refine wset_ne (by decide) ?_ | exact wset_lt (by (try simp only [List.length_set]); exact wsome (by assumption)))), (by repeat (first | assumption | refine wset_ne (by decide) ?_ | exact wset_lt (by (try simp only [List.length_set]); exact wsome (by assumption)))), (by repeat (first | assumption | refine wset_ne (by decide) ?_ | exact wset_lt (by (try simp only [List.length_set]); exact wsome (by assumption)))), (by repeat (first | assumption | refine wset_ne (by decide) ?_ | exact wset_lt (by (try simp only [List.length_set]); exact wsome (by assumption))))⟩, ⟨(by repeat (first | assumption | refine wset_ne (by decide) ?_ | exact wset_lt (by (try simp only [List.length_set]); exact wsome (by assumption)))), (by repeat (first | assumption | refine wset_ne (by decide) ?_ | exact wset_lt (by (try simp only [List.length_set]); exact wsome (by assumption)))), (by repeat (first | assumption | refine wset_ne (by decide) ?_ | exact wset_lt (by (try simp only [List.length_set]); exact wsome (by assumption)))), (by repeat (first | assumption | refine wset_ne (by decide) ?_ | exact wset_lt (by (try simp only [List.length_set]); exact wsome (by assumption)))), (by repeat (first | assumption | refine wset_ne (by decide) ?_ | exact wset_lt (by (try simp only [List.length_set]); exact wsome (by assumption))))⟩, (by repeat (first | assumption | refine TRI.set ?_ (by decide))), (by repeat (first | assumption | refine TW.set ?_ (by decide))), (by repeat (first | assumption | refine DRW.set ?_ (by decide)))⟩, (by repeat (first | exact F33.rf | refine F33.set ?_ (by decide)))⟩)
/-! walks -/
theorem c_walks_o (x y z : Int32) (h : x < 1 ∨ nI 60 < x ∨ y < 0 ∨ inR z 3 = false) : JR 7 mX5_walks [.ref 0, .int x, .int y, .int z] w (.int (-102)) w := by
  refine j_start (ls := [.ref 0, .int x, .int y, .int z]) rfl ?_
  refine j_iload_n iX5_walks_0 rfl ?_
  refine j_iconst (v := nI 1) iX5_walks_1 (by decide) ?_
  refine j_icmp_lt (tgt := 24) iX5_walks_2 (by decide) (fun h2 => ?_) (fun h2 => ?_)
  · refine j_bipush (v := (-102)) iX5_walks_24 (by decide) ?_
    refine j_iret iX5_walks_26 rfl (by first | rfl | exact nar_bI _ | exact nar_bP) (⟨rfl, rfl⟩)
  · refine j_iload_n iX5_walks_5 rfl ?_
    refine j_bipush (v := nI 60) iX5_walks_6 (by decide) ?_
    refine j_icmp_gt (tgt := 24) iX5_walks_8 (by decide) (fun h8 => ?_) (fun h8 => ?_)
    · refine j_bipush (v := (-102)) iX5_walks_24 (by decide) ?_
      refine j_iret iX5_walks_26 rfl (by first | rfl | exact nar_bI _ | exact nar_bP) (⟨rfl, rfl⟩)
    · refine j_iload_n iX5_walks_11 rfl ?_
      refine j_if_lt (tgt := 24) iX5_walks_12 (by decide) (fun h12 => ?_) (fun h12 => ?_)
      · refine j_bipush (v := (-102)) iX5_walks_24 (by decide) ?_
        refine j_iret iX5_walks_26 rfl (by first | rfl | exact nar_bI _ | exact nar_bP) (⟨rfl, rfl⟩)
      · refine j_iload_n iX5_walks_15 rfl ?_
        refine j_if_lt (tgt := 24) iX5_walks_16 (by decide) (fun h16 => ?_) (fun h16 => ?_)
        · refine j_bipush (v := (-102)) iX5_walks_24 (by decide) ?_
          refine j_iret iX5_walks_26 rfl (by first | rfl | exact nar_bI _ | exact nar_bP) (⟨rfl, rfl⟩)
        · refine j_iload_n iX5_walks_19 rfl ?_
          refine j_iconst (v := nI 2) iX5_walks_20 (by decide) ?_
          refine j_icmp_le (tgt := 27) iX5_walks_21 (by decide) (fun hno => by first | exact absurd hno (fun q => by rcases h with e | e | e | e; exact h2 e; exact h8 e; exact h12 e; exact inR_lt (n := 2) (by decide) e h16 q) | exact absurd (fun q => by rcases h with e | e | e | e; exact h2 e; exact h8 e; exact h12 e; exact inR_lt (n := 2) (by decide) e h16 q) hno) (fun _ => ?_)
          refine j_bipush (v := (-102)) iX5_walks_24 (by decide) ?_
          refine j_iret iX5_walks_26 rfl (by first | rfl | exact nar_bI _ | exact nar_bP) (⟨rfl, rfl⟩)
theorem c_walks_s (hC : CW w R C sz pg ik rd ((fr, 0, lps, sn), (ks, sts, sof, sso)) K) (n sd k : Nat) (h1 : 1 ≤ n) (h2 : n ≤ 60) (hsd : sd < 2 ^ 31) (hk : k < 3) : JR 7 mX5_walks [.ref 0, .int (nI n), .int (nI sd), .int (nI k)] w (.int (-103)) w := by
  obtain ⟨h0, hP, hG, hS, hK, hTr, hT, hD⟩ := hC
  have hS : NOW w fr 0 lps sn ks sts sof sso := hS
  obtain ⟨s3, s15, s16, s17, s18⟩ := hS
  refine j_start (ls := [.ref 0, .int (nI n), .int (nI sd), .int (nI k)]) rfl ?_
  refine j_iload_n iX5_walks_0 rfl ?_
  refine j_iconst (v := nI 1) iX5_walks_1 (by decide) ?_
  refine j_icmp_ltN (tgt := 24) iX5_walks_2 (by decide) (by omega) (by omega) (fun hno => by exfalso; omega) (fun _ => ?_)
  refine j_iload_n iX5_walks_5 rfl ?_
  refine j_bipush (v := nI 60) iX5_walks_6 (by decide) ?_
  refine j_icmp_gtN (tgt := 24) iX5_walks_8 (by decide) (by omega) (by omega) (fun hno => by exfalso; omega) (fun _ => ?_)
  refine j_iload_n iX5_walks_11 rfl ?_
  refine j_if_ltN (tgt := 24) iX5_walks_12 (by decide) (by omega) (fun hno => by exfalso; omega) (fun _ => ?_)
  refine j_iload_n iX5_walks_15 rfl ?_
  refine j_if_ltN (tgt := 24) iX5_walks_16 (by decide) (by omega) (fun hno => by exfalso; omega) (fun _ => ?_)
  refine j_iload_n iX5_walks_19 rfl ?_
  refine j_iconst (v := nI 2) iX5_walks_20 (by decide) ?_
  refine j_icmp_leN (tgt := 27) iX5_walks_21 (by decide) (by omega) (by omega) (fun _ => ?_) (fun hno => by exfalso; omega)
  refine j_aload_n iX5_walks_27 rfl ?_
  refine j_get fk_X5_26 iX5_walks_28 (by repeat (first | assumption | refine wset_ne (by decide) ?_ | exact wset_lt (by (try simp only [List.length_set]); exact wsome (by assumption)))) (by rfl) ?_
  refine j_V0R okX3_isThere lk_X5_184 iX5_walks_31 (by omega) (by repeat (first | assumption | refine wset_ne (by decide) ?_ | exact wset_lt (by (try simp only [List.length_set]); exact wsome (by assumption)))) rfl (c_isThere s3 (by decide)) rfl (Nat.le_of_ble_eq_true rfl) (Nat.le_of_ble_eq_true rfl) ?_
  refine j_if_neB (tgt := 40) iX5_walks_34 (by decide) (fun hno => Bool.noConfusion (hno.symm.trans (show _ = false from rfl))) (fun _ => ?_)
  refine j_bipush (v := (-103)) iX5_walks_37 (by decide) ?_
  refine j_iret iX5_walks_39 rfl (by first | rfl | exact nar_bI _ | exact nar_bP) (⟨rfl, rfl⟩)
end
/-- a walk: seed, where they stand, how many leaps -/
def wkStep (C N fr lp : Nat) (ks : Nat → Nat) (s : Nat × (Nat → Nat) × Nat) : Nat × (Nat → Nat) × Nat :=
  if gol C N fr lp ks s.2.1 (nsd s.1 / 65536 % lp) = 0 then (nsd s.1, s.2.1, s.2.2)
  else (nsd (nsd s.1), un s.2.1 (nsd s.1 / 65536 % lp) (nthD (gol C N fr lp ks s.2.1 (nsd s.1 / 65536 % lp)) (nsd (nsd s.1) / 65536 % pop (gol C N fr lp ks s.2.1 (nsd s.1 / 65536 % lp)))), s.2.2 + 1)
def wkFrom (C N fr lp : Nat) (ks : Nat → Nat) : Nat → Nat × (Nat → Nat) × Nat → Nat × (Nat → Nat) × Nat
  | 0, s => s
  | n + 1, s => wkFrom C N fr lp ks n (wkStep C N fr lp ks s)
def walksV (C N fr lp : Nat) (ks sts : Nat → Nat) (n sd k : Nat) : Nat :=
  match k with
  | 0 => (wkFrom C N fr lp ks n (sd, sts, 0)).2.2
  | 1 => pop (weF C N fr lp ks (wkFrom C N fr lp ks n (sd, sts, 0)).2.1)
  | _ => (wkFrom C N fr lp ks n (sd, sts, 0)).1
theorem wk_ok {C N fr lp : Nat} {ks : Nat → Nat} : ∀ (n : Nat) (s : Nat × (Nat → Nat) × Nat), fr < 4096 → (∀ i, s.2.1 i < 12) → s.1 < 2 ^ 31 → (∀ i, (wkFrom C N fr lp ks n s).2.1 i < 12) ∧ (wkFrom C N fr lp ks n s).1 < 2 ^ 31 := by
  intro n
  induction n with
  | zero => intro s _ h1 h2; exact ⟨h1, h2⟩
  | succ n ih =>
    intro s hf h1 h2
    refine ih _ hf ?_ ?_
    · intro i
      unfold wkStep
      split
      · exact h1 i
      · rename_i hg
        unfold un
        simp only
        split
        · exact (nth_spec (Nat.mod_lt _ (pop_pos (gol_b hf _) hg))).2.1
        · exact h1 i
    · unfold wkStep
      split
      · exact nsd_lt _
      · exact nsd_lt _
section
variable {w : mW} {R C sz rd fr lp lps sn : Nat} {pg ks sts sof sso : Nat → Nat} {ik : Bool} {K : Sc}
def tw (v : mW) (fr lp sn : Nat) (s : Nat × (Nat → Nat) × Nat) : mW := ((v.set 24 (nA 4 s.2.1)).set 5 (oS fr lp s.2.2 sn 23 24 25 26)).set 7 (oD s.1)
theorem c_walkTrial (hC : CW w R C sz pg ik rd ((fr, lp, lps, sn), (ks, sts, sof, sso)) K) (hN : R * C ≤ 12) (hV : SV fr lp sn ks sts sof sso) (hl : 0 < lp) (n sd : Nat) (hn : n ≤ 60) (hsd : sd < 2 ^ 31) : JX 5 mX5_walkTrial [.ref 0, .int (nI n), .int (nI sd)] w (fun v u => v = none ∧ CW u R C sz pg ik rd ((fr, lp, lps, sn), (ks, sts, sof, sso)) K ∧ F33 w u ∧ u[5]? = some (oS fr lp (wkFrom C (R * C) fr lp ks n (sd, sts, 0)).2.2 sn 23 24 25 26) ∧ u[23]? = some (nA 4 ks) ∧ u[24]? = some (nA 4 (wkFrom C (R * C) fr lp ks n (sd, sts, 0)).2.1) ∧ u[7]? = some (oD (wkFrom C (R * C) fr lp ks n (sd, sts, 0)).1)) := by
  obtain ⟨h0, hP, hG, hS, hK, ⟨a1, a2, a3, a4, a5, a6, a7, a8, t5, t23, t24, t25, t26⟩, hT, ⟨s0, hs0, d7⟩⟩ := hC
  have hS : NOW w fr lp lps sn ks sts sof sso := hS
  obtain ⟨s3, s15, s16, s17, s18⟩ := hS
  obtain ⟨v1, v2, v3, v4, v5, v6, v7⟩ := hV
  have hS : NOWs w ((fr, lp, lps, sn), (ks, sts, sof, sso)) := ⟨s3, s15, s16, s17, s18⟩
  have L : ∀ (V : mW), V[0]? = some (oB ik rd) → V[5]? = some (oS fr lp 0 sn 23 24 25 26) → V[23]? = some (nA 4 ks) → (∃ z, V[24]? = some (nA 4 z)) → V[25]? = some (nA 6 sof) → V[26]? = some (nA 6 sso) → (∃ z, V[7]? = some (oD z)) → PW V sz pg → GW V R C → NOWs V ((fr, lp, lps, sn), (ks, sts, sof, sso)) → KEPs V K → TW V → F33 w V →
      ∀ (m i : Nat) (s : Nat × (Nat → Nat) × Nat), i + m = n → (∀ i, s.2.1 i < 12) → s.1 < 2 ^ 31 → wkFrom C (R * C) fr lp ks m s = wkFrom C (R * C) fr lp ks n (sd, sts, 0) → J 5 mX5_walkTrial 29 [.ref 0, .int (nI n), .int (nI sd), .int (nI i), .null, .null] [] (tw V fr lp sn s) (fun v u => v = none ∧ CW u R C sz pg ik rd ((fr, lp, lps, sn), (ks, sts, sof, sso)) K ∧ F33 w u ∧ u[5]? = some (oS fr lp (wkFrom C (R * C) fr lp ks n (sd, sts, 0)).2.2 sn 23 24 25 26) ∧ u[23]? = some (nA 4 ks) ∧ u[24]? = some (nA 4 (wkFrom C (R * C) fr lp ks n (sd, sts, 0)).2.1) ∧ u[7]? = some (oD (wkFrom C (R * C) fr lp ks n (sd, sts, 0)).1)) := by
    intro V e0 e5 e23 e24 e25 e26 e7 eP eG eS eK eT eF m
    obtain ⟨z24, e24⟩ := e24
    obtain ⟨z7, e7⟩ := e7
    induction m with
    | zero =>
      intro i s hi hs1 hs2 he
      rw [← he]
      unfold tw
      refine j_iload_n iX5_walkTrial_29 rfl ?_
      refine j_iload_n iX5_walkTrial_30 rfl ?_
      refine j_icmp_geN (tgt := 125) iX5_walkTrial_31 (by decide) (by omega) (by omega) (fun _ => ?_) (fun hno => by exfalso; omega)
      refine j_vret iX5_walkTrial_125 rfl (⟨rfl, ⟨(by repeat (first | assumption | refine wset_ne (by decide) ?_ | exact wset_lt (by (try simp only [List.length_set]); exact wsome (by assumption)))), (by repeat (first | assumption | refine PW.set ?_ (by decide))), (by repeat (first | assumption | refine GW.set ?_ (by decide))), (by repeat (first | assumption | refine NOWs.set ?_ (by decide))), (by repeat (first | assumption | refine KEPs.set ?_ (by decide))), ⟨fr, lp, s.2.2, sn, ks, s.2.1, sof, sso, (by repeat (first | assumption | refine wset_ne (by decide) ?_ | exact wset_lt (by (try simp only [List.length_set]); exact wsome (by assumption)))), (by repeat (first | assumption | refine wset_ne (by decide) ?_ | exact wset_lt (by (try simp only [List.length_set]); exact wsome (by assumption)))), (by repeat (first | assumption | refine wset_ne (by decide) ?_ | exact wset_lt (by (try simp only [List.length_set]); exact wsome (by assumption)))), (by repeat (first | assumption | refine wset_ne (by decide) ?_ | exact wset_lt (by (try simp only [List.length_set]); exact wsome (by assumption)))), (by repeat (first | assumption | refine wset_ne (by decide) ?_ | exact wset_lt (by (try simp only [List.length_set]); exact wsome (by assumption))))⟩, (by repeat (first | assumption | refine TW.set ?_ (by decide))), ⟨s.1, hs2, (by repeat (first | assumption | refine wset_ne (by decide) ?_ | exact wset_lt (by (try simp only [List.length_set]); exact wsome (by assumption))))⟩⟩, (by repeat (first | assumption | refine F33.set ?_ (by decide))), (by repeat (first | assumption | refine wset_ne (by decide) ?_ | exact wset_lt (by (try simp only [List.length_set]); exact wsome (by assumption)))), (by repeat (first | assumption | refine wset_ne (by decide) ?_ | exact wset_lt (by (try simp only [List.length_set]); exact wsome (by assumption)))), (by repeat (first | assumption | refine wset_ne (by decide) ?_ | exact wset_lt (by (try simp only [List.length_set]); exact wsome (by assumption)))), (by repeat (first | assumption | refine wset_ne (by decide) ?_ | exact wset_lt (by (try simp only [List.length_set]); exact wsome (by assumption))))⟩)
    | succ m ih =>
      intro i s hi hs1 hs2 he
      obtain ⟨sd1, st1, l1⟩ := s
      unfold tw
      have hl0 : nsd sd1 / 65536 % lp < lp := Nat.mod_lt _ hl
      have hgb := gol_b (C := C) (N := R * C) (lp := lp) (ks := ks) (sts := st1) v1 (nsd sd1 / 65536 % lp)
      have hG2 : GW ((((V.set 24 (nA 4 st1)).set 5 (oS fr lp l1 sn 23 24 25 26)).set 7 (oD sd1)).set 7 (oD (nsd sd1))) R C := (by repeat (first | assumption | refine GW.set ?_ (by decide)))
      have hst := wk_ok (C := C) (N := R * C) (lp := lp) (ks := ks) 1 (sd1, st1, l1) v1 hs1 hs2
      by_cases hg : gol C (R * C) fr lp ks st1 (nsd sd1 / 65536 % lp) = 0
      · have e1 : wkStep C (R * C) fr lp ks (sd1, st1, l1) = (nsd sd1, st1, l1) := by unfold wkStep; rw [if_pos hg]
        have ih2 := ih (i + 1) (nsd sd1, st1, l1) (by omega) hs1 (nsd_lt _) (by rw [← he]; simp only [wkFrom, e1])
        unfold tw at ih2
        refine j_iload_n iX5_walkTrial_29 rfl ?_
        refine j_iload_n iX5_walkTrial_30 rfl ?_
        refine j_icmp_geN (tgt := 125) iX5_walkTrial_31 (by decide) (by omega) (by omega) (fun hno => by exfalso; omega) (fun _ => ?_)
        refine j_aload_n iX5_walkTrial_34 rfl ?_
        refine j_get fk_X5_46 iX5_walkTrial_35 (by repeat (first | assumption | refine wset_ne (by decide) ?_ | exact wset_lt (by (try simp only [List.length_set]); exact wsome (by assumption)))) (by rfl) ?_
        refine j_aload_n iX5_walkTrial_38 rfl ?_
        refine j_get fk_X5_33 iX5_walkTrial_39 (by repeat (first | assumption | refine wset_ne (by decide) ?_ | exact wset_lt (by (try simp only [List.length_set]); exact wsome (by assumption)))) (by rfl) ?_
        refine j_get fk_X5_95 iX5_walkTrial_42 (by repeat (first | assumption | refine wset_ne (by decide) ?_ | exact wset_lt (by (try simp only [List.length_set]); exact wsome (by assumption)))) (by rfl) ?_
        refine j_V1R okX0_next lk_X5_283 iX5_walkTrial_45 (by omega) (by repeat (first | assumption | refine wset_ne (by decide) ?_ | exact wset_lt (by (try simp only [List.length_set]); exact wsome (by assumption)))) rfl (c_next (by repeat (first | assumption | refine wset_ne (by decide) ?_ | exact wset_lt (by (try simp only [List.length_set]); exact wsome (by assumption)))) hs2 lp hl (by omega)) rfl (Nat.le_of_ble_eq_true rfl) (Nat.le_of_ble_eq_true rfl) ?_
        refine j_istore iX5_walkTrial_48 (by decide) rfl ?_
        dsimp only [List.set]
        refine j_aload_n iX5_walkTrial_50 rfl ?_
        refine j_aload_n iX5_walkTrial_51 rfl ?_
        refine j_get fk_X5_33 iX5_walkTrial_52 (by repeat (first | assumption | refine wset_ne (by decide) ?_ | exact wset_lt (by (try simp only [List.length_set]); exact wsome (by assumption)))) (by rfl) ?_
        refine j_iload iX5_walkTrial_55 rfl ?_
        refine j_V2R okX5_goals lk_X5_129 iX5_walkTrial_57 (by omega) (by repeat (first | assumption | refine wset_ne (by decide) ?_ | exact wset_lt (by (try simp only [List.length_set]); exact wsome (by assumption)))) rfl (c_goals (by repeat (first | assumption | refine wset_ne (by decide) ?_ | exact wset_lt (by (try simp only [List.length_set]); exact wsome (by assumption)))) hG2 hN (by repeat (first | assumption | refine wset_ne (by decide) ?_ | exact wset_lt (by (try simp only [List.length_set]); exact wsome (by assumption)))) (by repeat (first | assumption | refine wset_ne (by decide) ?_ | exact wset_lt (by (try simp only [List.length_set]); exact wsome (by assumption)))) (by repeat (first | assumption | refine wset_ne (by decide) ?_ | exact wset_lt (by (try simp only [List.length_set]); exact wsome (by assumption)))) v2 v4 hs1 _ hl0) rfl (Nat.le_of_ble_eq_true rfl) (Nat.le_of_ble_eq_true rfl) ?_
        refine j_istore iX5_walkTrial_60 (by decide) rfl ?_
        dsimp only [List.set]
        refine j_iload iX5_walkTrial_62 rfl ?_
        refine j_if_eqN (tgt := 119) iX5_walkTrial_64 (by decide) (by omega) (fun _ => ?_) (fun hno => by exfalso; omega)
        refine j_iincN iX5_walkTrial_119 rfl (by decide) rfl ?_
        dsimp only [List.set]
        refine j_goto (tgt := 29) iX5_walkTrial_122 (by decide) ?_
        rw [wset2]; exact J.fg ih2 (by first | (simp [LF]; done) | (simp [LF, bI]; done))
      · have e1 : wkStep C (R * C) fr lp ks (sd1, st1, l1) = (nsd (nsd sd1), un st1 (nsd sd1 / 65536 % lp) (nthD (gol C (R * C) fr lp ks st1 (nsd sd1 / 65536 % lp)) (nsd (nsd sd1) / 65536 % pop (gol C (R * C) fr lp ks st1 (nsd sd1 / 65536 % lp)))), l1 + 1) := by unfold wkStep; rw [if_neg hg]
        have hpp := pop_pos hgb hg
        have hpl := pop_le (gol C (R * C) fr lp ks st1 (nsd sd1 / 65536 % lp))
        have hnt := nth_spec (Nat.mod_lt (nsd (nsd sd1) / 65536) hpp)
        have ih2 := ih (i + 1) (wkStep C (R * C) fr lp ks (sd1, st1, l1)) (by omega) hst.1 hst.2 he
        rw [e1] at ih2
        unfold tw at ih2
        refine j_iload_n iX5_walkTrial_29 rfl ?_
        refine j_iload_n iX5_walkTrial_30 rfl ?_
        refine j_icmp_geN (tgt := 125) iX5_walkTrial_31 (by decide) (by omega) (by omega) (fun hno => by exfalso; omega) (fun _ => ?_)
        refine j_aload_n iX5_walkTrial_34 rfl ?_
        refine j_get fk_X5_46 iX5_walkTrial_35 (by repeat (first | assumption | refine wset_ne (by decide) ?_ | exact wset_lt (by (try simp only [List.length_set]); exact wsome (by assumption)))) (by rfl) ?_
        refine j_aload_n iX5_walkTrial_38 rfl ?_
        refine j_get fk_X5_33 iX5_walkTrial_39 (by repeat (first | assumption | refine wset_ne (by decide) ?_ | exact wset_lt (by (try simp only [List.length_set]); exact wsome (by assumption)))) (by rfl) ?_
        refine j_get fk_X5_95 iX5_walkTrial_42 (by repeat (first | assumption | refine wset_ne (by decide) ?_ | exact wset_lt (by (try simp only [List.length_set]); exact wsome (by assumption)))) (by rfl) ?_
        refine j_V1R okX0_next lk_X5_283 iX5_walkTrial_45 (by omega) (by repeat (first | assumption | refine wset_ne (by decide) ?_ | exact wset_lt (by (try simp only [List.length_set]); exact wsome (by assumption)))) rfl (c_next (by repeat (first | assumption | refine wset_ne (by decide) ?_ | exact wset_lt (by (try simp only [List.length_set]); exact wsome (by assumption)))) hs2 lp hl (by omega)) rfl (Nat.le_of_ble_eq_true rfl) (Nat.le_of_ble_eq_true rfl) ?_
        refine j_istore iX5_walkTrial_48 (by decide) rfl ?_
        dsimp only [List.set]
        refine j_aload_n iX5_walkTrial_50 rfl ?_
        refine j_aload_n iX5_walkTrial_51 rfl ?_
        refine j_get fk_X5_33 iX5_walkTrial_52 (by repeat (first | assumption | refine wset_ne (by decide) ?_ | exact wset_lt (by (try simp only [List.length_set]); exact wsome (by assumption)))) (by rfl) ?_
        refine j_iload iX5_walkTrial_55 rfl ?_
        refine j_V2R okX5_goals lk_X5_129 iX5_walkTrial_57 (by omega) (by repeat (first | assumption | refine wset_ne (by decide) ?_ | exact wset_lt (by (try simp only [List.length_set]); exact wsome (by assumption)))) rfl (c_goals (by repeat (first | assumption | refine wset_ne (by decide) ?_ | exact wset_lt (by (try simp only [List.length_set]); exact wsome (by assumption)))) hG2 hN (by repeat (first | assumption | refine wset_ne (by decide) ?_ | exact wset_lt (by (try simp only [List.length_set]); exact wsome (by assumption)))) (by repeat (first | assumption | refine wset_ne (by decide) ?_ | exact wset_lt (by (try simp only [List.length_set]); exact wsome (by assumption)))) (by repeat (first | assumption | refine wset_ne (by decide) ?_ | exact wset_lt (by (try simp only [List.length_set]); exact wsome (by assumption)))) v2 v4 hs1 _ hl0) rfl (Nat.le_of_ble_eq_true rfl) (Nat.le_of_ble_eq_true rfl) ?_
        refine j_istore iX5_walkTrial_60 (by decide) rfl ?_
        dsimp only [List.set]
        refine j_iload iX5_walkTrial_62 rfl ?_
        refine j_if_eqN (tgt := 119) iX5_walkTrial_64 (by decide) (by omega) (fun hno => by exfalso; omega) (fun _ => ?_)
        refine j_aload_n iX5_walkTrial_67 rfl ?_
        refine j_get fk_X5_33 iX5_walkTrial_68 (by repeat (first | assumption | refine wset_ne (by decide) ?_ | exact wset_lt (by (try simp only [List.length_set]); exact wsome (by assumption)))) (by rfl) ?_
        refine j_iload iX5_walkTrial_71 rfl ?_
        refine j_V1R okX3_hasLeaper lk_X5_120 iX5_walkTrial_73 (by omega) (by repeat (first | assumption | refine wset_ne (by decide) ?_ | exact wset_lt (by (try simp only [List.length_set]); exact wsome (by assumption)))) rfl (c_hasLeaper (by repeat (first | assumption | refine wset_ne (by decide) ?_ | exact wset_lt (by (try simp only [List.length_set]); exact wsome (by assumption)))) v2 _) rfl (Nat.le_of_ble_eq_true rfl) (Nat.le_of_ble_eq_true rfl) ?_
        refine j_if_eqB (tgt := 119) iX5_walkTrial_76 (by decide) (fun hno => Bool.noConfusion (hno.symm.trans (show _ = true from by rw [inR_nI (by omega) (by omega)]; exact decide_eq_true hl0))) (fun _ => ?_)
        refine j_aload_n iX5_walkTrial_79 rfl ?_
        refine j_get fk_X5_33 iX5_walkTrial_80 (by repeat (first | assumption | refine wset_ne (by decide) ?_ | exact wset_lt (by (try simp only [List.length_set]); exact wsome (by assumption)))) (by rfl) ?_
        refine j_get fk_X5_105 iX5_walkTrial_83 (by repeat (first | assumption | refine wset_ne (by decide) ?_ | exact wset_lt (by (try simp only [List.length_set]); exact wsome (by assumption)))) (by rfl) ?_
        refine j_iload iX5_walkTrial_86 rfl ?_
        refine j_iload iX5_walkTrial_88 rfl ?_
        refine j_aload_n iX5_walkTrial_90 rfl ?_
        refine j_get fk_X5_46 iX5_walkTrial_91 (by repeat (first | assumption | refine wset_ne (by decide) ?_ | exact wset_lt (by (try simp only [List.length_set]); exact wsome (by assumption)))) (by rfl) ?_
        refine j_iload iX5_walkTrial_94 rfl ?_
        refine j_S1R okJ6_bitCount lk_X5_168 iX5_walkTrial_96 (by omega) (c_bitCount _ hgb) rfl (Nat.le_of_ble_eq_true rfl) (Nat.le_of_ble_eq_true rfl) ?_
        refine j_V1R okX0_next lk_X5_283 iX5_walkTrial_99 (by omega) (by repeat (first | assumption | refine wset_ne (by decide) ?_ | exact wset_lt (by (try simp only [List.length_set]); exact wsome (by assumption)))) rfl (c_next (by repeat (first | assumption | refine wset_ne (by decide) ?_ | exact wset_lt (by (try simp only [List.length_set]); exact wsome (by assumption)))) (nsd_lt _) _ hpp (by omega)) rfl (Nat.le_of_ble_eq_true rfl) (Nat.le_of_ble_eq_true rfl) ?_
        refine j_S2R okX5_nthOf lk_X5_286 iX5_walkTrial_102 (by omega) (c_nthD _ _ hgb (Nat.mod_lt _ hpp)) rfl (Nat.le_of_ble_eq_true rfl) (Nat.le_of_ble_eq_true rfl) ?_
        refine j_iastN iX5_walkTrial_105 (by repeat (first | assumption | refine wset_ne (by decide) ?_ | exact wset_lt (by (try simp only [List.length_set]); exact wsome (by assumption)))) (by omega) ?_
        refine j_aload_n iX5_walkTrial_106 rfl ?_
        refine j_get fk_X5_33 iX5_walkTrial_107 (by repeat (first | assumption | refine wset_ne (by decide) ?_ | exact wset_lt (by (try simp only [List.length_set]); exact wsome (by assumption)))) (by rfl) ?_
        refine j_dup iX5_walkTrial_110 rfl ?_
        refine j_get fk_X5_111 iX5_walkTrial_111 (by repeat (first | assumption | refine wset_ne (by decide) ?_ | exact wset_lt (by (try simp only [List.length_set]); exact wsome (by assumption)))) (by rfl) ?_
        refine j_iconst (v := nI 1) iX5_walkTrial_114 (by decide) ?_
        refine j_iaddN iX5_walkTrial_115  ?_
        refine j_put fk_X5_111 iX5_walkTrial_116 (by repeat (first | assumption | refine wset_ne (by decide) ?_ | exact wset_lt (by (try simp only [List.length_set]); exact wsome (by assumption)))) (by intro; rfl) (by intro; rfl) (Nat.le_of_ble_eq_true rfl) ?_
        dsimp only [List.set]
        refine j_iincN iX5_walkTrial_119 rfl (by decide) rfl ?_
        dsimp only [List.set]
        refine j_goto (tgt := 29) iX5_walkTrial_122 (by decide) ?_
        rw [wset2, wset2, List.set_comm _ _ (show (7 : Nat) ≠ 24 by decide), List.set_comm _ _ (show (5 : Nat) ≠ 24 by decide), wset2, List.set_comm _ _ (show (7 : Nat) ≠ 5 by decide), wset2]; exact J.fg ih2 (by first | (simp [LF]; done) | (simp [LF, bI]; done))
  refine j_start (ls := [.ref 0, .int (nI n), .int (nI sd), .null, .null, .null]) rfl ?_
  refine j_aload_n iX5_walkTrial_0 rfl ?_
  refine j_get fk_X5_33 iX5_walkTrial_1 (by repeat (first | assumption | refine wset_ne (by decide) ?_ | exact wset_lt (by (try simp only [List.length_set]); exact wsome (by assumption)))) (by rfl) ?_
  refine j_aload_n iX5_walkTrial_4 rfl ?_
  refine j_get fk_X5_26 iX5_walkTrial_5 (by repeat (first | assumption | refine wset_ne (by decide) ?_ | exact wset_lt (by (try simp only [List.length_set]); exact wsome (by assumption)))) (by rfl) ?_
  refine j_V1U (r := .null) okX3_copy lk_X5_226 iX5_walkTrial_8 (by omega) (by repeat (first | assumption | refine wset_ne (by decide) ?_ | exact wset_lt (by (try simp only [List.length_set]); exact wsome (by assumption)))) rfl (c_copy_trial t5 s3 s15 s16 s17 s18 t23 t24 t25 t26) rfl (Nat.le_of_ble_eq_true rfl) (Nat.le_of_ble_eq_true rfl) ?_
  refine j_aload_n iX5_walkTrial_11 rfl ?_
  refine j_get fk_X5_33 iX5_walkTrial_12 (by repeat (first | assumption | refine wset_ne (by decide) ?_ | exact wset_lt (by (try simp only [List.length_set]); exact wsome (by assumption)))) (by rfl) ?_
  refine j_iconst (v := nI 0) iX5_walkTrial_15 (by decide) ?_
  refine j_put fk_X5_111 iX5_walkTrial_16 (by repeat (first | assumption | refine wset_ne (by decide) ?_ | exact wset_lt (by (try simp only [List.length_set]); exact wsome (by assumption)))) (by intro; rfl) (by intro; rfl) (Nat.le_of_ble_eq_true rfl) ?_
  dsimp only [List.set]
  refine j_aload_n iX5_walkTrial_19 rfl ?_
  refine j_get fk_X5_46 iX5_walkTrial_20 (by repeat (first | assumption | refine wset_ne (by decide) ?_ | exact wset_lt (by (try simp only [List.length_set]); exact wsome (by assumption)))) (by rfl) ?_
  refine j_iload_n iX5_walkTrial_23 rfl ?_
  refine j_put fk_X5_223 iX5_walkTrial_24 (by repeat (first | assumption | refine wset_ne (by decide) ?_ | exact wset_lt (by (try simp only [List.length_set]); exact wsome (by assumption)))) (by intro; rfl) (by intro; rfl) (Nat.le_of_ble_eq_true rfl) ?_
  dsimp only [List.set]
  refine j_iconst (v := nI 0) iX5_walkTrial_27 (by decide) ?_
  refine j_istore_n iX5_walkTrial_28 (by decide) rfl ?_
  dsimp only [List.set]
  skip
  have z24 : ((((((w.set 5 (oS fr lp lps sn 23 24 25 26)).set 23 (nA 4 ks)).set 24 (nA 4 sts)).set 25 (nA 6 sof)).set 26 (nA 6 sso)).set 5 (oS fr lp 0 sn 23 24 25 26))[24]? = some (nA 4 sts) := (by repeat (first | assumption | refine wset_ne (by decide) ?_ | exact wset_lt (by (try simp only [List.length_set]); exact wsome (by assumption))))
  have z5 : ((((((w.set 5 (oS fr lp lps sn 23 24 25 26)).set 23 (nA 4 ks)).set 24 (nA 4 sts)).set 25 (nA 6 sof)).set 26 (nA 6 sso)).set 5 (oS fr lp 0 sn 23 24 25 26))[5]? = some (oS fr lp 0 sn 23 24 25 26) := (by repeat (first | assumption | refine wset_ne (by decide) ?_ | exact wset_lt (by (try simp only [List.length_set]); exact wsome (by assumption))))
  have hL := L ((((((w.set 5 (oS fr lp lps sn 23 24 25 26)).set 23 (nA 4 ks)).set 24 (nA 4 sts)).set 25 (nA 6 sof)).set 26 (nA 6 sso)).set 5 (oS fr lp 0 sn 23 24 25 26)) (by repeat (first | assumption | refine wset_ne (by decide) ?_ | exact wset_lt (by (try simp only [List.length_set]); exact wsome (by assumption)))) z5 (by repeat (first | assumption | refine wset_ne (by decide) ?_ | exact wset_lt (by (try simp only [List.length_set]); exact wsome (by assumption)))) ⟨_, z24⟩ (by repeat (first | assumption | refine wset_ne (by decide) ?_ | exact wset_lt (by (try simp only [List.length_set]); exact wsome (by assumption)))) (by repeat (first | assumption | refine wset_ne (by decide) ?_ | exact wset_lt (by (try simp only [List.length_set]); exact wsome (by assumption)))) ⟨s0, (by repeat (first | assumption | refine wset_ne (by decide) ?_ | exact wset_lt (by (try simp only [List.length_set]); exact wsome (by assumption))))⟩ (by repeat (first | assumption | refine PW.set ?_ (by decide))) (by repeat (first | assumption | refine GW.set ?_ (by decide))) (by repeat (first | assumption | refine NOWs.set ?_ (by decide))) (by repeat (first | assumption | refine KEPs.set ?_ (by decide))) (by repeat (first | assumption | refine TW.set ?_ (by decide))) (by repeat (first | exact F33.rf | refine F33.set ?_ (by decide))) n 0 (sd, sts, 0) (by omega) v5 hsd rfl
  unfold tw at hL
  rw [wset_eq z24, wset_eq z5] at hL
  exact J.fg hL (by first | (simp [LF]; done) | (simp [LF, bI]; done))
theorem c_walks (hC : CW w R C sz pg ik rd ((fr, lp, lps, sn), (ks, sts, sof, sso)) K) (hN : R * C ≤ 12) (hV : SV fr lp sn ks sts sof sso) (hl : 0 < lp) (n sd k : Nat) (h1 : 1 ≤ n) (h2 : n ≤ 60) (hsd : sd < 2 ^ 31) (hk : k < 3) : JX 7 mX5_walks [.ref 0, .int (nI n), .int (nI sd), .int (nI k)] w (fun v u => v = some (.int (nI (walksV C (R * C) fr lp ks sts n sd k))) ∧ CW u R C sz pg ik rd ((fr, lp, lps, sn), (ks, sts, sof, sso)) K ∧ F33 w u) := by
  obtain ⟨h0, -, hG, hS, -⟩ := id hC
  have hS : NOW w fr lp lps sn ks sts sof sso := hS
  obtain ⟨s3, s15, s16, s17, s18⟩ := hS
  obtain ⟨v1, v2, v3, v4, v5, v6, v7⟩ := id hV
  have hwk := wk_ok (C := C) (N := R * C) (lp := lp) (ks := ks) n (sd, sts, 0) v1 v5 hsd
  refine j_start (ls := [.ref 0, .int (nI n), .int (nI sd), .int (nI k)]) rfl ?_
  refine j_iload_n iX5_walks_0 rfl ?_
  refine j_iconst (v := nI 1) iX5_walks_1 (by decide) ?_
  refine j_icmp_ltN (tgt := 24) iX5_walks_2 (by decide) (by omega) (by omega) (fun hno => by exfalso; omega) (fun _ => ?_)
  refine j_iload_n iX5_walks_5 rfl ?_
  refine j_bipush (v := nI 60) iX5_walks_6 (by decide) ?_
  refine j_icmp_gtN (tgt := 24) iX5_walks_8 (by decide) (by omega) (by omega) (fun hno => by exfalso; omega) (fun _ => ?_)
  refine j_iload_n iX5_walks_11 rfl ?_
  refine j_if_ltN (tgt := 24) iX5_walks_12 (by decide) (by omega) (fun hno => by exfalso; omega) (fun _ => ?_)
  refine j_iload_n iX5_walks_15 rfl ?_
  refine j_if_ltN (tgt := 24) iX5_walks_16 (by decide) (by omega) (fun hno => by exfalso; omega) (fun _ => ?_)
  refine j_iload_n iX5_walks_19 rfl ?_
  refine j_iconst (v := nI 2) iX5_walks_20 (by decide) ?_
  refine j_icmp_leN (tgt := 27) iX5_walks_21 (by decide) (by omega) (by omega) (fun _ => ?_) (fun hno => by exfalso; omega)
  refine j_aload_n iX5_walks_27 rfl ?_
  refine j_get fk_X5_26 iX5_walks_28 (by repeat (first | assumption | refine wset_ne (by decide) ?_ | exact wset_lt (by (try simp only [List.length_set]); exact wsome (by assumption)))) (by rfl) ?_
  refine j_V0R okX3_isThere lk_X5_184 iX5_walks_31 (by omega) (by repeat (first | assumption | refine wset_ne (by decide) ?_ | exact wset_lt (by (try simp only [List.length_set]); exact wsome (by assumption)))) rfl (c_isThere s3 v2) rfl (Nat.le_of_ble_eq_true rfl) (Nat.le_of_ble_eq_true rfl) ?_
  refine j_if_neB (tgt := 40) iX5_walks_34 (by decide) (fun _ => ?_) (fun hno => Bool.noConfusion (hno.symm.trans (show _ = true from decide_eq_true hl)))
  refine j_aload_n iX5_walks_40 rfl ?_
  refine j_iload_n iX5_walks_41 rfl ?_
  refine j_iload_n iX5_walks_42 rfl ?_
  refine j_V2X (r := .null) (w' := []) okX5_walkTrial lk_X5_216 iX5_walks_43 (by omega) (by repeat (first | assumption | refine wset_ne (by decide) ?_ | exact wset_lt (by (try simp only [List.length_set]); exact wsome (by assumption)))) rfl (c_walkTrial hC hN hV hl n sd h2 hsd) rfl (Nat.le_of_ble_eq_true rfl) (Nat.le_of_ble_eq_true rfl) ?_
  rintro v u ⟨rfl, uC, uF, u5, u23, u24, u7⟩
  skip
  obtain ⟨u0, -, uG, -⟩ := id uC
  rcases (show k = 0 ∨ k = 1 ∨ k = 2 by omega) with rfl | rfl | rfl
  · refine j_iload_n iX5_walks_46 rfl ?_
    refine j_lsw (off := 25) (tgt := 72) iX5_walks_47 (by decide) (by decide) (by decide) ?_
    refine j_aload_n iX5_walks_72 rfl ?_
    refine j_get fk_X5_33 iX5_walks_73 (by repeat (first | assumption | refine wset_ne (by decide) ?_ | exact wset_lt (by (try simp only [List.length_set]); exact wsome (by assumption)))) (by rfl) ?_
    refine j_get fk_X5_111 iX5_walks_76 (by repeat (first | assumption | refine wset_ne (by decide) ?_ | exact wset_lt (by (try simp only [List.length_set]); exact wsome (by assumption)))) (by rfl) ?_
    refine j_iret iX5_walks_79 rfl (by first | rfl | exact nar_bI _ | exact nar_bP) (⟨rfl, uC, uF⟩)
  · refine j_iload_n iX5_walks_46 rfl ?_
    refine j_lsw (off := 33) (tgt := 80) iX5_walks_47 (by decide) (by decide) (by decide) ?_
    refine j_aload_n iX5_walks_80 rfl ?_
    refine j_aload_n iX5_walks_81 rfl ?_
    refine j_get fk_X5_33 iX5_walks_82 (by repeat (first | assumption | refine wset_ne (by decide) ?_ | exact wset_lt (by (try simp only [List.length_set]); exact wsome (by assumption)))) (by rfl) ?_
    refine j_V1R okX5_watchedEmpty lk_X5_219 iX5_walks_85 (by omega) (by repeat (first | assumption | refine wset_ne (by decide) ?_ | exact wset_lt (by (try simp only [List.length_set]); exact wsome (by assumption)))) rfl (c_watchedEmpty u0 uG hN u5 u23 u24 v1 v2 v4 hwk.1) rfl (Nat.le_of_ble_eq_true rfl) (Nat.le_of_ble_eq_true rfl) ?_
    refine j_iret iX5_walks_88 rfl (by first | rfl | exact nar_bI _ | exact nar_bP) (⟨rfl, uC, uF⟩)
  · refine j_iload_n iX5_walks_46 rfl ?_
    refine j_lsw (off := 42) (tgt := 89) iX5_walks_47 (by decide) (by decide) (by decide) ?_
    refine j_aload_n iX5_walks_89 rfl ?_
    refine j_get fk_X5_46 iX5_walks_90 (by repeat (first | assumption | refine wset_ne (by decide) ?_ | exact wset_lt (by (try simp only [List.length_set]); exact wsome (by assumption)))) (by rfl) ?_
    refine j_get fk_X5_223 iX5_walks_93 (by repeat (first | assumption | refine wset_ne (by decide) ?_ | exact wset_lt (by (try simp only [List.length_set]); exact wsome (by assumption)))) (by rfl) ?_
    refine j_iret iX5_walks_96 rfl (by first | rfl | exact nar_bI _ | exact nar_bP) (⟨rfl, uC, uF⟩)
end
