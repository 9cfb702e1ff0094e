/-! ===== the class: reads, the others ===== -/
section
variable {w : mW} {R C : Nat} {ik : Bool} {rd : Nat} {fr lp lps sn : Nat} {ks sts sof sso : Nat → Nat}
theorem c_as_u (h0 : w[0]? = some (oB ik rd)) (hS : NOW w fr lp lps sn ks sts sof sso) (hV : SV fr lp sn ks sts sof sso) (x y : Int32) (hx : inR x lp = false) : JR 2 mX5_as [.ref 0, .int x, .int y] w (.int (-101)) w := by
  obtain ⟨s3, s15, s16, s17, s18⟩ := hS
  obtain ⟨v1, v2, v3, v4, v5, v6, v7⟩ := hV
  refine j_start (ls := [.ref 0, .int x, .int y, .null, .null]) rfl ?_
  refine j_aload_n iX5_as_0 rfl ?_
  refine j_get fk_X5_26 iX5_as_1 (by repeat (first | assumption | refine wset_ne (by decide) ?_ | exact wset_lt (by (try simp only [List.length_set]); exact wsome (by assumption)))) (by rfl) ?_
  refine j_iload_n iX5_as_4 rfl ?_
  refine j_V1R okX3_hasLeaper lk_X5_120 iX5_as_5 (by omega) (by repeat (first | assumption | refine wset_ne (by decide) ?_ | exact wset_lt (by (try simp only [List.length_set]); exact wsome (by assumption)))) rfl (c_hasLeaper s3 v2 x) rfl (Nat.le_of_ble_eq_true rfl) (Nat.le_of_ble_eq_true rfl) ?_
  refine j_if_neB (tgt := 14) iX5_as_8 (by decide) (fun hno => Bool.noConfusion (hno.symm.trans (show _ = false from hx))) (fun _ => ?_)
  refine j_bipush (v := (-101)) iX5_as_11 (by decide) ?_
  refine j_iret iX5_as_13 rfl (by first | rfl | exact nar_bI _ | exact nar_bP) (⟨rfl, rfl⟩)
theorem c_as_o (h0 : w[0]? = some (oB ik rd)) (hS : NOW w fr lp lps sn ks sts sof sso) (hV : SV fr lp sn ks sts sof sso) (x y : Int32) (hx : inR x lp = true) (hy : inR y 5 = false) : JR 2 mX5_as [.ref 0, .int x, .int y] w (.int (-102)) w := by
  obtain ⟨s3, s15, s16, s17, s18⟩ := hS
  obtain ⟨v1, v2, v3, v4, v5, v6, v7⟩ := hV
  refine j_start (ls := [.ref 0, .int x, .int y, .null, .null]) rfl ?_
  refine j_aload_n iX5_as_0 rfl ?_
  refine j_get fk_X5_26 iX5_as_1 (by repeat (first | assumption | refine wset_ne (by decide) ?_ | exact wset_lt (by (try simp only [List.length_set]); exact wsome (by assumption)))) (by rfl) ?_
  refine j_iload_n iX5_as_4 rfl ?_
  refine j_V1R okX3_hasLeaper lk_X5_120 iX5_as_5 (by omega) (by repeat (first | assumption | refine wset_ne (by decide) ?_ | exact wset_lt (by (try simp only [List.length_set]); exact wsome (by assumption)))) rfl (c_hasLeaper s3 v2 x) rfl (Nat.le_of_ble_eq_true rfl) (Nat.le_of_ble_eq_true rfl) ?_
  refine j_if_neB (tgt := 14) iX5_as_8 (by decide) (fun _ => ?_) (fun hno => Bool.noConfusion (hno.symm.trans (show _ = true from hx)))
  refine j_iload_n iX5_as_14 rfl ?_
  refine j_S1R okX5_isKind lk_X5_152 iX5_as_15 (by omega) (c_isKind y) rfl (Nat.le_of_ble_eq_true rfl) (Nat.le_of_ble_eq_true rfl) ?_
  refine j_if_neB (tgt := 24) iX5_as_18 (by decide) (fun hno => Bool.noConfusion (hno.symm.trans (show _ = false from hy))) (fun _ => ?_)
  refine j_bipush (v := (-102)) iX5_as_21 (by decide) ?_
  refine j_iret iX5_as_23 rfl (by first | rfl | exact nar_bI _ | exact nar_bP) (⟨rfl, rfl⟩)
def asB (own k : Nat) : Bool := decide (k = 0) || decide (k = own) || (decide (k = 1) && decide (own = 4))
theorem c_as (h0 : w[0]? = some (oB ik rd)) (hS : NOW w fr lp lps sn ks sts sof sso) (hV : SV fr lp sn ks sts sof sso) (j k : Nat) (hj : j < lp) (hk : k < 5) : JR 2 mX5_as [.ref 0, .int (nI j), .int (nI k)] w (.int (if asB (ks j) k = true then nI j else -1)) w := by
  obtain ⟨s3, s15, s16, s17, s18⟩ := hS
  obtain ⟨v1, v2, v3, v4, v5, v6, v7⟩ := hV
  have hkj := v4 j
  refine j_start (ls := [.ref 0, .int (nI j), .int (nI k), .null, .null]) rfl ?_
  have K : ∀ q : Bool, q = asB (ks j) k → J 2 mX5_as 57 [.ref 0, .int (nI j), .int (nI k), .int (nI (ks j)), .null] [.int (bI q)] w (fun v u => v = some (.int (if asB (ks j) k = true then nI j else -1)) ∧ u = w) := by
    intro q hq
    refine j_istore iX5_as_57 (by decide) rfl ?_
    dsimp only [List.set]
    refine j_iload iX5_as_59 rfl ?_
    refine j_if_eqB (tgt := 68) iX5_as_61 (by decide) (fun h61 => ?_) (fun h61 => ?_)
    · refine j_iconst (v := (-1)) iX5_as_68 (by decide) ?_
      refine j_iret iX5_as_69 rfl (by first | rfl | exact nar_bI _ | exact nar_bP) (⟨by rw [← hq, h61]; rfl, rfl⟩)
    · refine j_iload_n iX5_as_64 rfl ?_
      refine j_goto (tgt := 69) iX5_as_65 (by decide) ?_
      refine j_iret iX5_as_69 rfl (by first | rfl | exact nar_bI _ | exact nar_bP) (⟨by rw [← hq, h61]; rfl, rfl⟩)
  refine j_aload_n iX5_as_0 rfl ?_
  refine j_get fk_X5_26 iX5_as_1 (by repeat (first | assumption | refine wset_ne (by decide) ?_ | exact wset_lt (by (try simp only [List.length_set]); exact wsome (by assumption)))) (by rfl) ?_
  refine j_iload_n iX5_as_4 rfl ?_
  refine j_V1R okX3_hasLeaper lk_X5_120 iX5_as_5 (by omega) (by repeat (first | assumption | refine wset_ne (by decide) ?_ | exact wset_lt (by (try simp only [List.length_set]); exact wsome (by assumption)))) rfl (c_hasLeaper s3 v2 _) rfl (Nat.le_of_ble_eq_true rfl) (Nat.le_of_ble_eq_true rfl) ?_
  refine j_if_neB (tgt := 14) iX5_as_8 (by decide) (fun _ => ?_) (fun hno => Bool.noConfusion (hno.symm.trans (show _ = true from by rw [inR_nI (by omega) (by omega)]; exact decide_eq_true hj)))
  refine j_iload_n iX5_as_14 rfl ?_
  refine j_S1R okX5_isKind lk_X5_152 iX5_as_15 (by omega) (c_isKind _) rfl (Nat.le_of_ble_eq_true rfl) (Nat.le_of_ble_eq_true rfl) ?_
  refine j_if_neB (tgt := 24) iX5_as_18 (by decide) (fun _ => ?_) (fun hno => Bool.noConfusion (hno.symm.trans (show _ = true from by rw [inR_nI (by omega) (by decide)]; exact decide_eq_true hk)))
  refine j_aload_n iX5_as_24 rfl ?_
  refine j_get fk_X5_26 iX5_as_25 (by repeat (first | assumption | refine wset_ne (by decide) ?_ | exact wset_lt (by (try simp only [List.length_set]); exact wsome (by assumption)))) (by rfl) ?_
  refine j_iload_n iX5_as_28 rfl ?_
  refine j_V1R okX3_kindOf lk_X5_123 iX5_as_29 (by omega) (by repeat (first | assumption | refine wset_ne (by decide) ?_ | exact wset_lt (by (try simp only [List.length_set]); exact wsome (by assumption)))) rfl (c_kindOf s3 v2 s15 j hj) rfl (Nat.le_of_ble_eq_true rfl) (Nat.le_of_ble_eq_true rfl) ?_
  refine j_istore_n iX5_as_32 (by decide) rfl ?_
  dsimp only [List.set]
  refine j_iload_n iX5_as_33 rfl ?_
  refine j_if_eqN (tgt := 52) iX5_as_34 (by decide) (by omega) (fun h34 => ?_) (fun h34 => ?_)
  · refine j_iconst (v := nI 1) iX5_as_52 (by decide) ?_
    refine j_goto (tgt := 57) iX5_as_53 (by decide) ?_
    first | exact K true (by unfold asB; rw [decide_eq_true h34]; rfl) | exact K true (by unfold asB; rw [decide_eq_true h39]; simp) | exact K true (by unfold asB; rw [decide_eq_true h44, decide_eq_true h49]; simp) | exact K false (by unfold asB; rw [decide_eq_false h34, decide_eq_false h39, decide_eq_false h44]; rfl) | exact K false (by unfold asB; rw [decide_eq_false h34, decide_eq_false h39, decide_eq_false h49]; simp)
  · refine j_iload_n iX5_as_37 rfl ?_
    refine j_iload_n iX5_as_38 rfl ?_
    refine j_icmp_eqN (tgt := 52) iX5_as_39 (by decide) (by omega) (by omega) (fun h39 => ?_) (fun h39 => ?_)
    · refine j_iconst (v := nI 1) iX5_as_52 (by decide) ?_
      refine j_goto (tgt := 57) iX5_as_53 (by decide) ?_
      first | exact K true (by unfold asB; rw [decide_eq_true h34]; rfl) | exact K true (by unfold asB; rw [decide_eq_true h39]; simp) | exact K true (by unfold asB; rw [decide_eq_true h44, decide_eq_true h49]; simp) | exact K false (by unfold asB; rw [decide_eq_false h34, decide_eq_false h39, decide_eq_false h44]; rfl) | exact K false (by unfold asB; rw [decide_eq_false h34, decide_eq_false h39, decide_eq_false h49]; simp)
    · refine j_iload_n iX5_as_42 rfl ?_
      refine j_iconst (v := nI 1) iX5_as_43 (by decide) ?_
      refine j_icmp_neN (tgt := 56) iX5_as_44 (by decide) (by omega) (by omega) (fun h44 => ?_) (fun h44 => ?_)
      · refine j_iconst (v := nI 0) iX5_as_56 (by decide) ?_
        first | exact K true (by unfold asB; rw [decide_eq_true h34]; rfl) | exact K true (by unfold asB; rw [decide_eq_true h39]; simp) | exact K true (by unfold asB; rw [decide_eq_true h44, decide_eq_true h49]; simp) | exact K false (by unfold asB; rw [decide_eq_false h34, decide_eq_false h39, decide_eq_false h44]; rfl) | exact K false (by unfold asB; rw [decide_eq_false h34, decide_eq_false h39, decide_eq_false h49]; simp)
      · refine j_iload_n iX5_as_47 rfl ?_
        refine j_iconst (v := nI 4) iX5_as_48 (by decide) ?_
        refine j_icmp_neN (tgt := 56) iX5_as_49 (by decide) (by omega) (by omega) (fun h49 => ?_) (fun h49 => ?_)
        · refine j_iconst (v := nI 0) iX5_as_56 (by decide) ?_
          first | exact K true (by unfold asB; rw [decide_eq_true h34]; rfl) | exact K true (by unfold asB; rw [decide_eq_true h39]; simp) | exact K true (by unfold asB; rw [decide_eq_true h44, decide_eq_true h49]; simp) | exact K false (by unfold asB; rw [decide_eq_false h34, decide_eq_false h39, decide_eq_false h44]; rfl) | exact K false (by unfold asB; rw [decide_eq_false h34, decide_eq_false h39, decide_eq_false h49]; simp)
        · refine j_iconst (v := nI 1) iX5_as_52 (by decide) ?_
          refine j_goto (tgt := 57) iX5_as_53 (by decide) ?_
          first | exact K true (by unfold asB; rw [decide_eq_true h34]; rfl) | exact K true (by unfold asB; rw [decide_eq_true h39]; simp) | exact K true (by unfold asB; rw [decide_eq_true h44, decide_eq_true h49]; simp) | exact K false (by unfold asB; rw [decide_eq_false h34, decide_eq_false h39, decide_eq_false h44]; rfl) | exact K false (by unfold asB; rw [decide_eq_false h34, decide_eq_false h39, decide_eq_false h49]; simp)
theorem c_cell_u (h0 : w[0]? = some (oB ik rd)) (hG : GW w R C) (x y : Int32) (hx : inR x (R * C) = false) : JR 5 mX5_cell [.ref 0, .int x, .int y] w (.int (-101)) w := by
  obtain ⟨g2, -⟩ := hG
  refine j_start (ls := [.ref 0, .int x, .int y]) rfl ?_
  refine j_aload_n iX5_cell_0 rfl ?_
  refine j_get fk_X5_19 iX5_cell_1 (by repeat (first | assumption | refine wset_ne (by decide) ?_ | exact wset_lt (by (try simp only [List.length_set]); exact wsome (by assumption)))) (by rfl) ?_
  refine j_iload_n iX5_cell_4 rfl ?_
  refine j_V1R okX1_hasCell lk_X5_155 iX5_cell_5 (by omega) (by repeat (first | assumption | refine wset_ne (by decide) ?_ | exact wset_lt (by (try simp only [List.length_set]); exact wsome (by assumption)))) rfl (c_hasCell g2 x) rfl (Nat.le_of_ble_eq_true rfl) (Nat.le_of_ble_eq_true rfl) ?_
  refine j_if_neB (tgt := 14) iX5_cell_8 (by decide) (fun hno => Bool.noConfusion (hno.symm.trans (show _ = false from hx))) (fun _ => ?_)
  refine j_bipush (v := (-101)) iX5_cell_11 (by decide) ?_
  refine j_iret iX5_cell_13 rfl (by first | rfl | exact nar_bI _ | exact nar_bP) (⟨rfl, rfl⟩)
theorem c_cell_o (h0 : w[0]? = some (oB ik rd)) (hG : GW w R C) (x y : Int32) (hx : inR x (R * C) = true) (hy : inR y 3 = false) : JR 5 mX5_cell [.ref 0, .int x, .int y] w (.int (-102)) w := by
  obtain ⟨g2, -⟩ := hG
  have hy2 := inR_int (by decide) hy
  refine j_start (ls := [.ref 0, .int x, .int y]) rfl ?_
  refine j_aload_n iX5_cell_0 rfl ?_
  refine j_get fk_X5_19 iX5_cell_1 (by repeat (first | assumption | refine wset_ne (by decide) ?_ | exact wset_lt (by (try simp only [List.length_set]); exact wsome (by assumption)))) (by rfl) ?_
  refine j_iload_n iX5_cell_4 rfl ?_
  refine j_V1R okX1_hasCell lk_X5_155 iX5_cell_5 (by omega) (by repeat (first | assumption | refine wset_ne (by decide) ?_ | exact wset_lt (by (try simp only [List.length_set]); exact wsome (by assumption)))) rfl (c_hasCell g2 x) rfl (Nat.le_of_ble_eq_true rfl) (Nat.le_of_ble_eq_true rfl) ?_
  refine j_if_neB (tgt := 14) iX5_cell_8 (by decide) (fun _ => ?_) (fun hno => Bool.noConfusion (hno.symm.trans (show _ = true from hx)))
  refine j_iload_n iX5_cell_14 rfl ?_
  refine j_tswOut (tgt := 75) iX5_cell_15 (by omega) (by decide) ?_
  refine j_bipush (v := (-102)) iX5_cell_75 (by decide) ?_
  refine j_iret iX5_cell_77 rfl (by first | rfl | exact nar_bI _ | exact nar_bP) (⟨rfl, rfl⟩)
def cellV (C N fr lp : Nat) (ks sts : Nat → Nat) (c y : Nat) : Int32 :=
  match y with
  | 0 => bI (fr.testBit c)
  | 1 => oN (whoF lp sts c)
  | _ => nI (wrsF C N fr lp ks sts c)
theorem c_cell (h0 : w[0]? = some (oB ik rd)) (hG : GW w R C) (hN : R * C ≤ 12) (hS : NOW w fr lp lps sn ks sts sof sso) (hV : SV fr lp sn ks sts sof sso) (c y : Nat) (hc : c < R * C) (hy : y < 3) : JR 5 mX5_cell [.ref 0, .int (nI c), .int (nI y)] w (.int (cellV C (R * C) fr lp ks sts c y)) w := by
  obtain ⟨g2, -⟩ := id hG
  obtain ⟨s3, s15, s16, s17, s18⟩ := id hS
  obtain ⟨v1, v2, v3, v4, v5, v6, v7⟩ := id hV
  refine j_start (ls := [.ref 0, .int (nI c), .int (nI y)]) rfl ?_
  rcases (show y = 0 ∨ y = 1 ∨ y = 2 by omega) with rfl | rfl | rfl
  · refine j_aload_n iX5_cell_0 rfl ?_
    refine j_get fk_X5_19 iX5_cell_1 (by repeat (first | assumption | refine wset_ne (by decide) ?_ | exact wset_lt (by (try simp only [List.length_set]); exact wsome (by assumption)))) (by rfl) ?_
    refine j_iload_n iX5_cell_4 rfl ?_
    refine j_V1R okX1_hasCell lk_X5_155 iX5_cell_5 (by omega) (by repeat (first | assumption | refine wset_ne (by decide) ?_ | exact wset_lt (by (try simp only [List.length_set]); exact wsome (by assumption)))) rfl (c_hasCell g2 _) rfl (Nat.le_of_ble_eq_true rfl) (Nat.le_of_ble_eq_true rfl) ?_
    refine j_if_neB (tgt := 14) iX5_cell_8 (by decide) (fun _ => ?_) (fun hno => Bool.noConfusion (hno.symm.trans (show _ = true from by rw [inR_nI (by omega) (by omega)]; exact decide_eq_true hc)))
    refine j_iload_n iX5_cell_14 rfl ?_
    refine j_tswIn (off := 25) (tgt := 40) iX5_cell_15 (by decide) (by decide) (by decide) (by decide) ?_
    refine j_aload_n iX5_cell_40 rfl ?_
    refine j_get fk_X5_26 iX5_cell_41 (by repeat (first | assumption | refine wset_ne (by decide) ?_ | exact wset_lt (by (try simp only [List.length_set]); exact wsome (by assumption)))) (by rfl) ?_
    refine j_get fk_X5_89 iX5_cell_44 (by repeat (first | assumption | refine wset_ne (by decide) ?_ | exact wset_lt (by (try simp only [List.length_set]); exact wsome (by assumption)))) (by rfl) ?_
    refine j_iload_n iX5_cell_47 rfl ?_
    refine j_S2R okX5_has lk_X5_158 iX5_cell_48 (by omega) (c_has fr c (by omega) (by omega)) rfl (Nat.le_of_ble_eq_true rfl) (Nat.le_of_ble_eq_true rfl) ?_
    refine j_if_eqB (tgt := 58) iX5_cell_51 (by decide) (fun h51 => ?_) (fun h51 => ?_)
    · refine j_iconst (v := nI 0) iX5_cell_58 (by decide) ?_
      refine j_iret iX5_cell_59 rfl (by first | rfl | exact nar_bI _ | exact nar_bP) (⟨by simp only [cellV]; rw [h51]; rfl, rfl⟩)
    · refine j_iconst (v := nI 1) iX5_cell_54 (by decide) ?_
      refine j_goto (tgt := 59) iX5_cell_55 (by decide) ?_
      refine j_iret iX5_cell_59 rfl (by first | rfl | exact nar_bI _ | exact nar_bP) (⟨by simp only [cellV]; rw [h51]; rfl, rfl⟩)
  · refine j_aload_n iX5_cell_0 rfl ?_
    refine j_get fk_X5_19 iX5_cell_1 (by repeat (first | assumption | refine wset_ne (by decide) ?_ | exact wset_lt (by (try simp only [List.length_set]); exact wsome (by assumption)))) (by rfl) ?_
    refine j_iload_n iX5_cell_4 rfl ?_
    refine j_V1R okX1_hasCell lk_X5_155 iX5_cell_5 (by omega) (by repeat (first | assumption | refine wset_ne (by decide) ?_ | exact wset_lt (by (try simp only [List.length_set]); exact wsome (by assumption)))) rfl (c_hasCell g2 _) rfl (Nat.le_of_ble_eq_true rfl) (Nat.le_of_ble_eq_true rfl) ?_
    refine j_if_neB (tgt := 14) iX5_cell_8 (by decide) (fun _ => ?_) (fun hno => Bool.noConfusion (hno.symm.trans (show _ = true from by rw [inR_nI (by omega) (by omega)]; exact decide_eq_true hc)))
    refine j_iload_n iX5_cell_14 rfl ?_
    refine j_tswIn (off := 45) (tgt := 60) iX5_cell_15 (by decide) (by decide) (by decide) (by decide) ?_
    refine j_aload_n iX5_cell_60 rfl ?_
    refine j_get fk_X5_26 iX5_cell_61 (by repeat (first | assumption | refine wset_ne (by decide) ?_ | exact wset_lt (by (try simp only [List.length_set]); exact wsome (by assumption)))) (by rfl) ?_
    refine j_iload_n iX5_cell_64 rfl ?_
    refine j_V1R okX3_whoStands lk_X5_162 iX5_cell_65 (by omega) (by repeat (first | assumption | refine wset_ne (by decide) ?_ | exact wset_lt (by (try simp only [List.length_set]); exact wsome (by assumption)))) rfl (c_whoStands s3 v2 s16 v5 c (by omega)) rfl (Nat.le_of_ble_eq_true rfl) (Nat.le_of_ble_eq_true rfl) ?_
    refine j_iret iX5_cell_68 rfl (by first | rfl | exact nar_bI _ | exact nar_bP) (⟨rfl, rfl⟩)
  · refine j_aload_n iX5_cell_0 rfl ?_
    refine j_get fk_X5_19 iX5_cell_1 (by repeat (first | assumption | refine wset_ne (by decide) ?_ | exact wset_lt (by (try simp only [List.length_set]); exact wsome (by assumption)))) (by rfl) ?_
    refine j_iload_n iX5_cell_4 rfl ?_
    refine j_V1R okX1_hasCell lk_X5_155 iX5_cell_5 (by omega) (by repeat (first | assumption | refine wset_ne (by decide) ?_ | exact wset_lt (by (try simp only [List.length_set]); exact wsome (by assumption)))) rfl (c_hasCell g2 _) rfl (Nat.le_of_ble_eq_true rfl) (Nat.le_of_ble_eq_true rfl) ?_
    refine j_if_neB (tgt := 14) iX5_cell_8 (by decide) (fun _ => ?_) (fun hno => Bool.noConfusion (hno.symm.trans (show _ = true from by rw [inR_nI (by omega) (by omega)]; exact decide_eq_true hc)))
    refine j_iload_n iX5_cell_14 rfl ?_
    refine j_tswIn (off := 54) (tgt := 69) iX5_cell_15 (by decide) (by decide) (by decide) (by decide) ?_
    refine j_aload_n iX5_cell_69 rfl ?_
    refine j_iload_n iX5_cell_70 rfl ?_
    refine j_V1R okX5_watchers lk_X5_165 iX5_cell_71 (by omega) (by repeat (first | assumption | refine wset_ne (by decide) ?_ | exact wset_lt (by (try simp only [List.length_set]); exact wsome (by assumption)))) rfl (c_watchers h0 hG hN hS hV c (by omega)) rfl (Nat.le_of_ble_eq_true rfl) (Nat.le_of_ble_eq_true rfl) ?_
    refine j_iret iX5_cell_74 rfl (by first | rfl | exact nar_bI _ | exact nar_bP) (⟨rfl, rfl⟩)
theorem c_hops_u (h0 : w[0]? = some (oB ik rd)) (hG : GW w R C) (hS : NOW w fr lp lps sn ks sts sof sso) (hV : SV fr lp sn ks sts sof sso) (x y : Int32) (hx : inR x lp = false ∨ inR y (R * C) = false) : JR 3 mX5_hops [.ref 0, .int x, .int y] w (.int (-101)) w := by
  obtain ⟨g2, -⟩ := hG
  obtain ⟨s3, s15, s16, s17, s18⟩ := hS
  obtain ⟨v1, v2, v3, v4, v5, v6, v7⟩ := hV
  refine j_start (ls := [.ref 0, .int x, .int y, .null]) rfl ?_
  refine j_aload_n iX5_hops_0 rfl ?_
  refine j_get fk_X5_26 iX5_hops_1 (by repeat (first | assumption | refine wset_ne (by decide) ?_ | exact wset_lt (by (try simp only [List.length_set]); exact wsome (by assumption)))) (by rfl) ?_
  refine j_iload_n iX5_hops_4 rfl ?_
  refine j_V1R okX3_hasLeaper lk_X5_120 iX5_hops_5 (by omega) (by repeat (first | assumption | refine wset_ne (by decide) ?_ | exact wset_lt (by (try simp only [List.length_set]); exact wsome (by assumption)))) rfl (c_hasLeaper s3 v2 x) rfl (Nat.le_of_ble_eq_true rfl) (Nat.le_of_ble_eq_true rfl) ?_
  refine j_if_eqB (tgt := 22) iX5_hops_8 (by decide) (fun h8 => ?_) (fun h8 => ?_)
  · refine j_bipush (v := (-101)) iX5_hops_22 (by decide) ?_
    refine j_iret iX5_hops_24 rfl (by first | rfl | exact nar_bI _ | exact nar_bP) (⟨rfl, rfl⟩)
  · refine j_aload_n iX5_hops_11 rfl ?_
    refine j_get fk_X5_19 iX5_hops_12 (by repeat (first | assumption | refine wset_ne (by decide) ?_ | exact wset_lt (by (try simp only [List.length_set]); exact wsome (by assumption)))) (by rfl) ?_
    refine j_iload_n iX5_hops_15 rfl ?_
    refine j_V1R okX1_hasCell lk_X5_155 iX5_hops_16 (by omega) (by repeat (first | assumption | refine wset_ne (by decide) ?_ | exact wset_lt (by (try simp only [List.length_set]); exact wsome (by assumption)))) rfl (c_hasCell g2 y) rfl (Nat.le_of_ble_eq_true rfl) (Nat.le_of_ble_eq_true rfl) ?_
    refine j_if_neB (tgt := 25) iX5_hops_19 (by decide) (fun hno => Bool.noConfusion (hno.symm.trans (show _ = false from by rcases hx with q | q; (rw [h8] at q; cases q); exact q))) (fun _ => ?_)
    refine j_bipush (v := (-101)) iX5_hops_22 (by decide) ?_
    refine j_iret iX5_hops_24 rfl (by first | rfl | exact nar_bI _ | exact nar_bP) (⟨rfl, rfl⟩)
theorem c_hops (h0 : w[0]? = some (oB ik rd)) (hG : GW w R C) (hN : R * C ≤ 12) (hS : NOW w fr lp lps sn ks sts sof sso) (hV : SV fr lp sn ks sts sof sso) (j c : Nat) (hj : j < lp) (hc : c < R * C) : JR 3 mX5_hops [.ref 0, .int (nI j), .int (nI c)] w (.int (oN (fwF (fanF C (R * C) (ks j)) (sts j) c (emptyF fr lp sts)))) w := by
  obtain ⟨g2, -⟩ := id hG
  obtain ⟨s3, s15, s16, s17, s18⟩ := id hS
  obtain ⟨v1, v2, v3, v4, v5, v6, v7⟩ := id hV
  refine j_start (ls := [.ref 0, .int (nI j), .int (nI c), .null]) rfl ?_
  refine j_aload_n iX5_hops_0 rfl ?_
  refine j_get fk_X5_26 iX5_hops_1 (by repeat (first | assumption | refine wset_ne (by decide) ?_ | exact wset_lt (by (try simp only [List.length_set]); exact wsome (by assumption)))) (by rfl) ?_
  refine j_iload_n iX5_hops_4 rfl ?_
  refine j_V1R okX3_hasLeaper lk_X5_120 iX5_hops_5 (by omega) (by repeat (first | assumption | refine wset_ne (by decide) ?_ | exact wset_lt (by (try simp only [List.length_set]); exact wsome (by assumption)))) rfl (c_hasLeaper s3 v2 _) rfl (Nat.le_of_ble_eq_true rfl) (Nat.le_of_ble_eq_true rfl) ?_
  refine j_if_eqB (tgt := 22) iX5_hops_8 (by decide) (fun hno => Bool.noConfusion (hno.symm.trans (show _ = true from by rw [inR_nI (by omega) (by omega)]; exact decide_eq_true hj))) (fun _ => ?_)
  refine j_aload_n iX5_hops_11 rfl ?_
  refine j_get fk_X5_19 iX5_hops_12 (by repeat (first | assumption | refine wset_ne (by decide) ?_ | exact wset_lt (by (try simp only [List.length_set]); exact wsome (by assumption)))) (by rfl) ?_
  refine j_iload_n iX5_hops_15 rfl ?_
  refine j_V1R okX1_hasCell lk_X5_155 iX5_hops_16 (by omega) (by repeat (first | assumption | refine wset_ne (by decide) ?_ | exact wset_lt (by (try simp only [List.length_set]); exact wsome (by assumption)))) rfl (c_hasCell g2 _) rfl (Nat.le_of_ble_eq_true rfl) (Nat.le_of_ble_eq_true rfl) ?_
  refine j_if_neB (tgt := 25) iX5_hops_19 (by decide) (fun _ => ?_) (fun hno => Bool.noConfusion (hno.symm.trans (show _ = true from by rw [inR_nI (by omega) (by omega)]; exact decide_eq_true hc)))
  refine j_aload_n iX5_hops_25 rfl ?_
  refine j_get fk_X5_26 iX5_hops_26 (by repeat (first | assumption | refine wset_ne (by decide) ?_ | exact wset_lt (by (try simp only [List.length_set]); exact wsome (by assumption)))) (by rfl) ?_
  refine j_iload_n iX5_hops_29 rfl ?_
  refine j_V1R okX3_standOf lk_X5_124 iX5_hops_30 (by omega) (by repeat (first | assumption | refine wset_ne (by decide) ?_ | exact wset_lt (by (try simp only [List.length_set]); exact wsome (by assumption)))) rfl (c_standOf s3 v2 s16 j hj) rfl (Nat.le_of_ble_eq_true rfl) (Nat.le_of_ble_eq_true rfl) ?_
  refine j_istore_n iX5_hops_33 (by decide) rfl ?_
  dsimp only [List.set]
  refine j_aload_n iX5_hops_34 rfl ?_
  refine j_iload_n iX5_hops_35 rfl ?_
  refine j_V1R okX5_fanOfLeaper lk_X5_138 iX5_hops_36 (by omega) (by repeat (first | assumption | refine wset_ne (by decide) ?_ | exact wset_lt (by (try simp only [List.length_set]); exact wsome (by assumption)))) rfl (c_fanOfLeaper h0 hG hS hV j hj) rfl (Nat.le_of_ble_eq_true rfl) (Nat.le_of_ble_eq_true rfl) ?_
  refine j_iload_n iX5_hops_39 rfl ?_
  refine j_iload_n iX5_hops_40 rfl ?_
  refine j_aload_n iX5_hops_41 rfl ?_
  refine j_get fk_X5_26 iX5_hops_42 (by repeat (first | assumption | refine wset_ne (by decide) ?_ | exact wset_lt (by (try simp only [List.length_set]); exact wsome (by assumption)))) (by rfl) ?_
  refine j_V0R okX3_empty lk_X5_142 iX5_hops_45 (by omega) (by repeat (first | assumption | refine wset_ne (by decide) ?_ | exact wset_lt (by (try simp only [List.length_set]); exact wsome (by assumption)))) rfl (c_empty s3 v2 s16 v5) rfl (Nat.le_of_ble_eq_true rfl) (Nat.le_of_ble_eq_true rfl) ?_
  refine j_S4R okX4_fewest lk_X5_173 iX5_hops_48 (by omega) (c_fewest (hG.row (v4 j)) (fun i => fanF_b _ _ _ _ hN) (sts j) c (emptyF fr lp sts) (v5 j) (by omega)) rfl (Nat.le_of_ble_eq_true rfl) (Nat.le_of_ble_eq_true rfl) ?_
  refine j_iret iX5_hops_51 rfl (by first | rfl | exact nar_bI _ | exact nar_bP) (⟨rfl, rfl⟩)
theorem c_trade_u (h0 : w[0]? = some (oB ik rd)) (hS : NOW w fr lp lps sn ks sts sof sso) (hV : SV fr lp sn ks sts sof sso) (x y : Int32) (hx : inR x lp = false ∨ inR y lp = false ∨ x = y) : JR 3 mX5_trade [.ref 0, .int x, .int y] w (.int (-101)) w := by
  obtain ⟨s3, s15, s16, s17, s18⟩ := hS
  obtain ⟨v1, v2, v3, v4, v5, v6, v7⟩ := hV
  refine j_start (ls := [.ref 0, .int x, .int y, .null, .null, .null]) rfl ?_
  refine j_aload_n iX5_trade_0 rfl ?_
  refine j_get fk_X5_26 iX5_trade_1 (by repeat (first | assumption | refine wset_ne (by decide) ?_ | exact wset_lt (by (try simp only [List.length_set]); exact wsome (by assumption)))) (by rfl) ?_
  refine j_iload_n iX5_trade_4 rfl ?_
  refine j_V1R okX3_hasLeaper lk_X5_120 iX5_trade_5 (by omega) (by repeat (first | assumption | refine wset_ne (by decide) ?_ | exact wset_lt (by (try simp only [List.length_set]); exact wsome (by assumption)))) rfl (c_hasLeaper s3 v2 x) rfl (Nat.le_of_ble_eq_true rfl) (Nat.le_of_ble_eq_true rfl) ?_
  refine j_if_eqB (tgt := 27) iX5_trade_8 (by decide) (fun h8 => ?_) (fun h8 => ?_)
  · refine j_bipush (v := (-101)) iX5_trade_27 (by decide) ?_
    refine j_iret iX5_trade_29 rfl (by first | rfl | exact nar_bI _ | exact nar_bP) (⟨rfl, rfl⟩)
  · refine j_aload_n iX5_trade_11 rfl ?_
    refine j_get fk_X5_26 iX5_trade_12 (by repeat (first | assumption | refine wset_ne (by decide) ?_ | exact wset_lt (by (try simp only [List.length_set]); exact wsome (by assumption)))) (by rfl) ?_
    refine j_iload_n iX5_trade_15 rfl ?_
    refine j_V1R okX3_hasLeaper lk_X5_120 iX5_trade_16 (by omega) (by repeat (first | assumption | refine wset_ne (by decide) ?_ | exact wset_lt (by (try simp only [List.length_set]); exact wsome (by assumption)))) rfl (c_hasLeaper s3 v2 y) rfl (Nat.le_of_ble_eq_true rfl) (Nat.le_of_ble_eq_true rfl) ?_
    refine j_if_eqB (tgt := 27) iX5_trade_19 (by decide) (fun h19 => ?_) (fun h19 => ?_)
    · refine j_bipush (v := (-101)) iX5_trade_27 (by decide) ?_
      refine j_iret iX5_trade_29 rfl (by first | rfl | exact nar_bI _ | exact nar_bP) (⟨rfl, rfl⟩)
    · refine j_iload_n iX5_trade_22 rfl ?_
      refine j_iload_n iX5_trade_23 rfl ?_
      refine j_icmp_ne (tgt := 30) iX5_trade_24 (by decide) (fun hno => by first | exact absurd hno (by rcases hx with q | q | q; (rw [h8] at q; cases q); (rw [h19] at q; cases q); exact q) | exact absurd (by rcases hx with q | q | q; (rw [h8] at q; cases q); (rw [h19] at q; cases q); exact q) hno) (fun _ => ?_)
      refine j_bipush (v := (-101)) iX5_trade_27 (by decide) ?_
      refine j_iret iX5_trade_29 rfl (by first | rfl | exact nar_bI _ | exact nar_bP) (⟨rfl, rfl⟩)
def tradeV (C N fr lp : Nat) (ks sts : Nat → Nat) (i j : Nat) : Int32 := oN (trF (fanF C N (ks i)) (fanF C N (ks j)) (sts i) (sts j) (emptyF fr lp sts ||| 2 ^ sts i ||| 2 ^ sts j))
theorem c_trade (h0 : w[0]? = some (oB ik rd)) (hG : GW w R C) (hN : R * C ≤ 12) (hT : TW w) (hS : NOW w fr lp lps sn ks sts sof sso) (hV : SV fr lp sn ks sts sof sso) (i j : Nat) (hi : i < lp) (hj : j < lp) (hij : i ≠ j) : JX 3 mX5_trade [.ref 0, .int (nI i), .int (nI j)] w (fun v u => v = some (.int (tradeV C (R * C) fr lp ks sts i j)) ∧ Keep w u) := by
  obtain ⟨s3, s15, s16, s17, s18⟩ := id hS
  obtain ⟨v1, v2, v3, v4, v5, v6, v7⟩ := id hV
  obtain ⟨t6, ⟨z27, t27⟩, ⟨z28, t28⟩, ⟨z29, t29⟩, ⟨z30, t30⟩, -⟩ := id hT
  have a1 := v5 i
  have a2 := v5 j
  have a3 := v4 i
  have a4 := v4 j
  have hro : emptyF fr lp sts ||| 2 ^ sts i ||| 2 ^ sts j < 4096 := or_b (or_b (empty_b v1) (pw_b a1)) (pw_b a2)
  have hne : nI i ≠ nI j := fun z => hij ((nI_eq (by omega) (by omega)).mp z)
  refine j_start (ls := [.ref 0, .int (nI i), .int (nI j), .null, .null, .null]) rfl ?_
  refine j_aload_n iX5_trade_0 rfl ?_
  refine j_get fk_X5_26 iX5_trade_1 (by repeat (first | assumption | refine wset_ne (by decide) ?_ | exact wset_lt (by (try simp only [List.length_set]); exact wsome (by assumption)))) (by rfl) ?_
  refine j_iload_n iX5_trade_4 rfl ?_
  refine j_V1R okX3_hasLeaper lk_X5_120 iX5_trade_5 (by omega) (by repeat (first | assumption | refine wset_ne (by decide) ?_ | exact wset_lt (by (try simp only [List.length_set]); exact wsome (by assumption)))) rfl (c_hasLeaper s3 v2 _) rfl (Nat.le_of_ble_eq_true rfl) (Nat.le_of_ble_eq_true rfl) ?_
  refine j_if_eqB (tgt := 27) iX5_trade_8 (by decide) (fun hno => Bool.noConfusion (hno.symm.trans (show _ = true from by rw [inR_nI (by omega) (by omega)]; exact decide_eq_true hi))) (fun _ => ?_)
  refine j_aload_n iX5_trade_11 rfl ?_
  refine j_get fk_X5_26 iX5_trade_12 (by repeat (first | assumption | refine wset_ne (by decide) ?_ | exact wset_lt (by (try simp only [List.length_set]); exact wsome (by assumption)))) (by rfl) ?_
  refine j_iload_n iX5_trade_15 rfl ?_
  refine j_V1R okX3_hasLeaper lk_X5_120 iX5_trade_16 (by omega) (by repeat (first | assumption | refine wset_ne (by decide) ?_ | exact wset_lt (by (try simp only [List.length_set]); exact wsome (by assumption)))) rfl (c_hasLeaper s3 v2 _) rfl (Nat.le_of_ble_eq_true rfl) (Nat.le_of_ble_eq_true rfl) ?_
  refine j_if_eqB (tgt := 27) iX5_trade_19 (by decide) (fun hno => Bool.noConfusion (hno.symm.trans (show _ = true from by rw [inR_nI (by omega) (by omega)]; exact decide_eq_true hj))) (fun _ => ?_)
  refine j_iload_n iX5_trade_22 rfl ?_
  refine j_iload_n iX5_trade_23 rfl ?_
  refine j_icmp_ne (tgt := 30) iX5_trade_24 (by decide) (fun _ => ?_) (fun hno => by first | exact absurd hno (hne) | exact absurd (hne) hno)
  refine j_aload_n iX5_trade_30 rfl ?_
  refine j_get fk_X5_26 iX5_trade_31 (by repeat (first | assumption | refine wset_ne (by decide) ?_ | exact wset_lt (by (try simp only [List.length_set]); exact wsome (by assumption)))) (by rfl) ?_
  refine j_iload_n iX5_trade_34 rfl ?_
  refine j_V1R okX3_standOf lk_X5_124 iX5_trade_35 (by omega) (by repeat (first | assumption | refine wset_ne (by decide) ?_ | exact wset_lt (by (try simp only [List.length_set]); exact wsome (by assumption)))) rfl (c_standOf s3 v2 s16 i hi) rfl (Nat.le_of_ble_eq_true rfl) (Nat.le_of_ble_eq_true rfl) ?_
  refine j_istore_n iX5_trade_38 (by decide) rfl ?_
  dsimp only [List.set]
  refine j_aload_n iX5_trade_39 rfl ?_
  refine j_get fk_X5_26 iX5_trade_40 (by repeat (first | assumption | refine wset_ne (by decide) ?_ | exact wset_lt (by (try simp only [List.length_set]); exact wsome (by assumption)))) (by rfl) ?_
  refine j_iload_n iX5_trade_43 rfl ?_
  refine j_V1R okX3_standOf lk_X5_124 iX5_trade_44 (by omega) (by repeat (first | assumption | refine wset_ne (by decide) ?_ | exact wset_lt (by (try simp only [List.length_set]); exact wsome (by assumption)))) rfl (c_standOf s3 v2 s16 j hj) rfl (Nat.le_of_ble_eq_true rfl) (Nat.le_of_ble_eq_true rfl) ?_
  refine j_istore iX5_trade_47 (by decide) rfl ?_
  dsimp only [List.set]
  refine j_aload_n iX5_trade_49 rfl ?_
  refine j_get fk_X5_26 iX5_trade_50 (by repeat (first | assumption | refine wset_ne (by decide) ?_ | exact wset_lt (by (try simp only [List.length_set]); exact wsome (by assumption)))) (by rfl) ?_
  refine j_V0R okX3_empty lk_X5_142 iX5_trade_53 (by omega) (by repeat (first | assumption | refine wset_ne (by decide) ?_ | exact wset_lt (by (try simp only [List.length_set]); exact wsome (by assumption)))) rfl (c_empty s3 v2 s16 v5) rfl (Nat.le_of_ble_eq_true rfl) (Nat.le_of_ble_eq_true rfl) ?_
  refine j_iconst (v := nI 1) iX5_trade_56 (by decide) ?_
  refine j_iload_n iX5_trade_57 rfl ?_
  refine j_ishlN iX5_trade_58 (by omega) ?_
  refine j_iorN iX5_trade_59  ?_
  refine j_iconst (v := nI 1) iX5_trade_60 (by decide) ?_
  refine j_iload iX5_trade_61 rfl ?_
  refine j_ishlN iX5_trade_63 (by omega) ?_
  refine j_iorN iX5_trade_64  ?_
  refine j_istore iX5_trade_65 (by decide) rfl ?_
  dsimp only [List.set]
  refine j_aload_n iX5_trade_67 rfl ?_
  refine j_get fk_X5_39 iX5_trade_68 (by repeat (first | assumption | refine wset_ne (by decide) ?_ | exact wset_lt (by (try simp only [List.length_set]); exact wsome (by assumption)))) (by rfl) ?_
  refine j_aload_n iX5_trade_71 rfl ?_
  refine j_iload_n iX5_trade_72 rfl ?_
  refine j_V1R okX5_fanOfLeaper lk_X5_138 iX5_trade_73 (by omega) (by repeat (first | assumption | refine wset_ne (by decide) ?_ | exact wset_lt (by (try simp only [List.length_set]); exact wsome (by assumption)))) rfl (c_fanOfLeaper h0 hG hS hV i hi) rfl (Nat.le_of_ble_eq_true rfl) (Nat.le_of_ble_eq_true rfl) ?_
  refine j_aload_n iX5_trade_76 rfl ?_
  refine j_iload_n iX5_trade_77 rfl ?_
  refine j_V1R okX5_fanOfLeaper lk_X5_138 iX5_trade_78 (by omega) (by repeat (first | assumption | refine wset_ne (by decide) ?_ | exact wset_lt (by (try simp only [List.length_set]); exact wsome (by assumption)))) rfl (c_fanOfLeaper h0 hG hS hV j hj) rfl (Nat.le_of_ble_eq_true rfl) (Nat.le_of_ble_eq_true rfl) ?_
  refine j_iload_n iX5_trade_81 rfl ?_
  refine j_iload iX5_trade_82 rfl ?_
  refine j_iload iX5_trade_84 rfl ?_
  refine j_V5X (r := .null) (w' := []) okX4_fewestToTrade lk_X5_177 iX5_trade_86 (by omega) (by repeat (first | assumption | refine wset_ne (by decide) ?_ | exact wset_lt (by (try simp only [List.length_set]); exact wsome (by assumption)))) rfl (c_fewestToTrade t6 (hG.row a3) (hG.row a4) (by omega) (by omega) (fun i => fanF_b _ _ _ _ hN) (fun i => fanF_b _ _ _ _ hN) t29 t30 _ _ _ a1 a2 hro) rfl (Nat.le_of_ble_eq_true rfl) (Nat.le_of_ble_eq_true rfl) ?_
  rintro v u ⟨rfl, x, y, rfl⟩
  refine j_iret iX5_trade_89 rfl (by first | rfl | exact nar_bI _ | exact nar_bP) (⟨rfl, hT.keep2 (i := 30) (j := 29) (n := 12) (Or.inr (Or.inl ⟨rfl, rfl, rfl⟩))⟩)
/-! of a kind -/
theorem k_refuse {mi : MI} (x y : Int32) (hx : inR x 5 = false ∨ inR y 2 = false) : True := trivial
theorem c_peace_o (h0 : w[0]? = some (oB ik rd)) (x y : Int32) (hx : inR x 5 = false ∨ inR y 2 = false) : JR 3 mX5_peace [.ref 0, .int x, .int y] w (.int (-102)) w := by
  refine j_start (ls := [.ref 0, .int x, .int y, .null]) rfl ?_
  refine j_iload_n iX5_peace_0 rfl ?_
  refine j_S1R okX5_isKind lk_X5_152 iX5_peace_1 (by omega) (c_isKind x) rfl (Nat.le_of_ble_eq_true rfl) (Nat.le_of_ble_eq_true rfl) ?_
  refine j_if_eqB (tgt := 14) iX5_peace_4 (by decide) (fun h4 => ?_) (fun h4 => ?_)
  · refine j_bipush (v := (-102)) iX5_peace_14 (by decide) ?_
    refine j_iret iX5_peace_16 rfl (by first | rfl | exact nar_bI _ | exact nar_bP) (⟨rfl, rfl⟩)
  · refine j_iload_n iX5_peace_7 rfl ?_
    refine j_S1R okX5_isOneOfTwo lk_X5_181 iX5_peace_8 (by omega) (c_isOneOfTwo y) rfl (Nat.le_of_ble_eq_true rfl) (Nat.le_of_ble_eq_true rfl) ?_
    refine j_if_neB (tgt := 17) iX5_peace_11 (by decide) (fun hno => Bool.noConfusion (hno.symm.trans (show _ = false from by rcases hx with q | q; (rw [h4] at q; cases q); exact q))) (fun _ => ?_)
    refine j_bipush (v := (-102)) iX5_peace_14 (by decide) ?_
    refine j_iret iX5_peace_16 rfl (by first | rfl | exact nar_bI _ | exact nar_bP) (⟨rfl, rfl⟩)
theorem c_guard_o (h0 : w[0]? = some (oB ik rd)) (x y : Int32) (hx : inR x 5 = false ∨ inR y 2 = false) : JR 3 mX5_guard [.ref 0, .int x, .int y] w (.int (-102)) w := by
  refine j_start (ls := [.ref 0, .int x, .int y, .null]) rfl ?_
  refine j_iload_n iX5_guard_0 rfl ?_
  refine j_S1R okX5_isKind lk_X5_152 iX5_guard_1 (by omega) (c_isKind x) rfl (Nat.le_of_ble_eq_true rfl) (Nat.le_of_ble_eq_true rfl) ?_
  refine j_if_eqB (tgt := 14) iX5_guard_4 (by decide) (fun h4 => ?_) (fun h4 => ?_)
  · refine j_bipush (v := (-102)) iX5_guard_14 (by decide) ?_
    refine j_iret iX5_guard_16 rfl (by first | rfl | exact nar_bI _ | exact nar_bP) (⟨rfl, rfl⟩)
  · refine j_iload_n iX5_guard_7 rfl ?_
    refine j_S1R okX5_isOneOfTwo lk_X5_181 iX5_guard_8 (by omega) (c_isOneOfTwo y) rfl (Nat.le_of_ble_eq_true rfl) (Nat.le_of_ble_eq_true rfl) ?_
    refine j_if_neB (tgt := 17) iX5_guard_11 (by decide) (fun hno => Bool.noConfusion (hno.symm.trans (show _ = false from by rcases hx with q | q; (rw [h4] at q; cases q); exact q))) (fun _ => ?_)
    refine j_bipush (v := (-102)) iX5_guard_14 (by decide) ?_
    refine j_iret iX5_guard_16 rfl (by first | rfl | exact nar_bI _ | exact nar_bP) (⟨rfl, rfl⟩)
theorem c_parts_o (h0 : w[0]? = some (oB ik rd)) (x y : Int32) (hx : inR x 5 = false ∨ inR y 2 = false) : JR 3 mX5_parts [.ref 0, .int x, .int y] w (.int (-102)) w := by
  refine j_start (ls := [.ref 0, .int x, .int y, .null]) rfl ?_
  refine j_iload_n iX5_parts_0 rfl ?_
  refine j_S1R okX5_isKind lk_X5_152 iX5_parts_1 (by omega) (c_isKind x) rfl (Nat.le_of_ble_eq_true rfl) (Nat.le_of_ble_eq_true rfl) ?_
  refine j_if_eqB (tgt := 14) iX5_parts_4 (by decide) (fun h4 => ?_) (fun h4 => ?_)
  · refine j_bipush (v := (-102)) iX5_parts_14 (by decide) ?_
    refine j_iret iX5_parts_16 rfl (by first | rfl | exact nar_bI _ | exact nar_bP) (⟨rfl, rfl⟩)
  · refine j_iload_n iX5_parts_7 rfl ?_
    refine j_S1R okX5_isOneOfTwo lk_X5_181 iX5_parts_8 (by omega) (c_isOneOfTwo y) rfl (Nat.le_of_ble_eq_true rfl) (Nat.le_of_ble_eq_true rfl) ?_
    refine j_if_neB (tgt := 17) iX5_parts_11 (by decide) (fun hno => Bool.noConfusion (hno.symm.trans (show _ = false from by rcases hx with q | q; (rw [h4] at q; cases q); exact q))) (fun _ => ?_)
    refine j_bipush (v := (-102)) iX5_parts_14 (by decide) ?_
    refine j_iret iX5_parts_16 rfl (by first | rfl | exact nar_bI _ | exact nar_bP) (⟨rfl, rfl⟩)
theorem c_peace_s (h0 : w[0]? = some (oB ik rd)) (hS : NOW w fr 0 lps sn ks sts sof sso) (x y : Int32) (hx : inR x 5 = true) (hy : inR y 2 = true) : JR 3 mX5_peace [.ref 0, .int x, .int y] w (.int (-103)) w := by
  obtain ⟨s3, -⟩ := hS
  refine j_start (ls := [.ref 0, .int x, .int y, .null]) rfl ?_
  refine j_iload_n iX5_peace_0 rfl ?_
  refine j_S1R okX5_isKind lk_X5_152 iX5_peace_1 (by omega) (c_isKind x) rfl (Nat.le_of_ble_eq_true rfl) (Nat.le_of_ble_eq_true rfl) ?_
  refine j_if_eqB (tgt := 14) iX5_peace_4 (by decide) (fun hno => Bool.noConfusion (hno.symm.trans (show _ = true from hx))) (fun _ => ?_)
  refine j_iload_n iX5_peace_7 rfl ?_
  refine j_S1R okX5_isOneOfTwo lk_X5_181 iX5_peace_8 (by omega) (c_isOneOfTwo y) rfl (Nat.le_of_ble_eq_true rfl) (Nat.le_of_ble_eq_true rfl) ?_
  refine j_if_neB (tgt := 17) iX5_peace_11 (by decide) (fun _ => ?_) (fun hno => Bool.noConfusion (hno.symm.trans (show _ = true from hy)))
  refine j_aload_n iX5_peace_17 rfl ?_
  refine j_get fk_X5_26 iX5_peace_18 (by repeat (first | assumption | refine wset_ne (by decide) ?_ | exact wset_lt (by (try simp only [List.length_set]); exact wsome (by assumption)))) (by rfl) ?_
  refine j_V0R okX3_isThere lk_X5_184 iX5_peace_21 (by omega) (by repeat (first | assumption | refine wset_ne (by decide) ?_ | exact wset_lt (by (try simp only [List.length_set]); exact wsome (by assumption)))) rfl (c_isThere s3 (by decide)) rfl (Nat.le_of_ble_eq_true rfl) (Nat.le_of_ble_eq_true rfl) ?_
  refine j_if_neB (tgt := 30) iX5_peace_24 (by decide) (fun hno => Bool.noConfusion (hno.symm.trans (show _ = false from rfl))) (fun _ => ?_)
  refine j_bipush (v := (-103)) iX5_peace_27 (by decide) ?_
  refine j_iret iX5_peace_29 rfl (by first | rfl | exact nar_bI _ | exact nar_bP) (⟨rfl, rfl⟩)
theorem c_guard_s (h0 : w[0]? = some (oB ik rd)) (hS : NOW w fr 0 lps sn ks sts sof sso) (x y : Int32) (hx : inR x 5 = true) (hy : inR y 2 = true) : JR 3 mX5_guard [.ref 0, .int x, .int y] w (.int (-103)) w := by
  obtain ⟨s3, -⟩ := hS
  refine j_start (ls := [.ref 0, .int x, .int y, .null]) rfl ?_
  refine j_iload_n iX5_guard_0 rfl ?_
  refine j_S1R okX5_isKind lk_X5_152 iX5_guard_1 (by omega) (c_isKind x) rfl (Nat.le_of_ble_eq_true rfl) (Nat.le_of_ble_eq_true rfl) ?_
  refine j_if_eqB (tgt := 14) iX5_guard_4 (by decide) (fun hno => Bool.noConfusion (hno.symm.trans (show _ = true from hx))) (fun _ => ?_)
  refine j_iload_n iX5_guard_7 rfl ?_
  refine j_S1R okX5_isOneOfTwo lk_X5_181 iX5_guard_8 (by omega) (c_isOneOfTwo y) rfl (Nat.le_of_ble_eq_true rfl) (Nat.le_of_ble_eq_true rfl) ?_
  refine j_if_neB (tgt := 17) iX5_guard_11 (by decide) (fun _ => ?_) (fun hno => Bool.noConfusion (hno.symm.trans (show _ = true from hy)))
  refine j_aload_n iX5_guard_17 rfl ?_
  refine j_get fk_X5_26 iX5_guard_18 (by repeat (first | assumption | refine wset_ne (by decide) ?_ | exact wset_lt (by (try simp only [List.length_set]); exact wsome (by assumption)))) (by rfl) ?_
  refine j_V0R okX3_isThere lk_X5_184 iX5_guard_21 (by omega) (by repeat (first | assumption | refine wset_ne (by decide) ?_ | exact wset_lt (by (try simp only [List.length_set]); exact wsome (by assumption)))) rfl (c_isThere s3 (by decide)) rfl (Nat.le_of_ble_eq_true rfl) (Nat.le_of_ble_eq_true rfl) ?_
  refine j_if_neB (tgt := 30) iX5_guard_24 (by decide) (fun hno => Bool.noConfusion (hno.symm.trans (show _ = false from rfl))) (fun _ => ?_)
  refine j_bipush (v := (-103)) iX5_guard_27 (by decide) ?_
  refine j_iret iX5_guard_29 rfl (by first | rfl | exact nar_bI _ | exact nar_bP) (⟨rfl, rfl⟩)
theorem c_parts_s (h0 : w[0]? = some (oB ik rd)) (hS : NOW w fr 0 lps sn ks sts sof sso) (x y : Int32) (hx : inR x 5 = true) (hy : inR y 2 = true) : JR 3 mX5_parts [.ref 0, .int x, .int y] w (.int (-103)) w := by
  obtain ⟨s3, -⟩ := hS
  refine j_start (ls := [.ref 0, .int x, .int y, .null]) rfl ?_
  refine j_iload_n iX5_parts_0 rfl ?_
  refine j_S1R okX5_isKind lk_X5_152 iX5_parts_1 (by omega) (c_isKind x) rfl (Nat.le_of_ble_eq_true rfl) (Nat.le_of_ble_eq_true rfl) ?_
  refine j_if_eqB (tgt := 14) iX5_parts_4 (by decide) (fun hno => Bool.noConfusion (hno.symm.trans (show _ = true from hx))) (fun _ => ?_)
  refine j_iload_n iX5_parts_7 rfl ?_
  refine j_S1R okX5_isOneOfTwo lk_X5_181 iX5_parts_8 (by omega) (c_isOneOfTwo y) rfl (Nat.le_of_ble_eq_true rfl) (Nat.le_of_ble_eq_true rfl) ?_
  refine j_if_neB (tgt := 17) iX5_parts_11 (by decide) (fun _ => ?_) (fun hno => Bool.noConfusion (hno.symm.trans (show _ = true from hy)))
  refine j_aload_n iX5_parts_17 rfl ?_
  refine j_get fk_X5_26 iX5_parts_18 (by repeat (first | assumption | refine wset_ne (by decide) ?_ | exact wset_lt (by (try simp only [List.length_set]); exact wsome (by assumption)))) (by rfl) ?_
  refine j_V0R okX3_isThere lk_X5_184 iX5_parts_21 (by omega) (by repeat (first | assumption | refine wset_ne (by decide) ?_ | exact wset_lt (by (try simp only [List.length_set]); exact wsome (by assumption)))) rfl (c_isThere s3 (by decide)) rfl (Nat.le_of_ble_eq_true rfl) (Nat.le_of_ble_eq_true rfl) ?_
  refine j_if_neB (tgt := 30) iX5_parts_24 (by decide) (fun hno => Bool.noConfusion (hno.symm.trans (show _ = false from rfl))) (fun _ => ?_)
  refine j_bipush (v := (-103)) iX5_parts_27 (by decide) ?_
  refine j_iret iX5_parts_29 rfl (by first | rfl | exact nar_bI _ | exact nar_bP) (⟨rfl, rfl⟩)
def peaceV (C N fr k y : Nat) : Nat := if y = 0 then pop (peaceRec (fanF C N k) 12 fr) else peaceRec (fanF C N k) 12 fr
def guardV (C N fr k y : Nat) : Nat := if y = 0 then pop (guardRec (fanF C N k) fr 12 0 0 fr) else guardRec (fanF C N k) fr 12 0 0 fr
def partsV (C N fr k y : Nat) : Nat := if y = 0 then pcF (fanF C N k) fr else (tsF (fanF C N k) fr).toNat
theorem c_peace (h0 : w[0]? = some (oB ik rd)) (hG : GW w R C) (hN : R * C ≤ 12) (hS : NOW w fr lp lps sn ks sts sof sso) (hV : SV fr lp sn ks sts sof sso) (hl : 0 < lp) (k y : Nat) (hk : k < 5) (hy : y < 2) : JR 20 mX5_peace [.ref 0, .int (nI k), .int (nI y)] w (.int (nI (peaceV C (R * C) fr k y))) w := by
  obtain ⟨g2, g9, -⟩ := id hG
  obtain ⟨s3, s15, s16, s17, s18⟩ := id hS
  obtain ⟨v1, v2, v3, v4, v5, v6, v7⟩ := id hV
  have hb : peaceRec (fanF C (R * C) k) 12 fr < 4096 := peaceRec_b 12 fr (by omega)
  refine j_start (ls := [.ref 0, .int (nI k), .int (nI y), .null]) rfl ?_
  refine j_iload_n iX5_peace_0 rfl ?_
  refine j_S1R okX5_isKind lk_X5_152 iX5_peace_1 (by omega) (c_isKind _) rfl (Nat.le_of_ble_eq_true rfl) (Nat.le_of_ble_eq_true rfl) ?_
  refine j_if_eqB (tgt := 14) iX5_peace_4 (by decide) (fun hno => Bool.noConfusion (hno.symm.trans (show _ = true from by rw [inR_nI (by omega) (by decide)]; exact decide_eq_true hk))) (fun _ => ?_)
  refine j_iload_n iX5_peace_7 rfl ?_
  refine j_S1R okX5_isOneOfTwo lk_X5_181 iX5_peace_8 (by omega) (c_isOneOfTwo _) rfl (Nat.le_of_ble_eq_true rfl) (Nat.le_of_ble_eq_true rfl) ?_
  refine j_if_neB (tgt := 17) iX5_peace_11 (by decide) (fun _ => ?_) (fun hno => Bool.noConfusion (hno.symm.trans (show _ = true from by rw [inR_nI (by omega) (by decide)]; exact decide_eq_true hy)))
  refine j_aload_n iX5_peace_17 rfl ?_
  refine j_get fk_X5_26 iX5_peace_18 (by repeat (first | assumption | refine wset_ne (by decide) ?_ | exact wset_lt (by (try simp only [List.length_set]); exact wsome (by assumption)))) (by rfl) ?_
  refine j_V0R okX3_isThere lk_X5_184 iX5_peace_21 (by omega) (by repeat (first | assumption | refine wset_ne (by decide) ?_ | exact wset_lt (by (try simp only [List.length_set]); exact wsome (by assumption)))) rfl (c_isThere s3 v2) rfl (Nat.le_of_ble_eq_true rfl) (Nat.le_of_ble_eq_true rfl) ?_
  refine j_if_neB (tgt := 30) iX5_peace_24 (by decide) (fun _ => ?_) (fun hno => Bool.noConfusion (hno.symm.trans (show _ = true from decide_eq_true hl)))
  refine j_aload_n iX5_peace_30 rfl ?_
  refine j_get fk_X5_19 iX5_peace_31 (by repeat (first | assumption | refine wset_ne (by decide) ?_ | exact wset_lt (by (try simp only [List.length_set]); exact wsome (by assumption)))) (by rfl) ?_
  refine j_iload_n iX5_peace_34 rfl ?_
  refine j_V1R okX1_fanOf lk_X5_187 iX5_peace_35 (by omega) (by repeat (first | assumption | refine wset_ne (by decide) ?_ | exact wset_lt (by (try simp only [List.length_set]); exact wsome (by assumption)))) rfl (c_fanOf g2 g9 k hk) rfl (Nat.le_of_ble_eq_true rfl) (Nat.le_of_ble_eq_true rfl) ?_
  refine j_aload_n iX5_peace_38 rfl ?_
  refine j_get fk_X5_26 iX5_peace_39 (by repeat (first | assumption | refine wset_ne (by decide) ?_ | exact wset_lt (by (try simp only [List.length_set]); exact wsome (by assumption)))) (by rfl) ?_
  refine j_get fk_X5_89 iX5_peace_42 (by repeat (first | assumption | refine wset_ne (by decide) ?_ | exact wset_lt (by (try simp only [List.length_set]); exact wsome (by assumption)))) (by rfl) ?_
  refine j_bipush (v := nI 11) iX5_peace_45 (by decide) ?_
  refine j_top (y := hI 12) (by decide) ?_
  refine j_SN3R okX1_mostInPeace nk_X5_190 iX5_peace_47 (by omega) (c_mostInPeace (hG.row hk) (fun i => fanF_b _ _ _ _ hN) 12 fr (by omega) v1) rfl (Nat.le_of_ble_eq_true rfl) (Nat.le_of_ble_eq_true rfl) ?_
  refine j_istore_n iX5_peace_50 (by decide) rfl ?_
  dsimp only [List.set]
  refine j_iload_n iX5_peace_51 rfl ?_
  refine j_if_neN (tgt := 62) iX5_peace_52 (by decide) (by omega) (fun h52 => ?_) (fun h52 => ?_)
  · refine j_iload_n iX5_peace_62 rfl ?_
    refine j_iret iX5_peace_63 rfl (by first | rfl | exact nar_bI _ | exact nar_bP) (⟨by unfold peaceV; first | rw [if_pos h52] | rw [if_neg h52], rfl⟩)
  · refine j_iload_n iX5_peace_55 rfl ?_
    refine j_S1R okJ6_bitCount lk_X5_168 iX5_peace_56 (by omega) (c_bitCount _ hb) rfl (Nat.le_of_ble_eq_true rfl) (Nat.le_of_ble_eq_true rfl) ?_
    refine j_goto (tgt := 63) iX5_peace_59 (by decide) ?_
    refine j_iret iX5_peace_63 rfl (by first | rfl | exact nar_bI _ | exact nar_bP) (⟨by unfold peaceV; first | rw [if_pos h52] | rw [if_neg h52], rfl⟩)
theorem c_guard (h0 : w[0]? = some (oB ik rd)) (hG : GW w R C) (hN : R * C ≤ 12) (hS : NOW w fr lp lps sn ks sts sof sso) (hV : SV fr lp sn ks sts sof sso) (hl : 0 < lp) (k y : Nat) (hk : k < 5) (hy : y < 2) : JR 20 mX5_guard [.ref 0, .int (nI k), .int (nI y)] w (.int (nI (guardV C (R * C) fr k y))) w := by
  obtain ⟨g2, g9, -⟩ := id hG
  obtain ⟨s3, s15, s16, s17, s18⟩ := id hS
  obtain ⟨v1, v2, v3, v4, v5, v6, v7⟩ := id hV
  have hb : guardRec (fanF C (R * C) k) fr 12 0 0 fr < 4096 := guardRec_b 12 0 0 fr (by decide) v1
  refine j_start (ls := [.ref 0, .int (nI k), .int (nI y), .null]) rfl ?_
  refine j_iload_n iX5_guard_0 rfl ?_
  refine j_S1R okX5_isKind lk_X5_152 iX5_guard_1 (by omega) (c_isKind _) rfl (Nat.le_of_ble_eq_true rfl) (Nat.le_of_ble_eq_true rfl) ?_
  refine j_if_eqB (tgt := 14) iX5_guard_4 (by decide) (fun hno => Bool.noConfusion (hno.symm.trans (show _ = true from by rw [inR_nI (by omega) (by decide)]; exact decide_eq_true hk))) (fun _ => ?_)
  refine j_iload_n iX5_guard_7 rfl ?_
  refine j_S1R okX5_isOneOfTwo lk_X5_181 iX5_guard_8 (by omega) (c_isOneOfTwo _) rfl (Nat.le_of_ble_eq_true rfl) (Nat.le_of_ble_eq_true rfl) ?_
  refine j_if_neB (tgt := 17) iX5_guard_11 (by decide) (fun _ => ?_) (fun hno => Bool.noConfusion (hno.symm.trans (show _ = true from by rw [inR_nI (by omega) (by decide)]; exact decide_eq_true hy)))
  refine j_aload_n iX5_guard_17 rfl ?_
  refine j_get fk_X5_26 iX5_guard_18 (by repeat (first | assumption | refine wset_ne (by decide) ?_ | exact wset_lt (by (try simp only [List.length_set]); exact wsome (by assumption)))) (by rfl) ?_
  refine j_V0R okX3_isThere lk_X5_184 iX5_guard_21 (by omega) (by repeat (first | assumption | refine wset_ne (by decide) ?_ | exact wset_lt (by (try simp only [List.length_set]); exact wsome (by assumption)))) rfl (c_isThere s3 v2) rfl (Nat.le_of_ble_eq_true rfl) (Nat.le_of_ble_eq_true rfl) ?_
  refine j_if_neB (tgt := 30) iX5_guard_24 (by decide) (fun _ => ?_) (fun hno => Bool.noConfusion (hno.symm.trans (show _ = true from decide_eq_true hl)))
  refine j_aload_n iX5_guard_30 rfl ?_
  refine j_get fk_X5_19 iX5_guard_31 (by repeat (first | assumption | refine wset_ne (by decide) ?_ | exact wset_lt (by (try simp only [List.length_set]); exact wsome (by assumption)))) (by rfl) ?_
  refine j_iload_n iX5_guard_34 rfl ?_
  refine j_V1R okX1_fanOf lk_X5_187 iX5_guard_35 (by omega) (by repeat (first | assumption | refine wset_ne (by decide) ?_ | exact wset_lt (by (try simp only [List.length_set]); exact wsome (by assumption)))) rfl (c_fanOf g2 g9 k hk) rfl (Nat.le_of_ble_eq_true rfl) (Nat.le_of_ble_eq_true rfl) ?_
  refine j_aload_n iX5_guard_38 rfl ?_
  refine j_get fk_X5_26 iX5_guard_39 (by repeat (first | assumption | refine wset_ne (by decide) ?_ | exact wset_lt (by (try simp only [List.length_set]); exact wsome (by assumption)))) (by rfl) ?_
  refine j_get fk_X5_89 iX5_guard_42 (by repeat (first | assumption | refine wset_ne (by decide) ?_ | exact wset_lt (by (try simp only [List.length_set]); exact wsome (by assumption)))) (by rfl) ?_
  refine j_iconst (v := nI 0) iX5_guard_45 (by decide) ?_
  refine j_iconst (v := nI 0) iX5_guard_46 (by decide) ?_
  refine j_aload_n iX5_guard_47 rfl ?_
  refine j_get fk_X5_26 iX5_guard_48 (by repeat (first | assumption | refine wset_ne (by decide) ?_ | exact wset_lt (by (try simp only [List.length_set]); exact wsome (by assumption)))) (by rfl) ?_
  refine j_get fk_X5_89 iX5_guard_51 (by repeat (first | assumption | refine wset_ne (by decide) ?_ | exact wset_lt (by (try simp only [List.length_set]); exact wsome (by assumption)))) (by rfl) ?_
  refine j_iconst (v := nI 0) iX5_guard_54 (by decide) ?_
  refine j_SN6R okX1_fewestGuards nk_X5_193 iX5_guard_55 (by omega) (c_fewestGuards (hG.row hk) (fun i => fanF_b _ _ _ _ hN) fr v1 12 0 0 fr (by omega) (by decide) (by decide) v1) rfl (Nat.le_of_ble_eq_true rfl) (Nat.le_of_ble_eq_true rfl) ?_
  refine j_istore_n iX5_guard_58 (by decide) rfl ?_
  dsimp only [List.set]
  refine j_iload_n iX5_guard_59 rfl ?_
  refine j_if_neN (tgt := 70) iX5_guard_60 (by decide) (by omega) (fun h60 => ?_) (fun h60 => ?_)
  · refine j_iload_n iX5_guard_70 rfl ?_
    refine j_iret iX5_guard_71 rfl (by first | rfl | exact nar_bI _ | exact nar_bP) (⟨by unfold guardV; first | rw [if_pos h60] | rw [if_neg h60], rfl⟩)
  · refine j_iload_n iX5_guard_63 rfl ?_
    refine j_S1R okJ6_bitCount lk_X5_168 iX5_guard_64 (by omega) (c_bitCount _ hb) rfl (Nat.le_of_ble_eq_true rfl) (Nat.le_of_ble_eq_true rfl) ?_
    refine j_goto (tgt := 71) iX5_guard_67 (by decide) ?_
    refine j_iret iX5_guard_71 rfl (by first | rfl | exact nar_bI _ | exact nar_bP) (⟨by unfold guardV; first | rw [if_pos h60] | rw [if_neg h60], rfl⟩)
theorem c_parts (h0 : w[0]? = some (oB ik rd)) (hG : GW w R C) (hN : R * C ≤ 12) (hS : NOW w fr lp lps sn ks sts sof sso) (hV : SV fr lp sn ks sts sof sso) (hl : 0 < lp) (k y : Nat) (hk : k < 5) (hy : y < 2) : JR 20 mX5_parts [.ref 0, .int (nI k), .int (nI y)] w (.int (nI (partsV C (R * C) fr k y))) w := by
  obtain ⟨g2, g9, -⟩ := id hG
  obtain ⟨s3, s15, s16, s17, s18⟩ := id hS
  obtain ⟨v1, v2, v3, v4, v5, v6, v7⟩ := id hV
  refine j_start (ls := [.ref 0, .int (nI k), .int (nI y), .null]) rfl ?_
  refine j_iload_n iX5_parts_0 rfl ?_
  refine j_S1R okX5_isKind lk_X5_152 iX5_parts_1 (by omega) (c_isKind _) rfl (Nat.le_of_ble_eq_true rfl) (Nat.le_of_ble_eq_true rfl) ?_
  refine j_if_eqB (tgt := 14) iX5_parts_4 (by decide) (fun hno => Bool.noConfusion (hno.symm.trans (show _ = true from by rw [inR_nI (by omega) (by decide)]; exact decide_eq_true hk))) (fun _ => ?_)
  refine j_iload_n iX5_parts_7 rfl ?_
  refine j_S1R okX5_isOneOfTwo lk_X5_181 iX5_parts_8 (by omega) (c_isOneOfTwo _) rfl (Nat.le_of_ble_eq_true rfl) (Nat.le_of_ble_eq_true rfl) ?_
  refine j_if_neB (tgt := 17) iX5_parts_11 (by decide) (fun _ => ?_) (fun hno => Bool.noConfusion (hno.symm.trans (show _ = true from by rw [inR_nI (by omega) (by decide)]; exact decide_eq_true hy)))
  refine j_aload_n iX5_parts_17 rfl ?_
  refine j_get fk_X5_26 iX5_parts_18 (by repeat (first | assumption | refine wset_ne (by decide) ?_ | exact wset_lt (by (try simp only [List.length_set]); exact wsome (by assumption)))) (by rfl) ?_
  refine j_V0R okX3_isThere lk_X5_184 iX5_parts_21 (by omega) (by repeat (first | assumption | refine wset_ne (by decide) ?_ | exact wset_lt (by (try simp only [List.length_set]); exact wsome (by assumption)))) rfl (c_isThere s3 v2) rfl (Nat.le_of_ble_eq_true rfl) (Nat.le_of_ble_eq_true rfl) ?_
  refine j_if_neB (tgt := 30) iX5_parts_24 (by decide) (fun _ => ?_) (fun hno => Bool.noConfusion (hno.symm.trans (show _ = true from decide_eq_true hl)))
  refine j_aload_n iX5_parts_30 rfl ?_
  refine j_get fk_X5_19 iX5_parts_31 (by repeat (first | assumption | refine wset_ne (by decide) ?_ | exact wset_lt (by (try simp only [List.length_set]); exact wsome (by assumption)))) (by rfl) ?_
  refine j_iload_n iX5_parts_34 rfl ?_
  refine j_V1R okX1_fanOf lk_X5_187 iX5_parts_35 (by omega) (by repeat (first | assumption | refine wset_ne (by decide) ?_ | exact wset_lt (by (try simp only [List.length_set]); exact wsome (by assumption)))) rfl (c_fanOf g2 g9 k hk) rfl (Nat.le_of_ble_eq_true rfl) (Nat.le_of_ble_eq_true rfl) ?_
  refine j_astore_n iX5_parts_38 (by decide) rfl ?_
  dsimp only [List.set]
  refine j_iload_n iX5_parts_39 rfl ?_
  refine j_if_neN (tgt := 55) iX5_parts_40 (by decide) (by omega) (fun h40 => ?_) (fun h40 => ?_)
  · refine j_aload_n iX5_parts_55 rfl ?_
    refine j_aload_n iX5_parts_56 rfl ?_
    refine j_get fk_X5_26 iX5_parts_57 (by repeat (first | assumption | refine wset_ne (by decide) ?_ | exact wset_lt (by (try simp only [List.length_set]); exact wsome (by assumption)))) (by rfl) ?_
    refine j_get fk_X5_89 iX5_parts_60 (by repeat (first | assumption | refine wset_ne (by decide) ?_ | exact wset_lt (by (try simp only [List.length_set]); exact wsome (by assumption)))) (by rfl) ?_
    refine j_S2R okX1_isTwoShaded lk_X5_201 iX5_parts_63 (by omega) (c_isTwoShaded (hG.row hk) (fun i => fanF_b _ _ _ _ hN) fr v1) rfl (Nat.le_of_ble_eq_true rfl) (Nat.le_of_ble_eq_true rfl) ?_
    refine j_if_eqB (tgt := 73) iX5_parts_66 (by decide) (fun h66 => ?_) (fun h66 => ?_)
    · refine j_iconst (v := nI 0) iX5_parts_73 (by decide) ?_
      refine j_iret iX5_parts_74 rfl (by first | rfl | exact nar_bI _ | exact nar_bP) (⟨by unfold partsV; first | rw [if_pos h40] | (rw [if_neg h40, h66]; rfl), rfl⟩)
    · refine j_iconst (v := nI 1) iX5_parts_69 (by decide) ?_
      refine j_goto (tgt := 74) iX5_parts_70 (by decide) ?_
      refine j_iret iX5_parts_74 rfl (by first | rfl | exact nar_bI _ | exact nar_bP) (⟨by unfold partsV; first | rw [if_pos h40] | (rw [if_neg h40, h66]; rfl), rfl⟩)
  · refine j_aload_n iX5_parts_43 rfl ?_
    refine j_aload_n iX5_parts_44 rfl ?_
    refine j_get fk_X5_26 iX5_parts_45 (by repeat (first | assumption | refine wset_ne (by decide) ?_ | exact wset_lt (by (try simp only [List.length_set]); exact wsome (by assumption)))) (by rfl) ?_
    refine j_get fk_X5_89 iX5_parts_48 (by repeat (first | assumption | refine wset_ne (by decide) ?_ | exact wset_lt (by (try simp only [List.length_set]); exact wsome (by assumption)))) (by rfl) ?_
    refine j_S2R okX1_partCount lk_X5_197 iX5_parts_51 (by omega) (c_partCount (hG.row hk) (fun i => fanF_b _ _ _ _ hN) fr v1) rfl (Nat.le_of_ble_eq_true rfl) (Nat.le_of_ble_eq_true rfl) ?_
    refine j_iret iX5_parts_54 rfl (by first | rfl | exact nar_bI _ | exact nar_bP) (⟨by unfold partsV; first | rw [if_pos h40] | (rw [if_neg h40, h66]; rfl), rfl⟩)
theorem c_chance_u (h0 : w[0]? = some (oB ik rd)) (hG : GW w R C) (hS : NOW w fr lp lps sn ks sts sof sso) (hV : SV fr lp sn ks sts sof sso) (x y z : Int32) (hx : inR x lp = false ∨ inR y (R * C) = false) : JR 4 mX5_chance [.ref 0, .int x, .int y, .int z] w (.int (-101)) w := by
  obtain ⟨g2, -⟩ := hG
  obtain ⟨s3, s15, s16, s17, s18⟩ := hS
  obtain ⟨v1, v2, v3, v4, v5, v6, v7⟩ := hV
  refine j_start (ls := [.ref 0, .int x, .int y, .int z, .null, .null]) rfl ?_
  refine j_aload_n iX5_chance_0 rfl ?_
  refine j_get fk_X5_26 iX5_chance_1 (by repeat (first | assumption | refine wset_ne (by decide) ?_ | exact wset_lt (by (try simp only [List.length_set]); exact wsome (by assumption)))) (by rfl) ?_
  refine j_iload_n iX5_chance_4 rfl ?_
  refine j_V1R okX3_hasLeaper lk_X5_120 iX5_chance_5 (by omega) (by repeat (first | assumption | refine wset_ne (by decide) ?_ | exact wset_lt (by (try simp only [List.length_set]); exact wsome (by assumption)))) rfl (c_hasLeaper s3 v2 x) rfl (Nat.le_of_ble_eq_true rfl) (Nat.le_of_ble_eq_true rfl) ?_
  refine j_if_eqB (tgt := 22) iX5_chance_8 (by decide) (fun h8 => ?_) (fun h8 => ?_)
  · refine j_bipush (v := (-101)) iX5_chance_22 (by decide) ?_
    refine j_iret iX5_chance_24 rfl (by first | rfl | exact nar_bI _ | exact nar_bP) (⟨rfl, rfl⟩)
  · refine j_aload_n iX5_chance_11 rfl ?_
    refine j_get fk_X5_19 iX5_chance_12 (by repeat (first | assumption | refine wset_ne (by decide) ?_ | exact wset_lt (by (try simp only [List.length_set]); exact wsome (by assumption)))) (by rfl) ?_
    refine j_iload_n iX5_chance_15 rfl ?_
    refine j_V1R okX1_hasCell lk_X5_155 iX5_chance_16 (by omega) (by repeat (first | assumption | refine wset_ne (by decide) ?_ | exact wset_lt (by (try simp only [List.length_set]); exact wsome (by assumption)))) rfl (c_hasCell g2 y) rfl (Nat.le_of_ble_eq_true rfl) (Nat.le_of_ble_eq_true rfl) ?_
    refine j_if_neB (tgt := 25) iX5_chance_19 (by decide) (fun hno => Bool.noConfusion (hno.symm.trans (show _ = false from by rcases hx with q | q; (rw [h8] at q; cases q); exact q))) (fun _ => ?_)
    refine j_bipush (v := (-101)) iX5_chance_22 (by decide) ?_
    refine j_iret iX5_chance_24 rfl (by first | rfl | exact nar_bI _ | exact nar_bP) (⟨rfl, rfl⟩)
theorem inR_lt {x : Int32} {n : Nat} (hn : n + 1 < 2 ^ 31) (h : inR x (n + 1) = false) (h0 : ¬ x < 0) (h1 : x ≤ nI n) : False := by
  have h2 : ¬ x < nI (n + 1) := fun z => by simp [inR, h0, z] at h
  obtain ⟨j, hj, rfl⟩ := nI_of h0
  have h3 := (nI_leI hj (by omega)).mp h1
  exact h2 ((nI_ltI hj hn).mpr (by omega))
theorem c_chance_o (h0 : w[0]? = some (oB ik rd)) (hG : GW w R C) (hS : NOW w fr lp lps sn ks sts sof sso) (hV : SV fr lp sn ks sts sof sso) (x y z : Int32) (hx : inR x lp = true) (hy : inR y (R * C) = true) (hz : inR z 7 = false) : JR 4 mX5_chance [.ref 0, .int x, .int y, .int z] w (.int (-102)) w := by
  obtain ⟨g2, -⟩ := hG
  obtain ⟨s3, s15, s16, s17, s18⟩ := hS
  obtain ⟨v1, v2, v3, v4, v5, v6, v7⟩ := hV
  refine j_start (ls := [.ref 0, .int x, .int y, .int z, .null, .null]) rfl ?_
  refine j_aload_n iX5_chance_0 rfl ?_
  refine j_get fk_X5_26 iX5_chance_1 (by repeat (first | assumption | refine wset_ne (by decide) ?_ | exact wset_lt (by (try simp only [List.length_set]); exact wsome (by assumption)))) (by rfl) ?_
  refine j_iload_n iX5_chance_4 rfl ?_
  refine j_V1R okX3_hasLeaper lk_X5_120 iX5_chance_5 (by omega) (by repeat (first | assumption | refine wset_ne (by decide) ?_ | exact wset_lt (by (try simp only [List.length_set]); exact wsome (by assumption)))) rfl (c_hasLeaper s3 v2 x) rfl (Nat.le_of_ble_eq_true rfl) (Nat.le_of_ble_eq_true rfl) ?_
  refine j_if_eqB (tgt := 22) iX5_chance_8 (by decide) (fun hno => Bool.noConfusion (hno.symm.trans (show _ = true from hx))) (fun _ => ?_)
  refine j_aload_n iX5_chance_11 rfl ?_
  refine j_get fk_X5_19 iX5_chance_12 (by repeat (first | assumption | refine wset_ne (by decide) ?_ | exact wset_lt (by (try simp only [List.length_set]); exact wsome (by assumption)))) (by rfl) ?_
  refine j_iload_n iX5_chance_15 rfl ?_
  refine j_V1R okX1_hasCell lk_X5_155 iX5_chance_16 (by omega) (by repeat (first | assumption | refine wset_ne (by decide) ?_ | exact wset_lt (by (try simp only [List.length_set]); exact wsome (by assumption)))) rfl (c_hasCell g2 y) rfl (Nat.le_of_ble_eq_true rfl) (Nat.le_of_ble_eq_true rfl) ?_
  refine j_if_neB (tgt := 25) iX5_chance_19 (by decide) (fun _ => ?_) (fun hno => Bool.noConfusion (hno.symm.trans (show _ = true from hy)))
  refine j_iload_n iX5_chance_25 rfl ?_
  refine j_if_lt (tgt := 35) iX5_chance_26 (by decide) (fun h26 => ?_) (fun h26 => ?_)
  · refine j_bipush (v := (-102)) iX5_chance_35 (by decide) ?_
    refine j_iret iX5_chance_37 rfl (by first | rfl | exact nar_bI _ | exact nar_bP) (⟨rfl, rfl⟩)
  · refine j_iload_n iX5_chance_29 rfl ?_
    refine j_bipush (v := nI 6) iX5_chance_30 (by decide) ?_
    refine j_icmp_le (tgt := 38) iX5_chance_32 (by decide) (fun hno => by first | exact absurd hno (fun q => inR_lt (n := 6) (by decide) hz h26 q) | exact absurd (fun q => inR_lt (n := 6) (by decide) hz h26 q) hno) (fun _ => ?_)
    refine j_bipush (v := (-102)) iX5_chance_35 (by decide) ?_
    refine j_iret iX5_chance_37 rfl (by first | rfl | exact nar_bI _ | exact nar_bP) (⟨rfl, rfl⟩)
def chanceV (C N fr lp : Nat) (ks sts : Nat → Nat) (j c m : Nat) : Nat := likF (fanF C N (ks j)) c (emptyF fr lp sts ||| 2 ^ sts j) m (sts j)
theorem c_chance (h0 : w[0]? = some (oB ik rd)) (hG : GW w R C) (hN : R * C ≤ 12) (hT : TW w) (hS : NOW w fr lp lps sn ks sts sof sso) (hV : SV fr lp sn ks sts sof sso) (j c m : Nat) (hj : j < lp) (hc : c < R * C) (hm : m < 7) : JX 4 mX5_chance [.ref 0, .int (nI j), .int (nI c), .int (nI m)] w (fun v u => v = some (.int (nI (chanceV C (R * C) fr lp ks sts j c m))) ∧ Keep w u) := by
  obtain ⟨g2, -⟩ := id hG
  obtain ⟨s3, s15, s16, s17, s18⟩ := id hS
  obtain ⟨v1, v2, v3, v4, v5, v6, v7⟩ := id hV
  obtain ⟨t6, -, -, -, -, ⟨z31, t31⟩, ⟨z32, t32⟩⟩ := id hT
  have a1 := v5 j
  have a3 := v4 j
  have hro : emptyF fr lp sts ||| 2 ^ sts j < 4096 := or_b (empty_b v1) (pw_b a1)
  refine j_start (ls := [.ref 0, .int (nI j), .int (nI c), .int (nI m), .null, .null]) rfl ?_
  refine j_aload_n iX5_chance_0 rfl ?_
  refine j_get fk_X5_26 iX5_chance_1 (by repeat (first | assumption | refine wset_ne (by decide) ?_ | exact wset_lt (by (try simp only [List.length_set]); exact wsome (by assumption)))) (by rfl) ?_
  refine j_iload_n iX5_chance_4 rfl ?_
  refine j_V1R okX3_hasLeaper lk_X5_120 iX5_chance_5 (by omega) (by repeat (first | assumption | refine wset_ne (by decide) ?_ | exact wset_lt (by (try simp only [List.length_set]); exact wsome (by assumption)))) rfl (c_hasLeaper s3 v2 _) rfl (Nat.le_of_ble_eq_true rfl) (Nat.le_of_ble_eq_true rfl) ?_
  refine j_if_eqB (tgt := 22) iX5_chance_8 (by decide) (fun hno => Bool.noConfusion (hno.symm.trans (show _ = true from by rw [inR_nI (by omega) (by omega)]; exact decide_eq_true hj))) (fun _ => ?_)
  refine j_aload_n iX5_chance_11 rfl ?_
  refine j_get fk_X5_19 iX5_chance_12 (by repeat (first | assumption | refine wset_ne (by decide) ?_ | exact wset_lt (by (try simp only [List.length_set]); exact wsome (by assumption)))) (by rfl) ?_
  refine j_iload_n iX5_chance_15 rfl ?_
  refine j_V1R okX1_hasCell lk_X5_155 iX5_chance_16 (by omega) (by repeat (first | assumption | refine wset_ne (by decide) ?_ | exact wset_lt (by (try simp only [List.length_set]); exact wsome (by assumption)))) rfl (c_hasCell g2 _) rfl (Nat.le_of_ble_eq_true rfl) (Nat.le_of_ble_eq_true rfl) ?_
  refine j_if_neB (tgt := 25) iX5_chance_19 (by decide) (fun _ => ?_) (fun hno => Bool.noConfusion (hno.symm.trans (show _ = true from by rw [inR_nI (by omega) (by omega)]; exact decide_eq_true hc)))
  refine j_iload_n iX5_chance_25 rfl ?_
  refine j_if_ltN (tgt := 35) iX5_chance_26 (by decide) (by omega) (fun hno => by exfalso; omega) (fun _ => ?_)
  refine j_iload_n iX5_chance_29 rfl ?_
  refine j_bipush (v := nI 6) iX5_chance_30 (by decide) ?_
  refine j_icmp_leN (tgt := 38) iX5_chance_32 (by decide) (by omega) (by omega) (fun _ => ?_) (fun hno => by exfalso; omega)
  refine j_aload_n iX5_chance_38 rfl ?_
  refine j_get fk_X5_26 iX5_chance_39 (by repeat (first | assumption | refine wset_ne (by decide) ?_ | exact wset_lt (by (try simp only [List.length_set]); exact wsome (by assumption)))) (by rfl) ?_
  refine j_iload_n iX5_chance_42 rfl ?_
  refine j_V1R okX3_standOf lk_X5_124 iX5_chance_43 (by omega) (by repeat (first | assumption | refine wset_ne (by decide) ?_ | exact wset_lt (by (try simp only [List.length_set]); exact wsome (by assumption)))) rfl (c_standOf s3 v2 s16 j hj) rfl (Nat.le_of_ble_eq_true rfl) (Nat.le_of_ble_eq_true rfl) ?_
  refine j_istore iX5_chance_46 (by decide) rfl ?_
  dsimp only [List.set]
  refine j_aload_n iX5_chance_48 rfl ?_
  refine j_get fk_X5_26 iX5_chance_49 (by repeat (first | assumption | refine wset_ne (by decide) ?_ | exact wset_lt (by (try simp only [List.length_set]); exact wsome (by assumption)))) (by rfl) ?_
  refine j_V0R okX3_empty lk_X5_142 iX5_chance_52 (by omega) (by repeat (first | assumption | refine wset_ne (by decide) ?_ | exact wset_lt (by (try simp only [List.length_set]); exact wsome (by assumption)))) rfl (c_empty s3 v2 s16 v5) rfl (Nat.le_of_ble_eq_true rfl) (Nat.le_of_ble_eq_true rfl) ?_
  refine j_iconst (v := nI 1) iX5_chance_55 (by decide) ?_
  refine j_iload iX5_chance_56 rfl ?_
  refine j_ishlN iX5_chance_58 (by omega) ?_
  refine j_iorN iX5_chance_59  ?_
  refine j_istore iX5_chance_60 (by decide) rfl ?_
  dsimp only [List.set]
  refine j_aload_n iX5_chance_62 rfl ?_
  refine j_get fk_X5_39 iX5_chance_63 (by repeat (first | assumption | refine wset_ne (by decide) ?_ | exact wset_lt (by (try simp only [List.length_set]); exact wsome (by assumption)))) (by rfl) ?_
  refine j_aload_n iX5_chance_66 rfl ?_
  refine j_iload_n iX5_chance_67 rfl ?_
  refine j_V1R okX5_fanOfLeaper lk_X5_138 iX5_chance_68 (by omega) (by repeat (first | assumption | refine wset_ne (by decide) ?_ | exact wset_lt (by (try simp only [List.length_set]); exact wsome (by assumption)))) rfl (c_fanOfLeaper h0 hG hS hV j hj) rfl (Nat.le_of_ble_eq_true rfl) (Nat.le_of_ble_eq_true rfl) ?_
  refine j_iload iX5_chance_71 rfl ?_
  refine j_iload_n iX5_chance_73 rfl ?_
  refine j_iload iX5_chance_74 rfl ?_
  refine j_iload_n iX5_chance_76 rfl ?_
  refine j_V5X (r := .null) (w' := []) okX4_likelihood lk_X5_205 iX5_chance_77 (by omega) (by repeat (first | assumption | refine wset_ne (by decide) ?_ | exact wset_lt (by (try simp only [List.length_set]); exact wsome (by assumption)))) rfl (c_likelihood t6 (hG.row a3) (by omega) t31 t32 (sts j) c _ m a1 (by omega) hro (by omega)) rfl (Nat.le_of_ble_eq_true rfl) (Nat.le_of_ble_eq_true rfl) ?_
  rintro v u ⟨rfl, x, y, rfl⟩
  refine j_iret iX5_chance_80 rfl (by first | rfl | exact nar_bI _ | exact nar_bP) (⟨rfl, hT.keep2 (i := 32) (j := 31) (n := 12) (Or.inr (Or.inr ⟨rfl, rfl, rfl⟩))⟩)
def countV (R C fr lp lps sn sz rd : Nat) (ks sts : Nat → Nat) (y : Nat) : Nat :=
  match y with
  | 0 => R
  | 1 => C
  | 2 => pop fr
  | 3 => lp
  | 4 => lps
  | 5 => pop (weF C (R * C) fr lp ks sts)
  | 6 => sn
  | 7 => sz
  | _ => rd
theorem c_count_o (y : Int32) (hy : inR y 9 = false) : JR 6 mX5_count [.ref 0, .int y] w (.int (-102)) w := by
  have hy2 := inR_int (by decide) hy
  refine j_start (ls := [.ref 0, .int y]) rfl ?_
  refine j_iload_n iX5_count_0 rfl ?_
  refine j_tswOut (tgt := 125) iX5_count_1 (by omega) (by decide) ?_
  refine j_bipush (v := (-102)) iX5_count_125 (by decide) ?_
  refine j_iret iX5_count_127 rfl (by first | rfl | exact nar_bI _ | exact nar_bP) (⟨rfl, rfl⟩)
theorem c_count {sz : Nat} {cl : Int32} (h0 : w[0]? = some (oB ik rd)) (hG : GW w R C) (hN : R * C ≤ 12) (hP : w[1]? = some (oP sz cl)) (hS : NOW w fr lp lps sn ks sts sof sso) (hV : SV fr lp sn ks sts sof sso) (y : Nat) (hy : y < 9) : JR 6 mX5_count [.ref 0, .int (nI y)] w (.int (nI (countV R C fr lp lps sn sz rd ks sts y))) w := by
  obtain ⟨g2, -⟩ := id hG
  obtain ⟨s3, s15, s16, s17, s18⟩ := id hS
  obtain ⟨v1, v2, v3, v4, v5, v6, v7⟩ := id hV
  refine j_start (ls := [.ref 0, .int (nI y)]) rfl ?_
  rcases (show y = 0 ∨ y = 1 ∨ y = 2 ∨ y = 3 ∨ y = 4 ∨ y = 5 ∨ y = 6 ∨ y = 7 ∨ y = 8 by omega) with rfl | rfl | rfl | rfl | rfl | rfl | rfl | rfl | rfl
  · refine j_iload_n iX5_count_0 rfl ?_
    refine j_tswIn (off := 51) (tgt := 52) iX5_count_1 (by decide) (by decide) (by decide) (by decide) ?_
    refine j_aload_n iX5_count_52 rfl ?_
    refine j_get fk_X5_19 iX5_count_53 (by repeat (first | assumption | refine wset_ne (by decide) ?_ | exact wset_lt (by (try simp only [List.length_set]); exact wsome (by assumption)))) (by rfl) ?_
    refine j_get fk_X5_230 iX5_count_56 (by repeat (first | assumption | refine wset_ne (by decide) ?_ | exact wset_lt (by (try simp only [List.length_set]); exact wsome (by assumption)))) (by rfl) ?_
    refine j_iret iX5_count_59 rfl (by first | rfl | exact nar_bI _ | exact nar_bP) (⟨rfl, rfl⟩)
  · refine j_iload_n iX5_count_0 rfl ?_
    refine j_tswIn (off := 59) (tgt := 60) iX5_count_1 (by decide) (by decide) (by decide) (by decide) ?_
    refine j_aload_n iX5_count_60 rfl ?_
    refine j_get fk_X5_19 iX5_count_61 (by repeat (first | assumption | refine wset_ne (by decide) ?_ | exact wset_lt (by (try simp only [List.length_set]); exact wsome (by assumption)))) (by rfl) ?_
    refine j_get fk_X5_232 iX5_count_64 (by repeat (first | assumption | refine wset_ne (by decide) ?_ | exact wset_lt (by (try simp only [List.length_set]); exact wsome (by assumption)))) (by rfl) ?_
    refine j_iret iX5_count_67 rfl (by first | rfl | exact nar_bI _ | exact nar_bP) (⟨rfl, rfl⟩)
  · refine j_iload_n iX5_count_0 rfl ?_
    refine j_tswIn (off := 67) (tgt := 68) iX5_count_1 (by decide) (by decide) (by decide) (by decide) ?_
    refine j_aload_n iX5_count_68 rfl ?_
    refine j_get fk_X5_26 iX5_count_69 (by repeat (first | assumption | refine wset_ne (by decide) ?_ | exact wset_lt (by (try simp only [List.length_set]); exact wsome (by assumption)))) (by rfl) ?_
    refine j_get fk_X5_89 iX5_count_72 (by repeat (first | assumption | refine wset_ne (by decide) ?_ | exact wset_lt (by (try simp only [List.length_set]); exact wsome (by assumption)))) (by rfl) ?_
    refine j_S1R okJ6_bitCount lk_X5_168 iX5_count_75 (by omega) (c_bitCount fr v1) rfl (Nat.le_of_ble_eq_true rfl) (Nat.le_of_ble_eq_true rfl) ?_
    refine j_iret iX5_count_78 rfl (by first | rfl | exact nar_bI _ | exact nar_bP) (⟨rfl, rfl⟩)
  · refine j_iload_n iX5_count_0 rfl ?_
    refine j_tswIn (off := 78) (tgt := 79) iX5_count_1 (by decide) (by decide) (by decide) (by decide) ?_
    refine j_aload_n iX5_count_79 rfl ?_
    refine j_get fk_X5_26 iX5_count_80 (by repeat (first | assumption | refine wset_ne (by decide) ?_ | exact wset_lt (by (try simp only [List.length_set]); exact wsome (by assumption)))) (by rfl) ?_
    refine j_get fk_X5_95 iX5_count_83 (by repeat (first | assumption | refine wset_ne (by decide) ?_ | exact wset_lt (by (try simp only [List.length_set]); exact wsome (by assumption)))) (by rfl) ?_
    refine j_iret iX5_count_86 rfl (by first | rfl | exact nar_bI _ | exact nar_bP) (⟨rfl, rfl⟩)
  · refine j_iload_n iX5_count_0 rfl ?_
    refine j_tswIn (off := 86) (tgt := 87) iX5_count_1 (by decide) (by decide) (by decide) (by decide) ?_
    refine j_aload_n iX5_count_87 rfl ?_
    refine j_get fk_X5_26 iX5_count_88 (by repeat (first | assumption | refine wset_ne (by decide) ?_ | exact wset_lt (by (try simp only [List.length_set]); exact wsome (by assumption)))) (by rfl) ?_
    refine j_get fk_X5_111 iX5_count_91 (by repeat (first | assumption | refine wset_ne (by decide) ?_ | exact wset_lt (by (try simp only [List.length_set]); exact wsome (by assumption)))) (by rfl) ?_
    refine j_iret iX5_count_94 rfl (by first | rfl | exact nar_bI _ | exact nar_bP) (⟨rfl, rfl⟩)
  · refine j_iload_n iX5_count_0 rfl ?_
    refine j_tswIn (off := 94) (tgt := 95) iX5_count_1 (by decide) (by decide) (by decide) (by decide) ?_
    refine j_aload_n iX5_count_95 rfl ?_
    refine j_aload_n iX5_count_96 rfl ?_
    refine j_get fk_X5_26 iX5_count_97 (by repeat (first | assumption | refine wset_ne (by decide) ?_ | exact wset_lt (by (try simp only [List.length_set]); exact wsome (by assumption)))) (by rfl) ?_
    refine j_V1R okX5_watchedEmpty lk_X5_219 iX5_count_100 (by omega) (by repeat (first | assumption | refine wset_ne (by decide) ?_ | exact wset_lt (by (try simp only [List.length_set]); exact wsome (by assumption)))) rfl (c_watchedEmpty h0 hG hN s3 s15 s16 v1 v2 v4 v5) rfl (Nat.le_of_ble_eq_true rfl) (Nat.le_of_ble_eq_true rfl) ?_
    refine j_iret iX5_count_103 rfl (by first | rfl | exact nar_bI _ | exact nar_bP) (⟨rfl, rfl⟩)
  · refine j_iload_n iX5_count_0 rfl ?_
    refine j_tswIn (off := 103) (tgt := 104) iX5_count_1 (by decide) (by decide) (by decide) (by decide) ?_
    refine j_aload_n iX5_count_104 rfl ?_
    refine j_get fk_X5_26 iX5_count_105 (by repeat (first | assumption | refine wset_ne (by decide) ?_ | exact wset_lt (by (try simp only [List.length_set]); exact wsome (by assumption)))) (by rfl) ?_
    refine j_get fk_X5_114 iX5_count_108 (by repeat (first | assumption | refine wset_ne (by decide) ?_ | exact wset_lt (by (try simp only [List.length_set]); exact wsome (by assumption)))) (by rfl) ?_
    refine j_iret iX5_count_111 rfl (by first | rfl | exact nar_bI _ | exact nar_bP) (⟨rfl, rfl⟩)
  · refine j_iload_n iX5_count_0 rfl ?_
    refine j_tswIn (off := 111) (tgt := 112) iX5_count_1 (by decide) (by decide) (by decide) (by decide) ?_
    refine j_aload_n iX5_count_112 rfl ?_
    refine j_get fk_X5_10 iX5_count_113 (by repeat (first | assumption | refine wset_ne (by decide) ?_ | exact wset_lt (by (try simp only [List.length_set]); exact wsome (by assumption)))) (by rfl) ?_
    refine j_get fk_X5_62 iX5_count_116 (by repeat (first | assumption | refine wset_ne (by decide) ?_ | exact wset_lt (by (try simp only [List.length_set]); exact wsome (by assumption)))) (by rfl) ?_
    refine j_iret iX5_count_119 rfl (by first | rfl | exact nar_bI _ | exact nar_bP) (⟨rfl, rfl⟩)
  · refine j_iload_n iX5_count_0 rfl ?_
    refine j_tswIn (off := 119) (tgt := 120) iX5_count_1 (by decide) (by decide) (by decide) (by decide) ?_
    refine j_aload_n iX5_count_120 rfl ?_
    refine j_get fk_X5_54 iX5_count_121 (by repeat (first | assumption | refine wset_ne (by decide) ?_ | exact wset_lt (by (try simp only [List.length_set]); exact wsome (by assumption)))) (by rfl) ?_
    refine j_iret iX5_count_124 rfl (by first | rfl | exact nar_bI _ | exact nar_bP) (⟨rfl, rfl⟩)
end
