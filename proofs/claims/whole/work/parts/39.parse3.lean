/-! ===== the reference: fault and board ===== -/
section
variable {w : mW} {bd R C fr lp lps sn sz : Nat} {wh : Bool} {nc nf nl tl : Nat} {sd : Int64} {ik : Bool} {kb kf kl kn : Nat} {hh : Int64} {ks sts pg sof rr cc cn : Nat → Nat}
theorem m_fault (hm : w[33]? = some (oM bd R C fr lp lps sn sz wh nc nf nl tl sd ik kb kf kl kn hh)) (h40 : w[40]? = some (pB pg)) (hsz : sz ≤ 30) (hpg : ∀ i, pg i < 127) : JX 3 mX6_fault [.ref 33] w (ReadQ w (fun a b c d => (oM bd R C fr lp lps sn sz (a) (b) (c) (d) tl sd ik kb kf kl kn hh)) pg sz) := by
  refine j_start (ls := [.ref 33]) rfl ?_
  refine j_aload_n iX6_fault_0 rfl ?_
  refine j_V0X (r := .null) (w' := []) okX6_read lk_X6_106 iX6_fault_1 (by omega) (by repeat (first | assumption | refine wset_ne (by decide) ?_ | exact wset_lt (by (try simp only [List.length_set]); exact wsome (by assumption)))) rfl ((m_read hm h40 hsz hpg)) rfl (Nat.le_of_ble_eq_true rfl) (Nat.le_of_ble_eq_true rfl) ?_
  rintro v u ⟨rfl, h⟩
  refine j_iret iX6_fault_4 rfl (by first | rfl | exact nar_bI _ | exact nar_bP) (⟨rfl, h⟩)
theorem m_board_s (hm : w[33]? = some (oM bd R C fr lp lps sn sz wh nc nf nl tl sd ik kb kf kl kn hh)) (h40 : w[40]? = some (pB pg)) (hsz : sz ≤ 30) (hpg : ∀ i, pg i < 127) (hw : wholeF pg sz = false) : JX 3 mX6_board [.ref 33] w (fun v u => v = some (.int (-103)) ∧ ∃ nc' nf' nl', u = w.set 33 (oM bd R C fr lp lps sn sz (false) (nc') (nf') (nl') tl sd ik kb kf kl kn hh)) := by
  have hl : 33 < w.length := wsome hm
  refine j_start (ls := [.ref 33, .null, .null]) rfl ?_
  refine j_aload_n iX6_board_0 rfl ?_
  refine j_V0X (r := .null) (w' := []) okX6_read lk_X6_106 iX6_board_1 (by omega) (by repeat (first | exact hm | exact wset_lt (by (try simp only [List.length_set]); exact hl))) rfl ((m_read hm h40 hsz hpg)) rfl (Nat.le_of_ble_eq_true rfl) (Nat.le_of_ble_eq_true rfl) ?_
  rintro v u ⟨rfl, wh', nc', nf', nl', rfl, e1, e2⟩
  rw [hw] at e1; subst e1
  refine j_pop iX6_board_4 rfl ?_
  refine j_aload_n iX6_board_5 rfl ?_
  refine j_get fk_X6_96 iX6_board_6 (by repeat (first | exact hm | exact wset_lt (by (try simp only [List.length_set]); exact hl))) (by rfl) ?_
  refine j_if_neB (tgt := 15) iX6_board_9 (by decide) (fun hno => Bool.noConfusion (hno.symm.trans (show _ = false from rfl))) (fun _ => ?_)
  refine j_bipush (v := (-103)) iX6_board_12 (by decide) ?_
  refine j_iret iX6_board_14 rfl (by first | rfl | exact nar_bI _ | exact nar_bP) (⟨rfl, nc', nf', nl', rfl⟩)
theorem m_board_l (hpg : ∀ i, pg i < 127) (hw : wholeF pg sz = true) (hsz : sz ≤ 30) {V : mW} (hm : V[33]? = some (oM bd (pg 0 - 48) (pg 1 - 48) (freeF pg (nF pg)) (lpF pg sz) lps sn sz (true) (nF pg) (freeF pg (nF pg)) (lpF pg sz) tl sd ik kb kf kl kn hh)) (h34 : V[34]? = some (nA 4 ks)) (h35 : V[35]? = some (nA 4 sts)) (h40 : V[40]? = some (pB pg)) :
    ∀ (n i : Nat), i + n = lpF pg sz → ∀ x2 : Value, J 3 mX6_board 59 [.ref 33, .int (nI i), .null] [] ((V.set 34 (nA 4 (upto i (kdF pg) ks))).set 35 (nA 4 (upto i (stF pg) sts))) (fun v u => v = some (.int (nI (nF pg))) ∧ u = ((V.set 34 (nA 4 (upto (lpF pg sz) (kdF pg) ks))).set 35 (nA 4 (upto (lpF pg sz) (stF pg) sts))).set 33 (oM (bd + 1) (pg 0 - 48) (pg 1 - 48) (freeF pg (nF pg)) (lpF pg sz) (0) (0) (0) (true) (nF pg) (freeF pg (nF pg)) (lpF pg sz) tl sd ik kb kf kl kn hh)) := by
  obtain ⟨q1, q2, q3, q4, q5, q6, q7, q8, q9, q10, q11, q12, q13⟩ := whole_spec hw
  have hl : 33 < V.length := wsome hm
  intro n
  induction n with
  | zero =>
    intro i hi x2
    have ei : i = lpF pg sz := by omega
    subst ei
    refine j_iload_n iX6_board_59 rfl ?_
    refine j_aload_n iX6_board_60 rfl ?_
    refine j_get fk_X6_119 iX6_board_61 (by repeat (first | assumption | refine wset_ne (by decide) ?_ | exact wset_lt (by (try simp only [List.length_set]); exact wsome (by assumption)))) (by rfl) ?_
    refine j_icmp_geN (tgt := 116) iX6_board_64 (by decide) (by omega) (by omega) (fun _ => ?_) (fun hno => by exfalso; omega)
    refine j_aload_n iX6_board_116 rfl ?_
    refine j_iconst (v := nI 0) iX6_board_117 (by decide) ?_
    refine j_put fk_X6_122 iX6_board_118 (by repeat (first | assumption | refine wset_ne (by decide) ?_ | exact wset_lt (by (try simp only [List.length_set]); exact wsome (by assumption)))) (by intro; rfl) (by intro; rfl) (Nat.le_of_ble_eq_true rfl) ?_
    dsimp only [List.set]
    refine j_aload_n iX6_board_121 rfl ?_
    refine j_dup iX6_board_122 rfl ?_
    refine j_get fk_X6_125 iX6_board_123 (by repeat (first | assumption | refine wset_ne (by decide) ?_ | exact wset_lt (by (try simp only [List.length_set]); exact wsome (by assumption)))) (by rfl) ?_
    refine j_iconst (v := nI 1) iX6_board_126 (by decide) ?_
    refine j_iaddN iX6_board_127  ?_
    refine j_put fk_X6_125 iX6_board_128 (by repeat (first | assumption | refine wset_ne (by decide) ?_ | exact wset_lt (by (try simp only [List.length_set]); exact wsome (by assumption)))) (by intro; rfl) (by intro; rfl) (Nat.le_of_ble_eq_true rfl) ?_
    dsimp only [List.set]
    refine j_aload_n iX6_board_131 rfl ?_
    refine j_iconst (v := nI 0) iX6_board_132 (by decide) ?_
    refine j_put fk_X6_128 iX6_board_133 (by repeat (first | assumption | refine wset_ne (by decide) ?_ | exact wset_lt (by (try simp only [List.length_set]); exact wsome (by assumption)))) (by intro; rfl) (by intro; rfl) (Nat.le_of_ble_eq_true rfl) ?_
    dsimp only [List.set]
    refine j_aload_n iX6_board_136 rfl ?_
    refine j_iconst (v := nI 0) iX6_board_137 (by decide) ?_
    refine j_put fk_X6_72 iX6_board_138 (by repeat (first | assumption | refine wset_ne (by decide) ?_ | exact wset_lt (by (try simp only [List.length_set]); exact wsome (by assumption)))) (by intro; rfl) (by intro; rfl) (Nat.le_of_ble_eq_true rfl) ?_
    dsimp only [List.set]
    refine j_aload_n iX6_board_141 rfl ?_
    rw [wset2, wset2, wset2]
    refine j_V0R okX6_cells lk_X6_131 iX6_board_142 (by omega) (by repeat (first | assumption | refine wset_ne (by decide) ?_ | exact wset_lt (by (try simp only [List.length_set]); exact wsome (by assumption)))) rfl (m_cells (wset_lt (by simp only [List.length_set]; exact hl))) rfl (Nat.le_of_ble_eq_true rfl) (Nat.le_of_ble_eq_true rfl) ?_
    refine j_iret iX6_board_145 rfl (by first | rfl | exact nar_bI _ | exact nar_bP) (⟨rfl, rfl⟩)
  | succ n ih =>
    intro i hi x2
    have hq := q13 i (by omega)
    have ih2 := ih (i + 1) (by omega) .null
    rw [← upto_s i (kdF pg), ← upto_s i (stF pg)] at ih2
    refine j_iload_n iX6_board_59 rfl ?_
    refine j_aload_n iX6_board_60 rfl ?_
    refine j_get fk_X6_119 iX6_board_61 (by repeat (first | assumption | refine wset_ne (by decide) ?_ | exact wset_lt (by (try simp only [List.length_set]); exact wsome (by assumption)))) (by rfl) ?_
    refine j_icmp_geN (tgt := 116) iX6_board_64 (by decide) (by omega) (by omega) (fun hno => by exfalso; omega) (fun _ => ?_)
    refine j_iconst (v := nI 4) iX6_board_67 (by decide) ?_
    refine j_aload_n iX6_board_68 rfl ?_
    refine j_get fk_X6_76 iX6_board_69 (by repeat (first | assumption | refine wset_ne (by decide) ?_ | exact wset_lt (by (try simp only [List.length_set]); exact wsome (by assumption)))) (by rfl) ?_
    refine j_iaddN iX6_board_72  ?_
    refine j_iconst (v := nI 3) iX6_board_73 (by decide) ?_
    refine j_iload_n iX6_board_74 rfl ?_
    refine j_imulN iX6_board_75  ?_
    refine j_iaddN iX6_board_76  ?_
    refine j_top (y := nI (4 + nF pg + 3 * i)) (by rfl) ?_
    refine j_istore_n iX6_board_77 (by decide) rfl ?_
    dsimp only [List.set]
    refine j_aload_n iX6_board_78 rfl ?_
    refine j_get fk_X6_7 iX6_board_79 (by repeat (first | assumption | refine wset_ne (by decide) ?_ | exact wset_lt (by (try simp only [List.length_set]); exact wsome (by assumption)))) (by rfl) ?_
    refine j_iload_n iX6_board_82 rfl ?_
    refine j_aload_n iX6_board_83 rfl ?_
    refine j_get fk_X6_28 iX6_board_84 (by repeat (first | assumption | refine wset_ne (by decide) ?_ | exact wset_lt (by (try simp only [List.length_set]); exact wsome (by assumption)))) (by rfl) ?_
    refine j_iload_n iX6_board_87 rfl ?_
    refine j_baldN iX6_board_88 (by repeat (first | assumption | refine wset_ne (by decide) ?_ | exact wset_lt (by (try simp only [List.length_set]); exact wsome (by assumption)))) (by omega) ?_
    refine j_S1R okX6_kindBy lk_X6_89 iX6_board_89 (by omega) (m_kindBy _ (hpg _)) rfl (Nat.le_of_ble_eq_true rfl) (Nat.le_of_ble_eq_true rfl) ?_
    refine j_top (y := nI (kdF pg i)) (by rw [hq.1]; rfl) ?_
    refine j_iastN iX6_board_92 (by repeat (first | assumption | refine wset_ne (by decide) ?_ | exact wset_lt (by (try simp only [List.length_set]); exact wsome (by assumption)))) (by omega) ?_
    refine j_aload_n iX6_board_93 rfl ?_
    refine j_get fk_X6_13 iX6_board_94 (by repeat (first | assumption | refine wset_ne (by decide) ?_ | exact wset_lt (by (try simp only [List.length_set]); exact wsome (by assumption)))) (by rfl) ?_
    refine j_iload_n iX6_board_97 rfl ?_
    refine j_aload_n iX6_board_98 rfl ?_
    refine j_get fk_X6_28 iX6_board_99 (by repeat (first | assumption | refine wset_ne (by decide) ?_ | exact wset_lt (by (try simp only [List.length_set]); exact wsome (by assumption)))) (by rfl) ?_
    refine j_iload_n iX6_board_102 rfl ?_
    refine j_iconst (v := nI 1) iX6_board_103 (by decide) ?_
    refine j_iaddN iX6_board_104  ?_
    refine j_baldN iX6_board_105 (by repeat (first | assumption | refine wset_ne (by decide) ?_ | exact wset_lt (by (try simp only [List.length_set]); exact wsome (by assumption)))) (by omega) ?_
    refine j_bipush (v := nI 97) iX6_board_106 (by decide) ?_
    refine j_isubN iX6_board_108 (by omega) ?_
    refine j_top (y := nI (stF pg i)) (by rfl) ?_
    refine j_iastN iX6_board_109 (by repeat (first | assumption | refine wset_ne (by decide) ?_ | exact wset_lt (by (try simp only [List.length_set]); exact wsome (by assumption)))) (by omega) ?_
    refine j_iincN iX6_board_110 rfl (by decide) rfl ?_
    dsimp only [List.set]
    refine j_goto (tgt := 59) iX6_board_113 (by decide) ?_
    rw [List.set_comm _ _ (show (35 : Nat) ≠ 34 by decide), wset2, wset2]; exact J.fg ih2 (by first | (simp [LF]; done) | (simp [LF, bI]; done))
theorem m_board (hm : w[33]? = some (oM bd R C fr lp lps sn sz wh nc nf nl tl sd ik kb kf kl kn hh)) (h34 : w[34]? = some (nA 4 ks)) (h35 : w[35]? = some (nA 4 sts)) (h40 : w[40]? = some (pB pg)) (hsz : sz ≤ 30) (hpg : ∀ i, pg i < 127) (hw : wholeF pg sz = true) : JR 3 mX6_board [.ref 33] w (.int (nI (nF pg))) (((w.set 33 (oM (bd + 1) (pg 0 - 48) (pg 1 - 48) (freeF pg (nF pg)) (lpF pg sz) (0) (0) (0) (true) (nF pg) (freeF pg (nF pg)) (lpF pg sz) tl sd ik kb kf kl kn hh)).set 34 (nA 4 (upto (lpF pg sz) (kdF pg) ks))).set 35 (nA 4 (upto (lpF pg sz) (stF pg) sts))) := by
  obtain ⟨q1, q2, q3, q4, q5, q6, q7, q8, q9, q10, q11, q12, q13⟩ := whole_spec hw
  have hl : 33 < w.length := wsome hm
  have ep0 : nI (pg 0) - nI 48 = nI (pg 0 - 48) := pk_sub (by omega)
  have ep1 : nI (pg 1) - nI 48 = nI (pg 1 - 48) := pk_sub (by omega)
  refine j_start (ls := [.ref 33, .null, .null]) rfl ?_
  have z34 : (w.set 33 (oM bd (pg 0 - 48) (pg 1 - 48) (freeF pg (nF pg)) (lpF pg sz) lps sn sz (true) (nF pg) (freeF pg (nF pg)) (lpF pg sz) tl sd ik kb kf kl kn hh))[34]? = some (nA 4 ks) := (by repeat (first | assumption | refine wset_ne (by decide) ?_ | exact wset_lt (by (try simp only [List.length_set]); exact wsome (by assumption))))
  have z35 : (w.set 33 (oM bd (pg 0 - 48) (pg 1 - 48) (freeF pg (nF pg)) (lpF pg sz) lps sn sz (true) (nF pg) (freeF pg (nF pg)) (lpF pg sz) tl sd ik kb kf kl kn hh))[35]? = some (nA 4 sts) := (by repeat (first | assumption | refine wset_ne (by decide) ?_ | exact wset_lt (by (try simp only [List.length_set]); exact wsome (by assumption))))
  have hL := m_board_l (bd := bd) hpg hw hsz (V := w.set 33 (oM bd (pg 0 - 48) (pg 1 - 48) (freeF pg (nF pg)) (lpF pg sz) lps sn sz (true) (nF pg) (freeF pg (nF pg)) (lpF pg sz) tl sd ik kb kf kl kn hh)) (wset_lt hl) z34 z35 (wset_ne (by decide) h40) (lpF pg sz) 0 (by omega) .null
  rw [upto_0, upto_0, wset_eq z34, wset_eq z35] at hL
  refine j_aload_n iX6_board_0 rfl ?_
  refine j_V0X (r := .null) (w' := []) okX6_read lk_X6_106 iX6_board_1 (by omega) (by repeat (first | exact hm | exact wset_lt (by (try simp only [List.length_set]); exact hl) | exact h40 | refine wset_ne (by decide) ?_)) rfl ((m_read hm h40 hsz hpg)) rfl (Nat.le_of_ble_eq_true rfl) (Nat.le_of_ble_eq_true rfl) ?_
  rintro v u ⟨rfl, wh', nc', nf', nl', rfl, e1, e2⟩
  obtain ⟨rfl, rfl, rfl⟩ := e2 hw
  rw [hw] at e1; subst e1
  refine j_pop iX6_board_4 rfl ?_
  refine j_aload_n iX6_board_5 rfl ?_
  refine j_get fk_X6_96 iX6_board_6 (by repeat (first | exact hm | exact wset_lt (by (try simp only [List.length_set]); exact hl) | exact h40 | refine wset_ne (by decide) ?_)) (by rfl) ?_
  refine j_if_neB (tgt := 15) iX6_board_9 (by decide) (fun _ => ?_) (fun hno => Bool.noConfusion (hno.symm.trans (show _ = true from rfl)))
  refine j_aload_n iX6_board_15 rfl ?_
  refine j_aload_n iX6_board_16 rfl ?_
  refine j_get fk_X6_28 iX6_board_17 (by repeat (first | exact hm | exact wset_lt (by (try simp only [List.length_set]); exact hl) | exact h40 | refine wset_ne (by decide) ?_)) (by rfl) ?_
  refine j_iconst (v := nI 0) iX6_board_20 (by decide) ?_
  refine j_baldN iX6_board_21 (by repeat (first | exact hm | exact wset_lt (by (try simp only [List.length_set]); exact hl) | exact h40 | refine wset_ne (by decide) ?_)) (by omega) ?_
  refine j_bipush (v := nI 48) iX6_board_22 (by decide) ?_
  refine j_isubN iX6_board_24 (by omega) ?_
  refine j_put fk_X6_110 iX6_board_25 (by repeat (first | exact hm | exact wset_lt (by (try simp only [List.length_set]); exact hl) | exact h40 | refine wset_ne (by decide) ?_)) (by intro; rfl) (by intro; rfl) (Nat.le_of_ble_eq_true rfl) ?_
  dsimp only [List.set]
  refine j_aload_n iX6_board_28 rfl ?_
  refine j_aload_n iX6_board_29 rfl ?_
  refine j_get fk_X6_28 iX6_board_30 (by repeat (first | exact hm | exact wset_lt (by (try simp only [List.length_set]); exact hl) | exact h40 | refine wset_ne (by decide) ?_)) (by rfl) ?_
  refine j_iconst (v := nI 1) iX6_board_33 (by decide) ?_
  refine j_baldN iX6_board_34 (by repeat (first | exact hm | exact wset_lt (by (try simp only [List.length_set]); exact hl) | exact h40 | refine wset_ne (by decide) ?_)) (by omega) ?_
  refine j_bipush (v := nI 48) iX6_board_35 (by decide) ?_
  refine j_isubN iX6_board_37 (by omega) ?_
  refine j_put fk_X6_113 iX6_board_38 (by repeat (first | exact hm | exact wset_lt (by (try simp only [List.length_set]); exact hl) | exact h40 | refine wset_ne (by decide) ?_)) (by intro; rfl) (by intro; rfl) (Nat.le_of_ble_eq_true rfl) ?_
  dsimp only [List.set]
  refine j_aload_n iX6_board_41 rfl ?_
  refine j_aload_n iX6_board_42 rfl ?_
  refine j_get fk_X6_83 iX6_board_43 (by repeat (first | exact hm | exact wset_lt (by (try simp only [List.length_set]); exact hl) | exact h40 | refine wset_ne (by decide) ?_)) (by rfl) ?_
  refine j_put fk_X6_116 iX6_board_46 (by repeat (first | exact hm | exact wset_lt (by (try simp only [List.length_set]); exact hl) | exact h40 | refine wset_ne (by decide) ?_)) (by intro; rfl) (by intro; rfl) (Nat.le_of_ble_eq_true rfl) ?_
  dsimp only [List.set]
  refine j_aload_n iX6_board_49 rfl ?_
  refine j_aload_n iX6_board_50 rfl ?_
  refine j_get fk_X6_86 iX6_board_51 (by repeat (first | exact hm | exact wset_lt (by (try simp only [List.length_set]); exact hl) | exact h40 | refine wset_ne (by decide) ?_)) (by rfl) ?_
  refine j_put fk_X6_119 iX6_board_54 (by repeat (first | exact hm | exact wset_lt (by (try simp only [List.length_set]); exact hl) | exact h40 | refine wset_ne (by decide) ?_)) (by intro; rfl) (by intro; rfl) (Nat.le_of_ble_eq_true rfl) ?_
  dsimp only [List.set]
  refine j_iconst (v := nI 0) iX6_board_57 (by decide) ?_
  refine j_istore_n iX6_board_58 (by decide) rfl ?_
  dsimp only [List.set]
  rw [wset2, wset2, wset2, wset2]; refine J.conseq (J.fg hL (by first | (simp [LF]; done) | (simp [LF, bI]; done))) ?_; rintro v u ⟨rfl, rfl⟩; refine ⟨rfl, ?_⟩; rw [List.set_comm _ _ (show (35 : Nat) ≠ 33 by decide), List.set_comm _ _ (show (34 : Nat) ≠ 33 by decide), wset2]
end
