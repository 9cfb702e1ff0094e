/-! ===== the reference: images ===== -/
section
variable {w : mW} {bd R C fr lp lps sn sz : Nat} {wh : Bool} {nc nf nl tl : Nat} {sd : Int64} {ik : Bool} {kb kf kl kn : Nat} {hh : Int64} {ks sts pg sof rr cc cn ks2 sts2 sof2 rr2 cc2 cn2 : Nat → Nat}
theorem m_image_s (hm : w[33]? = some (oM bd R C fr (0) lps sn sz wh nc nf nl tl sd ik kb kf kl kn hh)) : JR 0 mX6_image [.ref 33] w (.int (-103)) w := by
  refine j_start (ls := [.ref 33, .null]) rfl ?_
  refine j_aload_n iX6_image_0 rfl ?_
  refine j_get fk_X6_119 iX6_image_1 (by repeat (first | assumption | refine wset_ne (by decide) ?_ | exact wset_lt (by (try simp only [List.length_set]); exact wsome (by assumption)))) (by rfl) ?_
  refine j_if_neN (tgt := 10) iX6_image_4 (by decide) (by omega) (fun hno => by exfalso; omega) (fun _ => ?_)
  refine j_bipush (v := (-103)) iX6_image_7 (by decide) ?_
  refine j_iret iX6_image_9 rfl (by first | rfl | exact nar_bI _ | exact nar_bP) (⟨rfl, rfl⟩)
theorem m_restore_s (hm : w[33]? = some (oM bd R C fr lp lps sn sz wh nc nf nl tl sd ik kb kf kl kn hh)) (h : ik = false ∨ kb ≠ bd) (hb : kb < 2 ^ 31) (hb2 : bd < 2 ^ 31) : JR 0 mX6_restore [.ref 33] w (.int (-103)) w := by
  refine j_start (ls := [.ref 33, .null]) rfl ?_
  refine j_aload_n iX6_restore_0 rfl ?_
  refine j_get fk_X6_281 iX6_restore_1 (by repeat (first | assumption | refine wset_ne (by decide) ?_ | exact wset_lt (by (try simp only [List.length_set]); exact wsome (by assumption)))) (by rfl) ?_
  refine j_if_eqB (tgt := 18) iX6_restore_4 (by decide) (fun h4 => ?_) (fun h4 => ?_)
  · refine j_bipush (v := (-103)) iX6_restore_18 (by decide) ?_
    refine j_iret iX6_restore_20 rfl (by first | rfl | exact nar_bI _ | exact nar_bP) (⟨rfl, rfl⟩)
  · refine j_aload_n iX6_restore_7 rfl ?_
    refine j_get fk_X6_284 iX6_restore_8 (by repeat (first | assumption | refine wset_ne (by decide) ?_ | exact wset_lt (by (try simp only [List.length_set]); exact wsome (by assumption)))) (by rfl) ?_
    refine j_aload_n iX6_restore_11 rfl ?_
    refine j_get fk_X6_125 iX6_restore_12 (by repeat (first | assumption | refine wset_ne (by decide) ?_ | exact wset_lt (by (try simp only [List.length_set]); exact wsome (by assumption)))) (by rfl) ?_
    refine j_icmp_eqN (tgt := 21) iX6_restore_15 (by decide) (by omega) (by omega) (fun hno => by exfalso; rcases h with q | q; (rw [h4] at q; cases q); exact q hno) (fun _ => ?_)
    refine j_bipush (v := (-103)) iX6_restore_18 (by decide) ?_
    refine j_iret iX6_restore_20 rfl (by first | rfl | exact nar_bI _ | exact nar_bP) (⟨rfl, rfl⟩)
theorem m_image_l2 {v : mW} {M0 : mE} (hM : ∀ e, M0 = e → True)  (hm : v[33]? = some (oM bd R C fr lp lps sn sz wh nc nf nl tl sd (true) (bd) (fr) (lps) (sn) hh)) (q2 : v[36]? = some (nA 6 sof)) (q3 : v[37]? = some (nA 6 rr)) (q4 : v[38]? = some (nA 6 cc)) (q5 : v[39]? = some (nA 6 cn)) (p2 : v[49]? = some (nA 6 sof2)) (p3 : v[50]? = some (nA 6 rr2)) (p4 : v[51]? = some (nA 6 cc2)) (p5 : v[52]? = some (nA 6 cn2)) :
    ∀ (n i : Nat) (h2 h3 h4 h5 : Nat → Nat), i + n = 6 → (∀ j, j < i → h2 j = sof j) → (∀ j, j < i → h3 j = rr j) → (∀ j, j < i → h4 j = cc j) → (∀ j, j < i → h5 j = cn j) → J 0 mX6_image 86 [.ref 33, .int (nI i)] [] ((((v.set 49 (nA 6 h2)).set 50 (nA 6 h3)).set 51 (nA 6 h4)).set 52 (nA 6 h5)) (fun r u => r = some (.int (nI lps)) ∧ u = ((((v.set 49 (nA 6 sof)).set 50 (nA 6 rr)).set 51 (nA 6 cc)).set 52 (nA 6 cn))) := by
  intro n
  induction n with
  | zero =>
    intro i h2 h3 h4 h5 hi e2 e3 e4 e5
    refine j_arrN (a := 52) (n := 6) (f := h5) (g := cn) (fun j hj => e5 j (by omega)) (by repeat (first | assumption | refine wset_ne (by decide) ?_ | exact wset_lt (by (try simp only [List.length_set]); exact wsome (by assumption)))) ?_
    rw [wset2]
    refine j_arrN (a := 51) (n := 6) (f := h4) (g := cc) (fun j hj => e4 j (by omega)) (by repeat (first | assumption | refine wset_ne (by decide) ?_ | exact wset_lt (by (try simp only [List.length_set]); exact wsome (by assumption)))) ?_
    rw [List.set_comm _ _ (show (52 : Nat) ≠ 51 by decide), wset2]
    refine j_arrN (a := 50) (n := 6) (f := h3) (g := rr) (fun j hj => e3 j (by omega)) (by repeat (first | assumption | refine wset_ne (by decide) ?_ | exact wset_lt (by (try simp only [List.length_set]); exact wsome (by assumption)))) ?_
    rw [List.set_comm _ _ (show (52 : Nat) ≠ 50 by decide), List.set_comm _ _ (show (51 : Nat) ≠ 50 by decide), wset2]
    refine j_arrN (a := 49) (n := 6) (f := h2) (g := sof) (fun j hj => e2 j (by omega)) (by repeat (first | assumption | refine wset_ne (by decide) ?_ | exact wset_lt (by (try simp only [List.length_set]); exact wsome (by assumption)))) ?_
    rw [List.set_comm _ _ (show (52 : Nat) ≠ 49 by decide), List.set_comm _ _ (show (51 : Nat) ≠ 49 by decide), List.set_comm _ _ (show (50 : Nat) ≠ 49 by decide), wset2]
    refine j_iload_n iX6_image_86 rfl ?_
    refine j_bipush (v := nI 6) iX6_image_87 (by decide) ?_
    refine j_icmp_geN (tgt := 146) iX6_image_89 (by decide) (by omega) (by omega) (fun _ => ?_) (fun hno => by exfalso; omega)
    refine j_aload_n iX6_image_146 rfl ?_
    refine j_get fk_X6_122 iX6_image_147 (by repeat (first | assumption | refine wset_ne (by decide) ?_ | exact wset_lt (by (try simp only [List.length_set]); exact wsome (by assumption)))) (by rfl) ?_
    refine j_iret iX6_image_150 rfl (by first | rfl | exact nar_bI _ | exact nar_bP) (⟨rfl, rfl⟩)
  | succ n ih =>
    intro i h2 h3 h4 h5 hi e2 e3 e4 e5
    have ih2 := ih (i + 1) (un h2 i (sof i)) (un h3 i (rr i)) (un h4 i (cc i)) (un h5 i (cn i)) (by omega) (un_upto e2 rfl) (un_upto e3 rfl) (un_upto e4 rfl) (un_upto e5 rfl)
    refine j_iload_n iX6_image_86 rfl ?_
    refine j_bipush (v := nI 6) iX6_image_87 (by decide) ?_
    refine j_icmp_geN (tgt := 146) iX6_image_89 (by decide) (by omega) (by omega) (fun hno => by exfalso; omega) (fun _ => ?_)
    refine j_aload_n iX6_image_92 rfl ?_
    refine j_get fk_X6_56 iX6_image_93 (by repeat (first | assumption | refine wset_ne (by decide) ?_ | exact wset_lt (by (try simp only [List.length_set]); exact wsome (by assumption)))) (by rfl) ?_
    refine j_iload_n iX6_image_96 rfl ?_
    refine j_aload_n iX6_image_97 rfl ?_
    refine j_get fk_X6_16 iX6_image_98 (by repeat (first | assumption | refine wset_ne (by decide) ?_ | exact wset_lt (by (try simp only [List.length_set]); exact wsome (by assumption)))) (by rfl) ?_
    refine j_iload_n iX6_image_101 rfl ?_
    refine j_ialdN iX6_image_102 (by repeat (first | assumption | refine wset_ne (by decide) ?_ | exact wset_lt (by (try simp only [List.length_set]); exact wsome (by assumption)))) (by omega) ?_
    refine j_iastN iX6_image_103 (by repeat (first | assumption | refine wset_ne (by decide) ?_ | exact wset_lt (by (try simp only [List.length_set]); exact wsome (by assumption)))) (by omega) ?_
    refine j_aload_n iX6_image_104 rfl ?_
    refine j_get fk_X6_59 iX6_image_105 (by repeat (first | assumption | refine wset_ne (by decide) ?_ | exact wset_lt (by (try simp only [List.length_set]); exact wsome (by assumption)))) (by rfl) ?_
    refine j_iload_n iX6_image_108 rfl ?_
    refine j_aload_n iX6_image_109 rfl ?_
    refine j_get fk_X6_19 iX6_image_110 (by repeat (first | assumption | refine wset_ne (by decide) ?_ | exact wset_lt (by (try simp only [List.length_set]); exact wsome (by assumption)))) (by rfl) ?_
    refine j_iload_n iX6_image_113 rfl ?_
    refine j_ialdN iX6_image_114 (by repeat (first | assumption | refine wset_ne (by decide) ?_ | exact wset_lt (by (try simp only [List.length_set]); exact wsome (by assumption)))) (by omega) ?_
    refine j_iastN iX6_image_115 (by repeat (first | assumption | refine wset_ne (by decide) ?_ | exact wset_lt (by (try simp only [List.length_set]); exact wsome (by assumption)))) (by omega) ?_
    refine j_aload_n iX6_image_116 rfl ?_
    refine j_get fk_X6_62 iX6_image_117 (by repeat (first | assumption | refine wset_ne (by decide) ?_ | exact wset_lt (by (try simp only [List.length_set]); exact wsome (by assumption)))) (by rfl) ?_
    refine j_iload_n iX6_image_120 rfl ?_
    refine j_aload_n iX6_image_121 rfl ?_
    refine j_get fk_X6_22 iX6_image_122 (by repeat (first | assumption | refine wset_ne (by decide) ?_ | exact wset_lt (by (try simp only [List.length_set]); exact wsome (by assumption)))) (by rfl) ?_
    refine j_iload_n iX6_image_125 rfl ?_
    refine j_ialdN iX6_image_126 (by repeat (first | assumption | refine wset_ne (by decide) ?_ | exact wset_lt (by (try simp only [List.length_set]); exact wsome (by assumption)))) (by omega) ?_
    refine j_iastN iX6_image_127 (by repeat (first | assumption | refine wset_ne (by decide) ?_ | exact wset_lt (by (try simp only [List.length_set]); exact wsome (by assumption)))) (by omega) ?_
    refine j_aload_n iX6_image_128 rfl ?_
    refine j_get fk_X6_65 iX6_image_129 (by repeat (first | assumption | refine wset_ne (by decide) ?_ | exact wset_lt (by (try simp only [List.length_set]); exact wsome (by assumption)))) (by rfl) ?_
    refine j_iload_n iX6_image_132 rfl ?_
    refine j_aload_n iX6_image_133 rfl ?_
    refine j_get fk_X6_25 iX6_image_134 (by repeat (first | assumption | refine wset_ne (by decide) ?_ | exact wset_lt (by (try simp only [List.length_set]); exact wsome (by assumption)))) (by rfl) ?_
    refine j_iload_n iX6_image_137 rfl ?_
    refine j_ialdN iX6_image_138 (by repeat (first | assumption | refine wset_ne (by decide) ?_ | exact wset_lt (by (try simp only [List.length_set]); exact wsome (by assumption)))) (by omega) ?_
    refine j_iastN iX6_image_139 (by repeat (first | assumption | refine wset_ne (by decide) ?_ | exact wset_lt (by (try simp only [List.length_set]); exact wsome (by assumption)))) (by omega) ?_
    refine j_iincN iX6_image_140 rfl (by decide) rfl ?_
    dsimp only [List.set]
    refine j_goto (tgt := 86) iX6_image_143 (by decide) ?_
    rw [List.set_comm _ _ (show (52 : Nat) ≠ 49 by decide), List.set_comm _ _ (show (51 : Nat) ≠ 49 by decide), List.set_comm _ _ (show (50 : Nat) ≠ 49 by decide), wset2, List.set_comm _ _ (show (52 : Nat) ≠ 50 by decide), List.set_comm _ _ (show (51 : Nat) ≠ 50 by decide), wset2, List.set_comm _ _ (show (52 : Nat) ≠ 51 by decide), wset2, wset2]; exact ih2
theorem m_image_l1 {v : mW} (hm : v[33]? = some (oM bd R C fr lp lps sn sz wh nc nf nl tl sd (true) (bd) (fr) (lps) (sn) hh)) (q0 : v[34]? = some (nA 4 ks)) (q1 : v[35]? = some (nA 4 sts)) (q2 : v[36]? = some (nA 6 sof)) (q3 : v[37]? = some (nA 6 rr)) (q4 : v[38]? = some (nA 6 cc)) (q5 : v[39]? = some (nA 6 cn)) (p0 : v[47]? = some (nA 4 ks2)) (p1 : v[48]? = some (nA 4 sts2)) (p2 : v[49]? = some (nA 6 sof2)) (p3 : v[50]? = some (nA 6 rr2)) (p4 : v[51]? = some (nA 6 cc2)) (p5 : v[52]? = some (nA 6 cn2)) :
    ∀ (n i : Nat) (h0 h1 : Nat → Nat), i + n = 4 → (∀ j, j < i → h0 j = ks j) → (∀ j, j < i → h1 j = sts j) → J 0 mX6_image 49 [.ref 33, .int (nI i)] [] ((v.set 47 (nA 4 h0)).set 48 (nA 4 h1)) (fun r u => r = some (.int (nI lps)) ∧ u = ((((((v.set 47 (nA 4 ks)).set 48 (nA 4 sts)).set 49 (nA 6 sof)).set 50 (nA 6 rr)).set 51 (nA 6 cc)).set 52 (nA 6 cn))) := by
  intro n
  induction n with
  | zero =>
    intro i h0 h1 hi e0 e1
    refine j_arrN (a := 48) (n := 4) (f := h1) (g := sts) (fun j hj => e1 j (by omega)) (by repeat (first | assumption | refine wset_ne (by decide) ?_ | exact wset_lt (by (try simp only [List.length_set]); exact wsome (by assumption)))) ?_
    rw [wset2]
    refine j_arrN (a := 47) (n := 4) (f := h0) (g := ks) (fun j hj => e0 j (by omega)) (by repeat (first | assumption | refine wset_ne (by decide) ?_ | exact wset_lt (by (try simp only [List.length_set]); exact wsome (by assumption)))) ?_
    rw [List.set_comm _ _ (show (48 : Nat) ≠ 47 by decide), wset2]
    have z2 : ((v.set 47 (nA 4 ks)).set 48 (nA 4 sts))[49]? = some (nA 6 sof2) := (by repeat (first | assumption | refine wset_ne (by decide) ?_ | exact wset_lt (by (try simp only [List.length_set]); exact wsome (by assumption))))
    have z3 : ((v.set 47 (nA 4 ks)).set 48 (nA 4 sts))[50]? = some (nA 6 rr2) := (by repeat (first | assumption | refine wset_ne (by decide) ?_ | exact wset_lt (by (try simp only [List.length_set]); exact wsome (by assumption))))
    have z4 : ((v.set 47 (nA 4 ks)).set 48 (nA 4 sts))[51]? = some (nA 6 cc2) := (by repeat (first | assumption | refine wset_ne (by decide) ?_ | exact wset_lt (by (try simp only [List.length_set]); exact wsome (by assumption))))
    have z5 : ((v.set 47 (nA 4 ks)).set 48 (nA 4 sts))[52]? = some (nA 6 cn2) := (by repeat (first | assumption | refine wset_ne (by decide) ?_ | exact wset_lt (by (try simp only [List.length_set]); exact wsome (by assumption))))
    have hL := m_image_l2 (v := (v.set 47 (nA 4 ks)).set 48 (nA 4 sts)) (M0 := .inr (0, [])) (fun _ _ => trivial) (by repeat (first | assumption | refine wset_ne (by decide) ?_ | exact wset_lt (by (try simp only [List.length_set]); exact wsome (by assumption)))) (by repeat (first | assumption | refine wset_ne (by decide) ?_ | exact wset_lt (by (try simp only [List.length_set]); exact wsome (by assumption)))) (by repeat (first | assumption | refine wset_ne (by decide) ?_ | exact wset_lt (by (try simp only [List.length_set]); exact wsome (by assumption)))) (by repeat (first | assumption | refine wset_ne (by decide) ?_ | exact wset_lt (by (try simp only [List.length_set]); exact wsome (by assumption)))) (by repeat (first | assumption | refine wset_ne (by decide) ?_ | exact wset_lt (by (try simp only [List.length_set]); exact wsome (by assumption)))) z2 z3 z4 z5 6 0 sof2 rr2 cc2 cn2 rfl (fun j hj => absurd hj (Nat.not_lt_zero _)) (fun j hj => absurd hj (Nat.not_lt_zero _)) (fun j hj => absurd hj (Nat.not_lt_zero _)) (fun j hj => absurd hj (Nat.not_lt_zero _))
    rw [wset_eq z2, wset_eq z3, wset_eq z4, wset_eq z5] at hL
    refine j_iload_n iX6_image_49 rfl ?_
    refine j_iconst (v := nI 4) iX6_image_50 (by decide) ?_
    refine j_icmp_geN (tgt := 84) iX6_image_51 (by decide) (by omega) (by omega) (fun _ => ?_) (fun hno => by exfalso; omega)
    refine j_iconst (v := nI 0) iX6_image_84 (by decide) ?_
    refine j_istore_n iX6_image_85 (by decide) rfl ?_
    dsimp only [List.set]
    exact hL
  | succ n ih =>
    intro i h0 h1 hi e0 e1
    have ih2 := ih (i + 1) (un h0 i (ks i)) (un h1 i (sts i)) (by omega) (un_upto e0 rfl) (un_upto e1 rfl)
    refine j_iload_n iX6_image_49 rfl ?_
    refine j_iconst (v := nI 4) iX6_image_50 (by decide) ?_
    refine j_icmp_geN (tgt := 84) iX6_image_51 (by decide) (by omega) (by omega) (fun hno => by exfalso; omega) (fun _ => ?_)
    refine j_aload_n iX6_image_54 rfl ?_
    refine j_get fk_X6_50 iX6_image_55 (by repeat (first | assumption | refine wset_ne (by decide) ?_ | exact wset_lt (by (try simp only [List.length_set]); exact wsome (by assumption)))) (by rfl) ?_
    refine j_iload_n iX6_image_58 rfl ?_
    refine j_aload_n iX6_image_59 rfl ?_
    refine j_get fk_X6_7 iX6_image_60 (by repeat (first | assumption | refine wset_ne (by decide) ?_ | exact wset_lt (by (try simp only [List.length_set]); exact wsome (by assumption)))) (by rfl) ?_
    refine j_iload_n iX6_image_63 rfl ?_
    refine j_ialdN iX6_image_64 (by repeat (first | assumption | refine wset_ne (by decide) ?_ | exact wset_lt (by (try simp only [List.length_set]); exact wsome (by assumption)))) (by omega) ?_
    refine j_iastN iX6_image_65 (by repeat (first | assumption | refine wset_ne (by decide) ?_ | exact wset_lt (by (try simp only [List.length_set]); exact wsome (by assumption)))) (by omega) ?_
    refine j_aload_n iX6_image_66 rfl ?_
    refine j_get fk_X6_53 iX6_image_67 (by repeat (first | assumption | refine wset_ne (by decide) ?_ | exact wset_lt (by (try simp only [List.length_set]); exact wsome (by assumption)))) (by rfl) ?_
    refine j_iload_n iX6_image_70 rfl ?_
    refine j_aload_n iX6_image_71 rfl ?_
    refine j_get fk_X6_13 iX6_image_72 (by repeat (first | assumption | refine wset_ne (by decide) ?_ | exact wset_lt (by (try simp only [List.length_set]); exact wsome (by assumption)))) (by rfl) ?_
    refine j_iload_n iX6_image_75 rfl ?_
    refine j_ialdN iX6_image_76 (by repeat (first | assumption | refine wset_ne (by decide) ?_ | exact wset_lt (by (try simp only [List.length_set]); exact wsome (by assumption)))) (by omega) ?_
    refine j_iastN iX6_image_77 (by repeat (first | assumption | refine wset_ne (by decide) ?_ | exact wset_lt (by (try simp only [List.length_set]); exact wsome (by assumption)))) (by omega) ?_
    refine j_iincN iX6_image_78 rfl (by decide) rfl ?_
    dsimp only [List.set]
    refine j_goto (tgt := 49) iX6_image_81 (by decide) ?_
    rw [List.set_comm _ _ (show (48 : Nat) ≠ 47 by decide), wset2, wset2]; exact ih2
theorem m_restore_l2 {v : mW} {M0 : mE} (hM : ∀ e, M0 = e → True)  (hm : v[33]? = some (oM bd R C (kf) lp (kl) (kn) sz wh nc nf nl tl sd ik kb kf kl kn hh)) (q2 : v[49]? = some (nA 6 sof2)) (q3 : v[50]? = some (nA 6 rr2)) (q4 : v[51]? = some (nA 6 cc2)) (q5 : v[52]? = some (nA 6 cn2)) (p2 : v[36]? = some (nA 6 sof)) (p3 : v[37]? = some (nA 6 rr)) (p4 : v[38]? = some (nA 6 cc)) (p5 : v[39]? = some (nA 6 cn)) :
    ∀ (n i : Nat) (h2 h3 h4 h5 : Nat → Nat), i + n = 6 → (∀ j, j < i → h2 j = sof2 j) → (∀ j, j < i → h3 j = rr2 j) → (∀ j, j < i → h4 j = cc2 j) → (∀ j, j < i → h5 j = cn2 j) → J 0 mX6_restore 84 [.ref 33, .int (nI i)] [] ((((v.set 36 (nA 6 h2)).set 37 (nA 6 h3)).set 38 (nA 6 h4)).set 39 (nA 6 h5)) (fun r u => r = some (.int (nI kl)) ∧ u = ((((v.set 36 (nA 6 sof2)).set 37 (nA 6 rr2)).set 38 (nA 6 cc2)).set 39 (nA 6 cn2))) := by
  intro n
  induction n with
  | zero =>
    intro i h2 h3 h4 h5 hi e2 e3 e4 e5
    refine j_arrN (a := 39) (n := 6) (f := h5) (g := cn2) (fun j hj => e5 j (by omega)) (by repeat (first | assumption | refine wset_ne (by decide) ?_ | exact wset_lt (by (try simp only [List.length_set]); exact wsome (by assumption)))) ?_
    rw [wset2]
    refine j_arrN (a := 38) (n := 6) (f := h4) (g := cc2) (fun j hj => e4 j (by omega)) (by repeat (first | assumption | refine wset_ne (by decide) ?_ | exact wset_lt (by (try simp only [List.length_set]); exact wsome (by assumption)))) ?_
    rw [List.set_comm _ _ (show (39 : Nat) ≠ 38 by decide), wset2]
    refine j_arrN (a := 37) (n := 6) (f := h3) (g := rr2) (fun j hj => e3 j (by omega)) (by repeat (first | assumption | refine wset_ne (by decide) ?_ | exact wset_lt (by (try simp only [List.length_set]); exact wsome (by assumption)))) ?_
    rw [List.set_comm _ _ (show (39 : Nat) ≠ 37 by decide), List.set_comm _ _ (show (38 : Nat) ≠ 37 by decide), wset2]
    refine j_arrN (a := 36) (n := 6) (f := h2) (g := sof2) (fun j hj => e2 j (by omega)) (by repeat (first | assumption | refine wset_ne (by decide) ?_ | exact wset_lt (by (try simp only [List.length_set]); exact wsome (by assumption)))) ?_
    rw [List.set_comm _ _ (show (39 : Nat) ≠ 36 by decide), List.set_comm _ _ (show (38 : Nat) ≠ 36 by decide), List.set_comm _ _ (show (37 : Nat) ≠ 36 by decide), wset2]
    refine j_iload_n iX6_restore_84 rfl ?_
    refine j_bipush (v := nI 6) iX6_restore_85 (by decide) ?_
    refine j_icmp_geN (tgt := 144) iX6_restore_87 (by decide) (by omega) (by omega) (fun _ => ?_) (fun hno => by exfalso; omega)
    refine j_aload_n iX6_restore_144 rfl ?_
    refine j_get fk_X6_122 iX6_restore_145 (by repeat (first | assumption | refine wset_ne (by decide) ?_ | exact wset_lt (by (try simp only [List.length_set]); exact wsome (by assumption)))) (by rfl) ?_
    refine j_iret iX6_restore_148 rfl (by first | rfl | exact nar_bI _ | exact nar_bP) (⟨rfl, rfl⟩)
  | succ n ih =>
    intro i h2 h3 h4 h5 hi e2 e3 e4 e5
    have ih2 := ih (i + 1) (un h2 i (sof2 i)) (un h3 i (rr2 i)) (un h4 i (cc2 i)) (un h5 i (cn2 i)) (by omega) (un_upto e2 rfl) (un_upto e3 rfl) (un_upto e4 rfl) (un_upto e5 rfl)
    refine j_iload_n iX6_restore_84 rfl ?_
    refine j_bipush (v := nI 6) iX6_restore_85 (by decide) ?_
    refine j_icmp_geN (tgt := 144) iX6_restore_87 (by decide) (by omega) (by omega) (fun hno => by exfalso; omega) (fun _ => ?_)
    refine j_aload_n iX6_restore_90 rfl ?_
    refine j_get fk_X6_16 iX6_restore_91 (by repeat (first | assumption | refine wset_ne (by decide) ?_ | exact wset_lt (by (try simp only [List.length_set]); exact wsome (by assumption)))) (by rfl) ?_
    refine j_iload_n iX6_restore_94 rfl ?_
    refine j_aload_n iX6_restore_95 rfl ?_
    refine j_get fk_X6_56 iX6_restore_96 (by repeat (first | assumption | refine wset_ne (by decide) ?_ | exact wset_lt (by (try simp only [List.length_set]); exact wsome (by assumption)))) (by rfl) ?_
    refine j_iload_n iX6_restore_99 rfl ?_
    refine j_ialdN iX6_restore_100 (by repeat (first | assumption | refine wset_ne (by decide) ?_ | exact wset_lt (by (try simp only [List.length_set]); exact wsome (by assumption)))) (by omega) ?_
    refine j_iastN iX6_restore_101 (by repeat (first | assumption | refine wset_ne (by decide) ?_ | exact wset_lt (by (try simp only [List.length_set]); exact wsome (by assumption)))) (by omega) ?_
    refine j_aload_n iX6_restore_102 rfl ?_
    refine j_get fk_X6_19 iX6_restore_103 (by repeat (first | assumption | refine wset_ne (by decide) ?_ | exact wset_lt (by (try simp only [List.length_set]); exact wsome (by assumption)))) (by rfl) ?_
    refine j_iload_n iX6_restore_106 rfl ?_
    refine j_aload_n iX6_restore_107 rfl ?_
    refine j_get fk_X6_59 iX6_restore_108 (by repeat (first | assumption | refine wset_ne (by decide) ?_ | exact wset_lt (by (try simp only [List.length_set]); exact wsome (by assumption)))) (by rfl) ?_
    refine j_iload_n iX6_restore_111 rfl ?_
    refine j_ialdN iX6_restore_112 (by repeat (first | assumption | refine wset_ne (by decide) ?_ | exact wset_lt (by (try simp only [List.length_set]); exact wsome (by assumption)))) (by omega) ?_
    refine j_iastN iX6_restore_113 (by repeat (first | assumption | refine wset_ne (by decide) ?_ | exact wset_lt (by (try simp only [List.length_set]); exact wsome (by assumption)))) (by omega) ?_
    refine j_aload_n iX6_restore_114 rfl ?_
    refine j_get fk_X6_22 iX6_restore_115 (by repeat (first | assumption | refine wset_ne (by decide) ?_ | exact wset_lt (by (try simp only [List.length_set]); exact wsome (by assumption)))) (by rfl) ?_
    refine j_iload_n iX6_restore_118 rfl ?_
    refine j_aload_n iX6_restore_119 rfl ?_
    refine j_get fk_X6_62 iX6_restore_120 (by repeat (first | assumption | refine wset_ne (by decide) ?_ | exact wset_lt (by (try simp only [List.length_set]); exact wsome (by assumption)))) (by rfl) ?_
    refine j_iload_n iX6_restore_123 rfl ?_
    refine j_ialdN iX6_restore_124 (by repeat (first | assumption | refine wset_ne (by decide) ?_ | exact wset_lt (by (try simp only [List.length_set]); exact wsome (by assumption)))) (by omega) ?_
    refine j_iastN iX6_restore_125 (by repeat (first | assumption | refine wset_ne (by decide) ?_ | exact wset_lt (by (try simp only [List.length_set]); exact wsome (by assumption)))) (by omega) ?_
    refine j_aload_n iX6_restore_126 rfl ?_
    refine j_get fk_X6_25 iX6_restore_127 (by repeat (first | assumption | refine wset_ne (by decide) ?_ | exact wset_lt (by (try simp only [List.length_set]); exact wsome (by assumption)))) (by rfl) ?_
    refine j_iload_n iX6_restore_130 rfl ?_
    refine j_aload_n iX6_restore_131 rfl ?_
    refine j_get fk_X6_65 iX6_restore_132 (by repeat (first | assumption | refine wset_ne (by decide) ?_ | exact wset_lt (by (try simp only [List.length_set]); exact wsome (by assumption)))) (by rfl) ?_
    refine j_iload_n iX6_restore_135 rfl ?_
    refine j_ialdN iX6_restore_136 (by repeat (first | assumption | refine wset_ne (by decide) ?_ | exact wset_lt (by (try simp only [List.length_set]); exact wsome (by assumption)))) (by omega) ?_
    refine j_iastN iX6_restore_137 (by repeat (first | assumption | refine wset_ne (by decide) ?_ | exact wset_lt (by (try simp only [List.length_set]); exact wsome (by assumption)))) (by omega) ?_
    refine j_iincN iX6_restore_138 rfl (by decide) rfl ?_
    dsimp only [List.set]
    refine j_goto (tgt := 84) iX6_restore_141 (by decide) ?_
    rw [List.set_comm _ _ (show (39 : Nat) ≠ 36 by decide), List.set_comm _ _ (show (38 : Nat) ≠ 36 by decide), List.set_comm _ _ (show (37 : Nat) ≠ 36 by decide), wset2, List.set_comm _ _ (show (39 : Nat) ≠ 37 by decide), List.set_comm _ _ (show (38 : Nat) ≠ 37 by decide), wset2, List.set_comm _ _ (show (39 : Nat) ≠ 38 by decide), wset2, wset2]; exact ih2
theorem m_restore_l1 {v : mW} (hm : v[33]? = some (oM bd R C (kf) lp (kl) (kn) sz wh nc nf nl tl sd ik kb kf kl kn hh)) (q0 : v[47]? = some (nA 4 ks2)) (q1 : v[48]? = some (nA 4 sts2)) (q2 : v[49]? = some (nA 6 sof2)) (q3 : v[50]? = some (nA 6 rr2)) (q4 : v[51]? = some (nA 6 cc2)) (q5 : v[52]? = some (nA 6 cn2)) (p0 : v[34]? = some (nA 4 ks)) (p1 : v[35]? = some (nA 4 sts)) (p2 : v[36]? = some (nA 6 sof)) (p3 : v[37]? = some (nA 6 rr)) (p4 : v[38]? = some (nA 6 cc)) (p5 : v[39]? = some (nA 6 cn)) :
    ∀ (n i : Nat) (h0 h1 : Nat → Nat), i + n = 4 → (∀ j, j < i → h0 j = ks2 j) → (∀ j, j < i → h1 j = sts2 j) → J 0 mX6_restore 47 [.ref 33, .int (nI i)] [] ((v.set 34 (nA 4 h0)).set 35 (nA 4 h1)) (fun r u => r = some (.int (nI kl)) ∧ u = ((((((v.set 34 (nA 4 ks2)).set 35 (nA 4 sts2)).set 36 (nA 6 sof2)).set 37 (nA 6 rr2)).set 38 (nA 6 cc2)).set 39 (nA 6 cn2))) := by
  intro n
  induction n with
  | zero =>
    intro i h0 h1 hi e0 e1
    refine j_arrN (a := 35) (n := 4) (f := h1) (g := sts2) (fun j hj => e1 j (by omega)) (by repeat (first | assumption | refine wset_ne (by decide) ?_ | exact wset_lt (by (try simp only [List.length_set]); exact wsome (by assumption)))) ?_
    rw [wset2]
    refine j_arrN (a := 34) (n := 4) (f := h0) (g := ks2) (fun j hj => e0 j (by omega)) (by repeat (first | assumption | refine wset_ne (by decide) ?_ | exact wset_lt (by (try simp only [List.length_set]); exact wsome (by assumption)))) ?_
    rw [List.set_comm _ _ (show (35 : Nat) ≠ 34 by decide), wset2]
    have z2 : ((v.set 34 (nA 4 ks2)).set 35 (nA 4 sts2))[36]? = some (nA 6 sof) := (by repeat (first | assumption | refine wset_ne (by decide) ?_ | exact wset_lt (by (try simp only [List.length_set]); exact wsome (by assumption))))
    have z3 : ((v.set 34 (nA 4 ks2)).set 35 (nA 4 sts2))[37]? = some (nA 6 rr) := (by repeat (first | assumption | refine wset_ne (by decide) ?_ | exact wset_lt (by (try simp only [List.length_set]); exact wsome (by assumption))))
    have z4 : ((v.set 34 (nA 4 ks2)).set 35 (nA 4 sts2))[38]? = some (nA 6 cc) := (by repeat (first | assumption | refine wset_ne (by decide) ?_ | exact wset_lt (by (try simp only [List.length_set]); exact wsome (by assumption))))
    have z5 : ((v.set 34 (nA 4 ks2)).set 35 (nA 4 sts2))[39]? = some (nA 6 cn) := (by repeat (first | assumption | refine wset_ne (by decide) ?_ | exact wset_lt (by (try simp only [List.length_set]); exact wsome (by assumption))))
    have hL := m_restore_l2 (v := (v.set 34 (nA 4 ks2)).set 35 (nA 4 sts2)) (M0 := .inr (0, [])) (fun _ _ => trivial) (by repeat (first | assumption | refine wset_ne (by decide) ?_ | exact wset_lt (by (try simp only [List.length_set]); exact wsome (by assumption)))) (by repeat (first | assumption | refine wset_ne (by decide) ?_ | exact wset_lt (by (try simp only [List.length_set]); exact wsome (by assumption)))) (by repeat (first | assumption | refine wset_ne (by decide) ?_ | exact wset_lt (by (try simp only [List.length_set]); exact wsome (by assumption)))) (by repeat (first | assumption | refine wset_ne (by decide) ?_ | exact wset_lt (by (try simp only [List.length_set]); exact wsome (by assumption)))) (by repeat (first | assumption | refine wset_ne (by decide) ?_ | exact wset_lt (by (try simp only [List.length_set]); exact wsome (by assumption)))) z2 z3 z4 z5 6 0 sof rr cc cn rfl (fun j hj => absurd hj (Nat.not_lt_zero _)) (fun j hj => absurd hj (Nat.not_lt_zero _)) (fun j hj => absurd hj (Nat.not_lt_zero _)) (fun j hj => absurd hj (Nat.not_lt_zero _))
    rw [wset_eq z2, wset_eq z3, wset_eq z4, wset_eq z5] at hL
    refine j_iload_n iX6_restore_47 rfl ?_
    refine j_iconst (v := nI 4) iX6_restore_48 (by decide) ?_
    refine j_icmp_geN (tgt := 82) iX6_restore_49 (by decide) (by omega) (by omega) (fun _ => ?_) (fun hno => by exfalso; omega)
    refine j_iconst (v := nI 0) iX6_restore_82 (by decide) ?_
    refine j_istore_n iX6_restore_83 (by decide) rfl ?_
    dsimp only [List.set]
    exact hL
  | succ n ih =>
    intro i h0 h1 hi e0 e1
    have ih2 := ih (i + 1) (un h0 i (ks2 i)) (un h1 i (sts2 i)) (by omega) (un_upto e0 rfl) (un_upto e1 rfl)
    refine j_iload_n iX6_restore_47 rfl ?_
    refine j_iconst (v := nI 4) iX6_restore_48 (by decide) ?_
    refine j_icmp_geN (tgt := 82) iX6_restore_49 (by decide) (by omega) (by omega) (fun hno => by exfalso; omega) (fun _ => ?_)
    refine j_aload_n iX6_restore_52 rfl ?_
    refine j_get fk_X6_7 iX6_restore_53 (by repeat (first | assumption | refine wset_ne (by decide) ?_ | exact wset_lt (by (try simp only [List.length_set]); exact wsome (by assumption)))) (by rfl) ?_
    refine j_iload_n iX6_restore_56 rfl ?_
    refine j_aload_n iX6_restore_57 rfl ?_
    refine j_get fk_X6_50 iX6_restore_58 (by repeat (first | assumption | refine wset_ne (by decide) ?_ | exact wset_lt (by (try simp only [List.length_set]); exact wsome (by assumption)))) (by rfl) ?_
    refine j_iload_n iX6_restore_61 rfl ?_
    refine j_ialdN iX6_restore_62 (by repeat (first | assumption | refine wset_ne (by decide) ?_ | exact wset_lt (by (try simp only [List.length_set]); exact wsome (by assumption)))) (by omega) ?_
    refine j_iastN iX6_restore_63 (by repeat (first | assumption | refine wset_ne (by decide) ?_ | exact wset_lt (by (try simp only [List.length_set]); exact wsome (by assumption)))) (by omega) ?_
    refine j_aload_n iX6_restore_64 rfl ?_
    refine j_get fk_X6_13 iX6_restore_65 (by repeat (first | assumption | refine wset_ne (by decide) ?_ | exact wset_lt (by (try simp only [List.length_set]); exact wsome (by assumption)))) (by rfl) ?_
    refine j_iload_n iX6_restore_68 rfl ?_
    refine j_aload_n iX6_restore_69 rfl ?_
    refine j_get fk_X6_53 iX6_restore_70 (by repeat (first | assumption | refine wset_ne (by decide) ?_ | exact wset_lt (by (try simp only [List.length_set]); exact wsome (by assumption)))) (by rfl) ?_
    refine j_iload_n iX6_restore_73 rfl ?_
    refine j_ialdN iX6_restore_74 (by repeat (first | assumption | refine wset_ne (by decide) ?_ | exact wset_lt (by (try simp only [List.length_set]); exact wsome (by assumption)))) (by omega) ?_
    refine j_iastN iX6_restore_75 (by repeat (first | assumption | refine wset_ne (by decide) ?_ | exact wset_lt (by (try simp only [List.length_set]); exact wsome (by assumption)))) (by omega) ?_
    refine j_iincN iX6_restore_76 rfl (by decide) rfl ?_
    dsimp only [List.set]
    refine j_goto (tgt := 47) iX6_restore_79 (by decide) ?_
    rw [List.set_comm _ _ (show (35 : Nat) ≠ 34 by decide), wset2, wset2]; exact ih2
theorem m_image (hm : w[33]? = some (oM bd R C fr lp lps sn sz wh nc nf nl tl sd ik kb kf kl kn hh)) (hlp : 0 < lp) (hlp4 : lp ≤ 4) (h34 : w[34]? = some (nA 4 ks)) (h35 : w[35]? = some (nA 4 sts)) (h36 : w[36]? = some (nA 6 sof)) (h37 : w[37]? = some (nA 6 rr)) (h38 : w[38]? = some (nA 6 cc)) (h39 : w[39]? = some (nA 6 cn)) (h47 : w[47]? = some (nA 4 ks2)) (h48 : w[48]? = some (nA 4 sts2)) (h49 : w[49]? = some (nA 6 sof2)) (h50 : w[50]? = some (nA 6 rr2)) (h51 : w[51]? = some (nA 6 cc2)) (h52 : w[52]? = some (nA 6 cn2)) : JR 0 mX6_image [.ref 33] w (.int (nI lps)) (((((((w.set 33 (oM bd R C fr lp lps sn sz wh nc nf nl tl sd (true) (bd) (fr) (lps) (sn) hh)).set 47 (nA 4 ks)).set 48 (nA 4 sts)).set 49 (nA 6 sof)).set 50 (nA 6 rr)).set 51 (nA 6 cc)).set 52 (nA 6 cn)) := by
  refine j_start (ls := [.ref 33, .null]) rfl ?_
  have z0 : (w.set 33 (oM bd R C fr lp lps sn sz wh nc nf nl tl sd (true) (bd) (fr) (lps) (sn) hh))[47]? = some (nA 4 ks2) := (by repeat (first | assumption | refine wset_ne (by decide) ?_ | exact wset_lt (by (try simp only [List.length_set]); exact wsome (by assumption))))
  have z1 : (w.set 33 (oM bd R C fr lp lps sn sz wh nc nf nl tl sd (true) (bd) (fr) (lps) (sn) hh))[48]? = some (nA 4 sts2) := (by repeat (first | assumption | refine wset_ne (by decide) ?_ | exact wset_lt (by (try simp only [List.length_set]); exact wsome (by assumption))))
  have hL := m_image_l1 (v := w.set 33 (oM bd R C fr lp lps sn sz wh nc nf nl tl sd (true) (bd) (fr) (lps) (sn) hh)) (by repeat (first | assumption | refine wset_ne (by decide) ?_ | exact wset_lt (by (try simp only [List.length_set]); exact wsome (by assumption)))) (by repeat (first | assumption | refine wset_ne (by decide) ?_ | exact wset_lt (by (try simp only [List.length_set]); exact wsome (by assumption)))) (by repeat (first | assumption | refine wset_ne (by decide) ?_ | exact wset_lt (by (try simp only [List.length_set]); exact wsome (by assumption)))) (by repeat (first | assumption | refine wset_ne (by decide) ?_ | exact wset_lt (by (try simp only [List.length_set]); exact wsome (by assumption)))) (by repeat (first | assumption | refine wset_ne (by decide) ?_ | exact wset_lt (by (try simp only [List.length_set]); exact wsome (by assumption)))) (by repeat (first | assumption | refine wset_ne (by decide) ?_ | exact wset_lt (by (try simp only [List.length_set]); exact wsome (by assumption)))) (by repeat (first | assumption | refine wset_ne (by decide) ?_ | exact wset_lt (by (try simp only [List.length_set]); exact wsome (by assumption)))) z0 z1 (by repeat (first | assumption | refine wset_ne (by decide) ?_ | exact wset_lt (by (try simp only [List.length_set]); exact wsome (by assumption)))) (by repeat (first | assumption | refine wset_ne (by decide) ?_ | exact wset_lt (by (try simp only [List.length_set]); exact wsome (by assumption)))) (by repeat (first | assumption | refine wset_ne (by decide) ?_ | exact wset_lt (by (try simp only [List.length_set]); exact wsome (by assumption)))) (by repeat (first | assumption | refine wset_ne (by decide) ?_ | exact wset_lt (by (try simp only [List.length_set]); exact wsome (by assumption)))) 4 0 ks2 sts2 rfl (fun j hj => absurd hj (Nat.not_lt_zero _)) (fun j hj => absurd hj (Nat.not_lt_zero _))
  rw [wset_eq z0, wset_eq z1] at hL
  refine j_aload_n iX6_image_0 rfl ?_
  refine j_get fk_X6_119 iX6_image_1 (by repeat (first | assumption | refine wset_ne (by decide) ?_ | exact wset_lt (by (try simp only [List.length_set]); exact wsome (by assumption)))) (by rfl) ?_
  refine j_if_neN (tgt := 10) iX6_image_4 (by decide) (by omega) (fun _ => ?_) (fun hno => by exfalso; omega)
  refine j_aload_n iX6_image_10 rfl ?_
  refine j_iconst (v := nI 1) iX6_image_11 (by decide) ?_
  refine j_put fk_X6_281 iX6_image_12 (by repeat (first | assumption | refine wset_ne (by decide) ?_ | exact wset_lt (by (try simp only [List.length_set]); exact wsome (by assumption)))) (by intro; rfl) (by intro; rfl) (Nat.le_of_ble_eq_true rfl) ?_
  dsimp only [List.set]
  refine j_aload_n iX6_image_15 rfl ?_
  refine j_aload_n iX6_image_16 rfl ?_
  refine j_get fk_X6_125 iX6_image_17 (by repeat (first | assumption | refine wset_ne (by decide) ?_ | exact wset_lt (by (try simp only [List.length_set]); exact wsome (by assumption)))) (by rfl) ?_
  refine j_put fk_X6_284 iX6_image_20 (by repeat (first | assumption | refine wset_ne (by decide) ?_ | exact wset_lt (by (try simp only [List.length_set]); exact wsome (by assumption)))) (by intro; rfl) (by intro; rfl) (Nat.le_of_ble_eq_true rfl) ?_
  dsimp only [List.set]
  refine j_aload_n iX6_image_23 rfl ?_
  refine j_aload_n iX6_image_24 rfl ?_
  refine j_get fk_X6_116 iX6_image_25 (by repeat (first | assumption | refine wset_ne (by decide) ?_ | exact wset_lt (by (try simp only [List.length_set]); exact wsome (by assumption)))) (by rfl) ?_
  refine j_put fk_X6_287 iX6_image_28 (by repeat (first | assumption | refine wset_ne (by decide) ?_ | exact wset_lt (by (try simp only [List.length_set]); exact wsome (by assumption)))) (by intro; rfl) (by intro; rfl) (Nat.le_of_ble_eq_true rfl) ?_
  dsimp only [List.set]
  refine j_aload_n iX6_image_31 rfl ?_
  refine j_aload_n iX6_image_32 rfl ?_
  refine j_get fk_X6_122 iX6_image_33 (by repeat (first | assumption | refine wset_ne (by decide) ?_ | exact wset_lt (by (try simp only [List.length_set]); exact wsome (by assumption)))) (by rfl) ?_
  refine j_put fk_X6_290 iX6_image_36 (by repeat (first | assumption | refine wset_ne (by decide) ?_ | exact wset_lt (by (try simp only [List.length_set]); exact wsome (by assumption)))) (by intro; rfl) (by intro; rfl) (Nat.le_of_ble_eq_true rfl) ?_
  dsimp only [List.set]
  refine j_aload_n iX6_image_39 rfl ?_
  refine j_aload_n iX6_image_40 rfl ?_
  refine j_get fk_X6_128 iX6_image_41 (by repeat (first | assumption | refine wset_ne (by decide) ?_ | exact wset_lt (by (try simp only [List.length_set]); exact wsome (by assumption)))) (by rfl) ?_
  refine j_put fk_X6_293 iX6_image_44 (by repeat (first | assumption | refine wset_ne (by decide) ?_ | exact wset_lt (by (try simp only [List.length_set]); exact wsome (by assumption)))) (by intro; rfl) (by intro; rfl) (Nat.le_of_ble_eq_true rfl) ?_
  dsimp only [List.set]
  refine j_iconst (v := nI 0) iX6_image_47 (by decide) ?_
  refine j_istore_n iX6_image_48 (by decide) rfl ?_
  dsimp only [List.set]
  rw [wset2, wset2, wset2, wset2]; exact hL
theorem m_restore (hm : w[33]? = some (oM bd R C fr lp lps sn sz wh nc nf nl tl sd (true) (bd) kf kl kn hh)) (hb2 : bd < 2 ^ 31) (h34 : w[34]? = some (nA 4 ks)) (h35 : w[35]? = some (nA 4 sts)) (h36 : w[36]? = some (nA 6 sof)) (h37 : w[37]? = some (nA 6 rr)) (h38 : w[38]? = some (nA 6 cc)) (h39 : w[39]? = some (nA 6 cn)) (h47 : w[47]? = some (nA 4 ks2)) (h48 : w[48]? = some (nA 4 sts2)) (h49 : w[49]? = some (nA 6 sof2)) (h50 : w[50]? = some (nA 6 rr2)) (h51 : w[51]? = some (nA 6 cc2)) (h52 : w[52]? = some (nA 6 cn2)) : JR 0 mX6_restore [.ref 33] w (.int (nI kl)) (((((((w.set 33 (oM bd R C (kf) lp (kl) (kn) sz wh nc nf nl tl sd (true) (bd) kf kl kn hh)).set 34 (nA 4 ks2)).set 35 (nA 4 sts2)).set 36 (nA 6 sof2)).set 37 (nA 6 rr2)).set 38 (nA 6 cc2)).set 39 (nA 6 cn2)) := by
  refine j_start (ls := [.ref 33, .null]) rfl ?_
  have z0 : (w.set 33 (oM bd R C (kf) lp (kl) (kn) sz wh nc nf nl tl sd (true) (bd) kf kl kn hh))[34]? = some (nA 4 ks) := (by repeat (first | assumption | refine wset_ne (by decide) ?_ | exact wset_lt (by (try simp only [List.length_set]); exact wsome (by assumption))))
  have z1 : (w.set 33 (oM bd R C (kf) lp (kl) (kn) sz wh nc nf nl tl sd (true) (bd) kf kl kn hh))[35]? = some (nA 4 sts) := (by repeat (first | assumption | refine wset_ne (by decide) ?_ | exact wset_lt (by (try simp only [List.length_set]); exact wsome (by assumption))))
  have hL := m_restore_l1 (v := w.set 33 (oM bd R C (kf) lp (kl) (kn) sz wh nc nf nl tl sd (true) (bd) kf kl kn hh)) (by repeat (first | assumption | refine wset_ne (by decide) ?_ | exact wset_lt (by (try simp only [List.length_set]); exact wsome (by assumption)))) (by repeat (first | assumption | refine wset_ne (by decide) ?_ | exact wset_lt (by (try simp only [List.length_set]); exact wsome (by assumption)))) (by repeat (first | assumption | refine wset_ne (by decide) ?_ | exact wset_lt (by (try simp only [List.length_set]); exact wsome (by assumption)))) (by repeat (first | assumption | refine wset_ne (by decide) ?_ | exact wset_lt (by (try simp only [List.length_set]); exact wsome (by assumption)))) (by repeat (first | assumption | refine wset_ne (by decide) ?_ | exact wset_lt (by (try simp only [List.length_set]); exact wsome (by assumption)))) (by repeat (first | assumption | refine wset_ne (by decide) ?_ | exact wset_lt (by (try simp only [List.length_set]); exact wsome (by assumption)))) (by repeat (first | assumption | refine wset_ne (by decide) ?_ | exact wset_lt (by (try simp only [List.length_set]); exact wsome (by assumption)))) z0 z1 (by repeat (first | assumption | refine wset_ne (by decide) ?_ | exact wset_lt (by (try simp only [List.length_set]); exact wsome (by assumption)))) (by repeat (first | assumption | refine wset_ne (by decide) ?_ | exact wset_lt (by (try simp only [List.length_set]); exact wsome (by assumption)))) (by repeat (first | assumption | refine wset_ne (by decide) ?_ | exact wset_lt (by (try simp only [List.length_set]); exact wsome (by assumption)))) (by repeat (first | assumption | refine wset_ne (by decide) ?_ | exact wset_lt (by (try simp only [List.length_set]); exact wsome (by assumption)))) 4 0 ks sts rfl (fun j hj => absurd hj (Nat.not_lt_zero _)) (fun j hj => absurd hj (Nat.not_lt_zero _))
  rw [wset_eq z0, wset_eq z1] at hL
  refine j_aload_n iX6_restore_0 rfl ?_
  refine j_get fk_X6_281 iX6_restore_1 (by repeat (first | assumption | refine wset_ne (by decide) ?_ | exact wset_lt (by (try simp only [List.length_set]); exact wsome (by assumption)))) (by rfl) ?_
  refine j_if_eqB (tgt := 18) iX6_restore_4 (by decide) (fun hno => Bool.noConfusion (hno.symm.trans (show _ = true from rfl))) (fun _ => ?_)
  refine j_aload_n iX6_restore_7 rfl ?_
  refine j_get fk_X6_284 iX6_restore_8 (by repeat (first | assumption | refine wset_ne (by decide) ?_ | exact wset_lt (by (try simp only [List.length_set]); exact wsome (by assumption)))) (by rfl) ?_
  refine j_aload_n iX6_restore_11 rfl ?_
  refine j_get fk_X6_125 iX6_restore_12 (by repeat (first | assumption | refine wset_ne (by decide) ?_ | exact wset_lt (by (try simp only [List.length_set]); exact wsome (by assumption)))) (by rfl) ?_
  refine j_icmp_eqN (tgt := 21) iX6_restore_15 (by decide) (by omega) (by omega) (fun _ => ?_) (fun hno => by exfalso; omega)
  refine j_aload_n iX6_restore_21 rfl ?_
  refine j_aload_n iX6_restore_22 rfl ?_
  refine j_get fk_X6_287 iX6_restore_23 (by repeat (first | assumption | refine wset_ne (by decide) ?_ | exact wset_lt (by (try simp only [List.length_set]); exact wsome (by assumption)))) (by rfl) ?_
  refine j_put fk_X6_116 iX6_restore_26 (by repeat (first | assumption | refine wset_ne (by decide) ?_ | exact wset_lt (by (try simp only [List.length_set]); exact wsome (by assumption)))) (by intro; rfl) (by intro; rfl) (Nat.le_of_ble_eq_true rfl) ?_
  dsimp only [List.set]
  refine j_aload_n iX6_restore_29 rfl ?_
  refine j_aload_n iX6_restore_30 rfl ?_
  refine j_get fk_X6_290 iX6_restore_31 (by repeat (first | assumption | refine wset_ne (by decide) ?_ | exact wset_lt (by (try simp only [List.length_set]); exact wsome (by assumption)))) (by rfl) ?_
  refine j_put fk_X6_122 iX6_restore_34 (by repeat (first | assumption | refine wset_ne (by decide) ?_ | exact wset_lt (by (try simp only [List.length_set]); exact wsome (by assumption)))) (by intro; rfl) (by intro; rfl) (Nat.le_of_ble_eq_true rfl) ?_
  dsimp only [List.set]
  refine j_aload_n iX6_restore_37 rfl ?_
  refine j_aload_n iX6_restore_38 rfl ?_
  refine j_get fk_X6_293 iX6_restore_39 (by repeat (first | assumption | refine wset_ne (by decide) ?_ | exact wset_lt (by (try simp only [List.length_set]); exact wsome (by assumption)))) (by rfl) ?_
  refine j_put fk_X6_128 iX6_restore_42 (by repeat (first | assumption | refine wset_ne (by decide) ?_ | exact wset_lt (by (try simp only [List.length_set]); exact wsome (by assumption)))) (by intro; rfl) (by intro; rfl) (Nat.le_of_ble_eq_true rfl) ?_
  dsimp only [List.set]
  refine j_iconst (v := nI 0) iX6_restore_45 (by decide) ?_
  refine j_istore_n iX6_restore_46 (by decide) rfl ?_
  dsimp only [List.set]
  rw [wset2, wset2]; exact hL
end
