/-! ===== the reference: sorts, asks, draws, walks ===== -/
def siStep (sof rr cc cn : Nat → Nat) (k l i : Nat) (q : Bool) : Bool := q && (decide (sof i ≠ l) || (goesF k (rr i) (cc i) == decide (cn i = 1)))
def siF (sn : Nat) (sof rr cc cn : Nat → Nat) (k l : Nat) : Bool := fold (siStep sof rr cc cn k l) sn 0 true
def smF (sn : Nat) (sof rr cc cn : Nat → Nat) (l : Nat) : Nat := fold (fun k r => r ||| if siF sn sof rr cc cn k l = true then 2 ^ k else 0) 5 0 0
def yesF (S k : Nat) : Nat := fold (fun kind y => y + if S.testBit kind = true ∧ goesF kind (k / 4) (k % 4) = true then 1 else 0) 5 0 0
def amStep (S k : Nat) (bf : Option Nat × Nat) : Option Nat × Nat := if max (yesF S k) (pop S - yesF S k) < bf.2 then (some (10 * (k / 4) + k % 4), max (yesF S k) (pop S - yesF S k)) else bf
def amF (S : Nat) : Option Nat := if S = 0 then none else (fold (amStep S) 16 0 (none, 268435456)).1
theorem yes_le : ∀ S : Fin 32, ∀ k : Fin 16, yesF S.val k.val ≤ pop S.val := by decide +kernel
set_option maxRecDepth 100000 in
theorem am_eq : ∀ S : Fin 32, amF S.val = askF S.val := by decide +kernel
theorem gol_lt {C N fr lp : Nat} {ks sts : Nat → Nat} {j c : Nat} (hs : sts j < N) (h : (gol C N fr lp ks sts j).testBit c = true) : c < N := by
  have h1 := (and_tb.mp (and_tb.mp h).1).1
  rw [fan_tb hs] at h1
  simp only [Bool.and_eq_true, decide_eq_true_eq] at h1
  exact h1.1
theorem lN_rem {q d : Nat} (hq : q < 2 ^ 31) (hd : 0 < d) (hd2 : d < 2 ^ 31) : ((lN q / 65536) - (lN q / 65536) / (nI d).toInt64 * (nI d).toInt64).toInt32 = nI (q / 65536 % d) := by
  rw [show (65536 : Int64) = lN 65536 from rfl, pk_lDiv (by omega) (by decide) (by decide), nI_l hd2, pk_lRem (Nat.lt_of_le_of_lt (Nat.div_le_self _ _) (by omega)) hd (by omega), lN_i]
section
variable {w : mW} {bd R C fr lp lps sn sz : Nat} {wh : Bool} {nc nf nl tl : Nat} {sd : Int64} {ik : Bool} {kb kf kl kn : Nat} {hh : Int64} {ks sts pg sof rr cc cn : Nat → Nat}
theorem m_sortsOf (hm : w[33]? = some (oM bd R C fr lp lps sn sz wh nc nf nl tl sd ik kb kf kl kn hh)) (h36 : w[36]? = some (nA 6 sof)) (h37 : w[37]? = some (nA 6 rr)) (h38 : w[38]? = some (nA 6 cc)) (h39 : w[39]? = some (nA 6 cn)) (hsn : sn ≤ 6) (hso : ∀ i, sof i < 4) (hrr : ∀ i, rr i < 4) (hcc : ∀ i, cc i < 4) (hcn : ∀ i, cn i < 2) (l : Nat) (hl : l < 4) : JR 2 mX6_sortsOf [.ref 33, .int (nI l)] w (.int (nI (smF sn sof rr cc cn l))) w := by
  have LI : ∀ (r k : Nat) (Q : Option Value → mW → Prop), k < 5 → (J 2 mX6_sortsOf 90 [.ref 33, .int (nI l), .int (nI r), .int (nI k), .int (bI (siF sn sof rr cc cn k l)), .null] [] w Q) → ∀ (n i : Nat) (q : Bool), i + n = sn → fold (siStep sof rr cc cn k l) n i q = siF sn sof rr cc cn k l → J 2 mX6_sortsOf 15 [.ref 33, .int (nI l), .int (nI r), .int (nI k), .int (bI q), .int (nI i)] [] w Q := by
    intro r k Q hk kk n
    induction n with
    | zero =>
      intro i q hi he
      have e : q = siF sn sof rr cc cn k l := he
      subst e
      refine j_iload iX6_sortsOf_15 rfl ?_
      refine j_aload_n iX6_sortsOf_17 rfl ?_
      refine j_get fk_X6_128 iX6_sortsOf_18 (by repeat (first | assumption | refine wset_ne (by decide) ?_ | exact wset_lt (by (try simp only [List.length_set]); exact wsome (by assumption)))) (by rfl) ?_
      refine j_icmp_geN (tgt := 90) iX6_sortsOf_21 (by decide) (by omega) (by omega) (fun _ => ?_) (fun hno => by exfalso; omega)
      exact J.fg kk (by first | (simp [LF]; done) | (simp [LF, bI]; done))
    | succ n ih =>
      intro i q hi he
      have a1 := hso i
      have a2 := hrr i
      have a3 := hcc i
      have a4 := hcn i
      have a5 : (goesF k (rr i) (cc i)).toNat ≤ 1 := Bool.toNat_le _
      simp only [fold] at he
      have K : ∀ b : Bool, b = siStep sof rr cc cn k l i q → J 2 mX6_sortsOf 15 [.ref 33, .int (nI l), .int (nI r), .int (nI k), .int (bI b), .int (nI (i + 1))] [] w Q := fun b hb => ih (i + 1) b (by omega) (by rw [hb]; exact he)
      refine j_iload iX6_sortsOf_15 rfl ?_
      refine j_aload_n iX6_sortsOf_17 rfl ?_
      refine j_get fk_X6_128 iX6_sortsOf_18 (by repeat (first | assumption | refine wset_ne (by decide) ?_ | exact wset_lt (by (try simp only [List.length_set]); exact wsome (by assumption)))) (by rfl) ?_
      refine j_icmp_geN (tgt := 90) iX6_sortsOf_21 (by decide) (by omega) (by omega) (fun hno => by exfalso; omega) (fun _ => ?_)
      refine j_iload iX6_sortsOf_24 rfl ?_
      refine j_if_eqB (tgt := 81) iX6_sortsOf_26 (by decide) (fun h26 => ?_) (fun h26 => ?_)
      · refine j_iconst (v := nI 0) iX6_sortsOf_81 (by decide) ?_
        refine j_istore iX6_sortsOf_82 (by decide) rfl ?_
        dsimp only [List.set]
        refine j_iincN iX6_sortsOf_84 rfl (by decide) rfl ?_
        dsimp only [List.set]
        refine j_goto (tgt := 15) iX6_sortsOf_87 (by decide) ?_
        first | exact K false (by unfold siStep; rw [h26]; rfl) | exact K true (by unfold siStep; rw [h26, decide_eq_true h37]; rfl) | exact K true (by unfold siStep; rw [h26, decide_eq_false (fun z => z h37)]; cases e : goesF k (rr i) (cc i) <;> rw [e] at h74 <;> simp_all) | exact K false (by unfold siStep; rw [h26, decide_eq_false (fun z => z h37)]; cases e : goesF k (rr i) (cc i) <;> rw [e] at h74 <;> simp_all)
      · refine j_aload_n iX6_sortsOf_29 rfl ?_
        refine j_get fk_X6_16 iX6_sortsOf_30 (by repeat (first | assumption | refine wset_ne (by decide) ?_ | exact wset_lt (by (try simp only [List.length_set]); exact wsome (by assumption)))) (by rfl) ?_
        refine j_iload iX6_sortsOf_33 rfl ?_
        refine j_ialdN iX6_sortsOf_35 (by repeat (first | assumption | refine wset_ne (by decide) ?_ | exact wset_lt (by (try simp only [List.length_set]); exact wsome (by assumption)))) (by omega) ?_
        refine j_iload_n iX6_sortsOf_36 rfl ?_
        refine j_icmp_neN (tgt := 77) iX6_sortsOf_37 (by decide) (by omega) (by omega) (fun h37 => ?_) (fun h37 => ?_)
        · refine j_iconst (v := nI 1) iX6_sortsOf_77 (by decide) ?_
          refine j_goto (tgt := 82) iX6_sortsOf_78 (by decide) ?_
          refine j_istore iX6_sortsOf_82 (by decide) rfl ?_
          dsimp only [List.set]
          refine j_iincN iX6_sortsOf_84 rfl (by decide) rfl ?_
          dsimp only [List.set]
          refine j_goto (tgt := 15) iX6_sortsOf_87 (by decide) ?_
          first | exact K false (by unfold siStep; rw [h26]; rfl) | exact K true (by unfold siStep; rw [h26, decide_eq_true h37]; rfl) | exact K true (by unfold siStep; rw [h26, decide_eq_false (fun z => z h37)]; cases e : goesF k (rr i) (cc i) <;> rw [e] at h74 <;> simp_all) | exact K false (by unfold siStep; rw [h26, decide_eq_false (fun z => z h37)]; cases e : goesF k (rr i) (cc i) <;> rw [e] at h74 <;> simp_all)
        · refine j_iload_n iX6_sortsOf_40 rfl ?_
          refine j_aload_n iX6_sortsOf_41 rfl ?_
          refine j_get fk_X6_19 iX6_sortsOf_42 (by repeat (first | assumption | refine wset_ne (by decide) ?_ | exact wset_lt (by (try simp only [List.length_set]); exact wsome (by assumption)))) (by rfl) ?_
          refine j_iload iX6_sortsOf_45 rfl ?_
          refine j_ialdN iX6_sortsOf_47 (by repeat (first | assumption | refine wset_ne (by decide) ?_ | exact wset_lt (by (try simp only [List.length_set]); exact wsome (by assumption)))) (by omega) ?_
          refine j_aload_n iX6_sortsOf_48 rfl ?_
          refine j_get fk_X6_22 iX6_sortsOf_49 (by repeat (first | assumption | refine wset_ne (by decide) ?_ | exact wset_lt (by (try simp only [List.length_set]); exact wsome (by assumption)))) (by rfl) ?_
          refine j_iload iX6_sortsOf_52 rfl ?_
          refine j_ialdN iX6_sortsOf_54 (by repeat (first | assumption | refine wset_ne (by decide) ?_ | exact wset_lt (by (try simp only [List.length_set]); exact wsome (by assumption)))) (by omega) ?_
          refine j_S3R okX6_canBy lk_X6_142 iX6_sortsOf_55 (by omega) (m_canBy k (rr i) (cc i) hk (by omega) (by omega)) rfl (Nat.le_of_ble_eq_true rfl) (Nat.le_of_ble_eq_true rfl) ?_
          refine j_aload_n iX6_sortsOf_58 rfl ?_
          refine j_get fk_X6_25 iX6_sortsOf_59 (by repeat (first | assumption | refine wset_ne (by decide) ?_ | exact wset_lt (by (try simp only [List.length_set]); exact wsome (by assumption)))) (by rfl) ?_
          refine j_iload iX6_sortsOf_62 rfl ?_
          refine j_ialdN iX6_sortsOf_64 (by repeat (first | assumption | refine wset_ne (by decide) ?_ | exact wset_lt (by (try simp only [List.length_set]); exact wsome (by assumption)))) (by omega) ?_
          refine j_iconst (v := nI 1) iX6_sortsOf_65 (by decide) ?_
          refine j_icmp_neN (tgt := 73) iX6_sortsOf_66 (by decide) (by omega) (by omega) (fun h66 => ?_) (fun h66 => ?_)
          · refine j_iconst (v := nI 0) iX6_sortsOf_73 (by decide) ?_
            refine j_icmp_neN (tgt := 81) iX6_sortsOf_74 (by decide) (by omega) (by omega) (fun h74 => ?_) (fun h74 => ?_)
            · refine j_iconst (v := nI 0) iX6_sortsOf_81 (by decide) ?_
              refine j_istore iX6_sortsOf_82 (by decide) rfl ?_
              dsimp only [List.set]
              refine j_iincN iX6_sortsOf_84 rfl (by decide) rfl ?_
              dsimp only [List.set]
              refine j_goto (tgt := 15) iX6_sortsOf_87 (by decide) ?_
              first | exact K false (by unfold siStep; rw [h26]; rfl) | exact K true (by unfold siStep; rw [h26, decide_eq_true h37]; rfl) | exact K true (by unfold siStep; rw [h26, decide_eq_false (fun z => z h37)]; cases e : goesF k (rr i) (cc i) <;> rw [e] at h74 <;> simp_all) | exact K false (by unfold siStep; rw [h26, decide_eq_false (fun z => z h37)]; cases e : goesF k (rr i) (cc i) <;> rw [e] at h74 <;> simp_all)
            · refine j_iconst (v := nI 1) iX6_sortsOf_77 (by decide) ?_
              refine j_goto (tgt := 82) iX6_sortsOf_78 (by decide) ?_
              refine j_istore iX6_sortsOf_82 (by decide) rfl ?_
              dsimp only [List.set]
              refine j_iincN iX6_sortsOf_84 rfl (by decide) rfl ?_
              dsimp only [List.set]
              refine j_goto (tgt := 15) iX6_sortsOf_87 (by decide) ?_
              first | exact K false (by unfold siStep; rw [h26]; rfl) | exact K true (by unfold siStep; rw [h26, decide_eq_true h37]; rfl) | exact K true (by unfold siStep; rw [h26, decide_eq_false (fun z => z h37)]; cases e : goesF k (rr i) (cc i) <;> rw [e] at h74 <;> simp_all) | exact K false (by unfold siStep; rw [h26, decide_eq_false (fun z => z h37)]; cases e : goesF k (rr i) (cc i) <;> rw [e] at h74 <;> simp_all)
          · refine j_iconst (v := nI 1) iX6_sortsOf_69 (by decide) ?_
            refine j_goto (tgt := 74) iX6_sortsOf_70 (by decide) ?_
            refine j_icmp_neN (tgt := 81) iX6_sortsOf_74 (by decide) (by omega) (by omega) (fun h74 => ?_) (fun h74 => ?_)
            · refine j_iconst (v := nI 0) iX6_sortsOf_81 (by decide) ?_
              refine j_istore iX6_sortsOf_82 (by decide) rfl ?_
              dsimp only [List.set]
              refine j_iincN iX6_sortsOf_84 rfl (by decide) rfl ?_
              dsimp only [List.set]
              refine j_goto (tgt := 15) iX6_sortsOf_87 (by decide) ?_
              first | exact K false (by unfold siStep; rw [h26]; rfl) | exact K true (by unfold siStep; rw [h26, decide_eq_true h37]; rfl) | exact K true (by unfold siStep; rw [h26, decide_eq_false (fun z => z h37)]; cases e : goesF k (rr i) (cc i) <;> rw [e] at h74 <;> simp_all) | exact K false (by unfold siStep; rw [h26, decide_eq_false (fun z => z h37)]; cases e : goesF k (rr i) (cc i) <;> rw [e] at h74 <;> simp_all)
            · refine j_iconst (v := nI 1) iX6_sortsOf_77 (by decide) ?_
              refine j_goto (tgt := 82) iX6_sortsOf_78 (by decide) ?_
              refine j_istore iX6_sortsOf_82 (by decide) rfl ?_
              dsimp only [List.set]
              refine j_iincN iX6_sortsOf_84 rfl (by decide) rfl ?_
              dsimp only [List.set]
              refine j_goto (tgt := 15) iX6_sortsOf_87 (by decide) ?_
              first | exact K false (by unfold siStep; rw [h26]; rfl) | exact K true (by unfold siStep; rw [h26, decide_eq_true h37]; rfl) | exact K true (by unfold siStep; rw [h26, decide_eq_false (fun z => z h37)]; cases e : goesF k (rr i) (cc i) <;> rw [e] at h74 <;> simp_all) | exact K false (by unfold siStep; rw [h26, decide_eq_false (fun z => z h37)]; cases e : goesF k (rr i) (cc i) <;> rw [e] at h74 <;> simp_all)
  have L : ∀ (n k r : Nat), k + n = 5 → J 2 mX6_sortsOf 4 [.ref 33, .int (nI l), .int (nI r), .int (nI k), .null, .null] [] w (fun v u => v = some (.int (nI (fold (fun k r => r ||| if siF sn sof rr cc cn k l = true then 2 ^ k else 0) n k r))) ∧ u = w) := by
    intro n
    induction n with
    | zero =>
      intro k r hk
      refine j_iload_n iX6_sortsOf_4 rfl ?_
      refine j_iconst (v := nI 4) iX6_sortsOf_5 (by decide) ?_
      refine j_icmp_gtN (tgt := 111) iX6_sortsOf_6 (by decide) (by omega) (by omega) (fun _ => ?_) (fun hno => by exfalso; omega)
      refine j_iload_n iX6_sortsOf_111 rfl ?_
      refine j_iret iX6_sortsOf_112 rfl (by first | rfl | exact nar_bI _ | exact nar_bP) (⟨rfl, rfl⟩)
    | succ n ih =>
      intro k r hk
      have K90 : J 2 mX6_sortsOf 90 [.ref 33, .int (nI l), .int (nI r), .int (nI k), .int (bI (siF sn sof rr cc cn k l)), .null] [] w (fun v u => v = some (.int (nI (fold (fun k r => r ||| if siF sn sof rr cc cn k l = true then 2 ^ k else 0) (n + 1) k r))) ∧ u = w) := by
        refine j_iload_n iX6_sortsOf_90 rfl ?_
        refine j_iload iX6_sortsOf_91 rfl ?_
        refine j_if_eqB (tgt := 102) iX6_sortsOf_93 (by decide) (fun h93 => ?_) (fun h93 => ?_)
        · refine j_iconst (v := nI 0) iX6_sortsOf_102 (by decide) ?_
          refine j_iorN iX6_sortsOf_103  ?_
          refine j_istore_n iX6_sortsOf_104 (by decide) rfl ?_
          dsimp only [List.set]
          refine j_iincN iX6_sortsOf_105 rfl (by decide) rfl ?_
          dsimp only [List.set]
          refine j_goto (tgt := 4) iX6_sortsOf_108 (by decide) ?_
          first | exact J.fg (by have e := ih (k + 1) (r ||| 0) (by omega); simp only [fold, if_neg (nt h93)]; exact e) (by first | (simp [LF]; done) | (simp [LF, bI]; done)) | exact J.fg (by have e := ih (k + 1) (r ||| 2 ^ k) (by omega); simp only [fold, if_pos h93]; exact e) (by first | (simp [LF]; done) | (simp [LF, bI]; done))
        · refine j_iconst (v := nI 1) iX6_sortsOf_96 (by decide) ?_
          refine j_iload_n iX6_sortsOf_97 rfl ?_
          refine j_ishlN iX6_sortsOf_98 (by omega) ?_
          refine j_goto (tgt := 103) iX6_sortsOf_99 (by decide) ?_
          refine j_iorN iX6_sortsOf_103  ?_
          refine j_istore_n iX6_sortsOf_104 (by decide) rfl ?_
          dsimp only [List.set]
          refine j_iincN iX6_sortsOf_105 rfl (by decide) rfl ?_
          dsimp only [List.set]
          refine j_goto (tgt := 4) iX6_sortsOf_108 (by decide) ?_
          first | exact J.fg (by have e := ih (k + 1) (r ||| 0) (by omega); simp only [fold, if_neg (nt h93)]; exact e) (by first | (simp [LF]; done) | (simp [LF, bI]; done)) | exact J.fg (by have e := ih (k + 1) (r ||| 2 ^ k) (by omega); simp only [fold, if_pos h93]; exact e) (by first | (simp [LF]; done) | (simp [LF, bI]; done))
      refine j_iload_n iX6_sortsOf_4 rfl ?_
      refine j_iconst (v := nI 4) iX6_sortsOf_5 (by decide) ?_
      refine j_icmp_gtN (tgt := 111) iX6_sortsOf_6 (by decide) (by omega) (by omega) (fun hno => by exfalso; omega) (fun _ => ?_)
      refine j_iconst (v := nI 1) iX6_sortsOf_9 (by decide) ?_
      refine j_istore iX6_sortsOf_10 (by decide) rfl ?_
      dsimp only [List.set]
      refine j_iconst (v := nI 0) iX6_sortsOf_12 (by decide) ?_
      refine j_istore iX6_sortsOf_13 (by decide) rfl ?_
      dsimp only [List.set]
      exact LI r k _ (by omega) K90 sn 0 true (by omega) rfl
  refine j_start (ls := [.ref 33, .int (nI l), .null, .null, .null, .null]) rfl ?_
  refine j_iconst (v := nI 0) iX6_sortsOf_0 (by decide) ?_
  refine j_istore_n iX6_sortsOf_1 (by decide) rfl ?_
  dsimp only [List.set]
  refine j_iconst (v := nI 0) iX6_sortsOf_2 (by decide) ?_
  refine j_istore_n iX6_sortsOf_3 (by decide) rfl ?_
  dsimp only [List.set]
  exact L 5 0 0 rfl
theorem sm_b (sn : Nat) (sof rr cc cn : Nat → Nat) (l : Nat) : smF sn sof rr cc cn l < 32 := fold_inv (P := fun x => x < 32) 5 0 0 (by decide) fun j y _ hj hy => by
  split
  · exact Nat.or_lt_two_pow (n := 5) hy (show 2 ^ j < 2 ^ 5 from Nat.pow_lt_pow_right (by decide) (by omega))
  · rw [Nat.or_zero]; exact hy
theorem m_askOf (hm : w[33]? = some (oM bd R C fr lp lps sn sz wh nc nf nl tl sd ik kb kf kl kn hh)) (h36 : w[36]? = some (nA 6 sof)) (h37 : w[37]? = some (nA 6 rr)) (h38 : w[38]? = some (nA 6 cc)) (h39 : w[39]? = some (nA 6 cn)) (hsn : sn ≤ 6) (hso : ∀ i, sof i < 4) (hrr : ∀ i, rr i < 4) (hcc : ∀ i, cc i < 4) (hcn : ∀ i, cn i < 2) (l : Nat) (hl : l < 4) : JR 3 mX6_askOf [.ref 33, .int (nI l)] w (.int (oN (askF (smF sn sof rr cc cn l)))) w := by
  have hS := sm_b sn sof rr cc cn l
  generalize hSe : smF sn sof rr cc cn l = S at hS ⊢
  rw [← am_eq ⟨S, hS⟩]
  have hp := pop_le S
  have LY : ∀ (bf : Option Nat × Nat) (k : Nat) (Q : Option Value → mW → Prop), k < 16 → (J 3 mX6_askOf 79 [.ref 33, .int (nI l), .int (nI S), .int (oN bf.1), .int (nI bf.2), .int (nI k), .int (nI (yesF S k)), .null, .null] [] w Q) → ∀ (n kd y : Nat), kd + n = 5 → fold (fun kind y => y + if S.testBit kind = true ∧ goesF kind (k / 4) (k % 4) = true then 1 else 0) n kd y = yesF S k → J 3 mX6_askOf 32 [.ref 33, .int (nI l), .int (nI S), .int (oN bf.1), .int (nI bf.2), .int (nI k), .int (nI y), .int (nI kd), .null] [] w Q := by
    intro bf k Q hk kk n
    induction n with
    | zero =>
      intro kd y hkd he
      have e : y = yesF S k := he
      subst e
      refine j_iload iX6_askOf_32 rfl ?_
      refine j_iconst (v := nI 4) iX6_askOf_34 (by decide) ?_
      refine j_icmp_gtN (tgt := 79) iX6_askOf_35 (by decide) (by omega) (by omega) (fun _ => ?_) (fun hno => by exfalso; omega)
      exact J.fg kk (by first | (simp [LF]; done) | (simp [LF, bI]; done))
    | succ n ih =>
      intro kd y hkd he
      simp only [fold] at he
      refine j_iload iX6_askOf_32 rfl ?_
      refine j_iconst (v := nI 4) iX6_askOf_34 (by decide) ?_
      refine j_icmp_gtN (tgt := 79) iX6_askOf_35 (by decide) (by omega) (by omega) (fun hno => by exfalso; omega) (fun _ => ?_)
      refine j_iload iX6_askOf_38 rfl ?_
      refine j_iload_n iX6_askOf_40 rfl ?_
      refine j_iload iX6_askOf_41 rfl ?_
      refine j_S2R okX6_isIn lk_X6_92 iX6_askOf_43 (by omega) (m_isIn S kd (by omega) (by omega)) rfl (Nat.le_of_ble_eq_true rfl) (Nat.le_of_ble_eq_true rfl) ?_
      refine j_if_eqB (tgt := 69) iX6_askOf_46 (by decide) (fun h46 => ?_) (fun h46 => ?_)
      · refine j_iconst (v := nI 0) iX6_askOf_69 (by decide) ?_
        refine j_iaddN iX6_askOf_70  ?_
        refine j_istore iX6_askOf_71 (by decide) rfl ?_
        dsimp only [List.set]
        refine j_iincN iX6_askOf_73 rfl (by decide) rfl ?_
        dsimp only [List.set]
        refine j_goto (tgt := 32) iX6_askOf_76 (by decide) ?_
        first | exact ih (kd + 1) (y + 0) (by omega) (by rw [← he, if_neg (fun z => nt h46 z.1)]) | exact ih (kd + 1) (y + 0) (by omega) (by rw [← he, if_neg (fun z => nt h62 z.2)]) | exact ih (kd + 1) (y + 1) (by omega) (by rw [← he, if_pos ⟨h46, h62⟩])
      · refine j_iload iX6_askOf_49 rfl ?_
        refine j_iload iX6_askOf_51 rfl ?_
        refine j_iconst (v := nI 4) iX6_askOf_53 (by decide) ?_
        refine j_idivN iX6_askOf_54 (by omega) (by omega) (by omega) ?_
        refine j_iload iX6_askOf_55 rfl ?_
        refine j_iconst (v := nI 4) iX6_askOf_57 (by decide) ?_
        refine j_iremN iX6_askOf_58 (by omega) (by omega) (by omega) ?_
        refine j_S3R okX6_canBy lk_X6_142 iX6_askOf_59 (by omega) (m_canBy kd (k / 4) (k % 4) (by omega) (by omega) (by omega)) rfl (Nat.le_of_ble_eq_true rfl) (Nat.le_of_ble_eq_true rfl) ?_
        refine j_if_eqB (tgt := 69) iX6_askOf_62 (by decide) (fun h62 => ?_) (fun h62 => ?_)
        · refine j_iconst (v := nI 0) iX6_askOf_69 (by decide) ?_
          refine j_iaddN iX6_askOf_70  ?_
          refine j_istore iX6_askOf_71 (by decide) rfl ?_
          dsimp only [List.set]
          refine j_iincN iX6_askOf_73 rfl (by decide) rfl ?_
          dsimp only [List.set]
          refine j_goto (tgt := 32) iX6_askOf_76 (by decide) ?_
          first | exact ih (kd + 1) (y + 0) (by omega) (by rw [← he, if_neg (fun z => nt h46 z.1)]) | exact ih (kd + 1) (y + 0) (by omega) (by rw [← he, if_neg (fun z => nt h62 z.2)]) | exact ih (kd + 1) (y + 1) (by omega) (by rw [← he, if_pos ⟨h46, h62⟩])
        · refine j_iconst (v := nI 1) iX6_askOf_65 (by decide) ?_
          refine j_goto (tgt := 70) iX6_askOf_66 (by decide) ?_
          refine j_iaddN iX6_askOf_70  ?_
          refine j_istore iX6_askOf_71 (by decide) rfl ?_
          dsimp only [List.set]
          refine j_iincN iX6_askOf_73 rfl (by decide) rfl ?_
          dsimp only [List.set]
          refine j_goto (tgt := 32) iX6_askOf_76 (by decide) ?_
          first | exact ih (kd + 1) (y + 0) (by omega) (by rw [← he, if_neg (fun z => nt h46 z.1)]) | exact ih (kd + 1) (y + 0) (by omega) (by rw [← he, if_neg (fun z => nt h62 z.2)]) | exact ih (kd + 1) (y + 1) (by omega) (by rw [← he, if_pos ⟨h46, h62⟩])
  have L : ∀ (n k : Nat) (bf : Option Nat × Nat), k + n = 16 → bf.2 ≤ 268435456 → (S ≠ 0 → (fold (amStep S) n k bf).1 = amF S) → (S = 0 → bf.1 = none) → J 3 mX6_askOf 15 [.ref 33, .int (nI l), .int (nI S), .int (oN bf.1), .int (nI bf.2), .int (nI k), .null, .null, .null] [] w (fun v u => v = some (.int (oN (amF S))) ∧ u = w) := by
    intro n
    induction n with
    | zero =>
      intro k bf hk hb he h0
      refine j_iload iX6_askOf_15 rfl ?_
      refine j_bipush (v := nI 16) iX6_askOf_17 (by decide) ?_
      refine j_icmp_geN (tgt := 150) iX6_askOf_19 (by decide) (by omega) (by omega) (fun _ => ?_) (fun hno => by exfalso; omega)
      refine j_iload_n iX6_askOf_150 rfl ?_
      refine j_iret iX6_askOf_151 rfl (by first | rfl | exact nar_bI _ | exact nar_bP) (⟨by by_cases z : S = 0; (rw [h0 z]; unfold amF; rw [if_pos z]); (rw [← he z]; rfl), rfl⟩)
    | succ n ih =>
      intro k bf hk hb he h0
      by_cases z : S = 0
      · refine j_iload iX6_askOf_15 rfl ?_
        refine j_bipush (v := nI 16) iX6_askOf_17 (by decide) ?_
        refine j_icmp_geN (tgt := 150) iX6_askOf_19 (by decide) (by omega) (by omega) (fun hno => by exfalso; omega) (fun _ => ?_)
        refine j_iload_n iX6_askOf_22 rfl ?_
        refine j_if_eqN (tgt := 150) iX6_askOf_23 (by decide) (by omega) (fun _ => ?_) (fun hno => by exfalso; omega)
        refine j_iload_n iX6_askOf_150 rfl ?_
        refine j_iret iX6_askOf_151 rfl (by first | rfl | exact nar_bI _ | exact nar_bP) (⟨by rw [h0 z]; unfold amF; rw [if_pos z], rfl⟩)
      · have hy := yes_le ⟨S, hS⟩ ⟨k, by omega⟩
        have hy2 : yesF S k ≤ pop S := hy
        have he2 := he z
        simp only [fold] at he2
        have K : ∀ (bf' : Option Nat × Nat), bf' = amStep S k bf → bf'.2 ≤ 268435456 → J 3 mX6_askOf 15 [.ref 33, .int (nI l), .int (nI S), .int (oN bf'.1), .int (nI bf'.2), .int (nI (k + 1)), .null, .null, .null] [] w (fun v u => v = some (.int (oN (amF S))) ∧ u = w) := fun bf' h1 h2 => ih (k + 1) bf' (by omega) h2 (fun _ => by rw [h1]; exact he2) (fun q => absurd q z)
        have K102 : ∀ wo : Nat, wo = max (yesF S k) (pop S - yesF S k) → J 3 mX6_askOf 102 [.ref 33, .int (nI l), .int (nI S), .int (oN bf.1), .int (nI bf.2), .int (nI k), .int (nI (yesF S k)), .int (nI (pop S - yesF S k)), .null] [.int (nI wo)] w (fun v u => v = some (.int (oN (amF S))) ∧ u = w) := by
          intro wo hwo
          have hw : wo ≤ 12 := by omega
          refine j_istore iX6_askOf_102 (by decide) rfl ?_
          dsimp only [List.set]
          refine j_iload iX6_askOf_104 rfl ?_
          refine j_iload iX6_askOf_106 rfl ?_
          refine j_icmp_geN (tgt := 126) iX6_askOf_108 (by decide) (by omega) (by omega) (fun h108 => ?_) (fun h108 => ?_)
          · refine j_iload_n iX6_askOf_126 rfl ?_
            refine j_istore_n iX6_askOf_127 (by decide) rfl ?_
            dsimp only [List.set]
            refine j_iload iX6_askOf_128 rfl ?_
            refine j_iload iX6_askOf_130 rfl ?_
            refine j_icmp_geN (tgt := 140) iX6_askOf_132 (by decide) (by omega) (by omega) (fun h132 => ?_) (fun h132 => ?_)
            · refine j_iload iX6_askOf_140 rfl ?_
              refine j_istore iX6_askOf_142 (by decide) rfl ?_
              dsimp only [List.set]
              refine j_iincN iX6_askOf_144 rfl (by decide) rfl ?_
              dsimp only [List.set]
              refine j_goto (tgt := 15) iX6_askOf_147 (by decide) ?_
              first | (exfalso; omega) | exact J.fg (K bf (by unfold amStep; rw [← hwo, if_neg (by omega)]) hb) (by first | (simp [LF]; done) | (simp [LF, bI]; done)) | exact J.fg (K (some (10 * (k / 4) + k % 4), wo) (by unfold amStep; rw [← hwo, if_pos h108]) (by simp only; omega)) (by simp [LF, oN])
            · refine j_iload iX6_askOf_135 rfl ?_
              refine j_goto (tgt := 142) iX6_askOf_137 (by decide) ?_
              refine j_istore iX6_askOf_142 (by decide) rfl ?_
              dsimp only [List.set]
              refine j_iincN iX6_askOf_144 rfl (by decide) rfl ?_
              dsimp only [List.set]
              refine j_goto (tgt := 15) iX6_askOf_147 (by decide) ?_
              first | (exfalso; omega) | exact J.fg (K bf (by unfold amStep; rw [← hwo, if_neg (by omega)]) hb) (by first | (simp [LF]; done) | (simp [LF, bI]; done)) | exact J.fg (K (some (10 * (k / 4) + k % 4), wo) (by unfold amStep; rw [← hwo, if_pos h108]) (by simp only; omega)) (by simp [LF, oN])
          · refine j_bipush (v := nI 10) iX6_askOf_111 (by decide) ?_
            refine j_iload iX6_askOf_113 rfl ?_
            refine j_iconst (v := nI 4) iX6_askOf_115 (by decide) ?_
            refine j_idivN iX6_askOf_116 (by omega) (by omega) (by omega) ?_
            refine j_imulN iX6_askOf_117  ?_
            refine j_iload iX6_askOf_118 rfl ?_
            refine j_iconst (v := nI 4) iX6_askOf_120 (by decide) ?_
            refine j_iremN iX6_askOf_121 (by omega) (by omega) (by omega) ?_
            refine j_iaddN iX6_askOf_122  ?_
            refine j_goto (tgt := 127) iX6_askOf_123 (by decide) ?_
            refine j_istore_n iX6_askOf_127 (by decide) rfl ?_
            dsimp only [List.set]
            refine j_iload iX6_askOf_128 rfl ?_
            refine j_iload iX6_askOf_130 rfl ?_
            refine j_icmp_geN (tgt := 140) iX6_askOf_132 (by decide) (by omega) (by omega) (fun h132 => ?_) (fun h132 => ?_)
            · refine j_iload iX6_askOf_140 rfl ?_
              refine j_istore iX6_askOf_142 (by decide) rfl ?_
              dsimp only [List.set]
              refine j_iincN iX6_askOf_144 rfl (by decide) rfl ?_
              dsimp only [List.set]
              refine j_goto (tgt := 15) iX6_askOf_147 (by decide) ?_
              first | (exfalso; omega) | exact J.fg (K bf (by unfold amStep; rw [← hwo, if_neg (by omega)]) hb) (by first | (simp [LF]; done) | (simp [LF, bI]; done)) | exact J.fg (K (some (10 * (k / 4) + k % 4), wo) (by unfold amStep; rw [← hwo, if_pos h108]) (by simp only; omega)) (by simp [LF, oN])
            · refine j_iload iX6_askOf_135 rfl ?_
              refine j_goto (tgt := 142) iX6_askOf_137 (by decide) ?_
              refine j_istore iX6_askOf_142 (by decide) rfl ?_
              dsimp only [List.set]
              refine j_iincN iX6_askOf_144 rfl (by decide) rfl ?_
              dsimp only [List.set]
              refine j_goto (tgt := 15) iX6_askOf_147 (by decide) ?_
              first | (exfalso; omega) | exact J.fg (K bf (by unfold amStep; rw [← hwo, if_neg (by omega)]) hb) (by first | (simp [LF]; done) | (simp [LF, bI]; done)) | exact J.fg (K (some (10 * (k / 4) + k % 4), wo) (by unfold amStep; rw [← hwo, if_pos h108]) (by simp only; omega)) (by simp [LF, oN])
        have K79 : J 3 mX6_askOf 79 [.ref 33, .int (nI l), .int (nI S), .int (oN bf.1), .int (nI bf.2), .int (nI k), .int (nI (yesF S k)), .null, .null] [] w (fun v u => v = some (.int (oN (amF S))) ∧ u = w) := by
          refine j_iload_n iX6_askOf_79 rfl ?_
          refine j_S1R okX6_size lk_X6_185 iX6_askOf_80 (by omega) (m_size S (by omega)) rfl (Nat.le_of_ble_eq_true rfl) (Nat.le_of_ble_eq_true rfl) ?_
          refine j_iload iX6_askOf_83 rfl ?_
          refine j_isubN iX6_askOf_85 (by omega) ?_
          refine j_istore iX6_askOf_86 (by decide) rfl ?_
          dsimp only [List.set]
          refine j_iload iX6_askOf_88 rfl ?_
          refine j_iload iX6_askOf_90 rfl ?_
          refine j_icmp_leN (tgt := 100) iX6_askOf_92 (by decide) (by omega) (by omega) (fun h92 => ?_) (fun h92 => ?_)
          · refine j_iload iX6_askOf_100 rfl ?_
            exact J.fg (K102 _ (by omega)) (by first | (simp [LF]; done) | (simp [LF, bI]; done))
          · refine j_iload iX6_askOf_95 rfl ?_
            refine j_goto (tgt := 102) iX6_askOf_97 (by decide) ?_
            exact J.fg (K102 _ (by omega)) (by first | (simp [LF]; done) | (simp [LF, bI]; done))
        refine j_iload iX6_askOf_15 rfl ?_
        refine j_bipush (v := nI 16) iX6_askOf_17 (by decide) ?_
        refine j_icmp_geN (tgt := 150) iX6_askOf_19 (by decide) (by omega) (by omega) (fun hno => by exfalso; omega) (fun _ => ?_)
        refine j_iload_n iX6_askOf_22 rfl ?_
        refine j_if_eqN (tgt := 150) iX6_askOf_23 (by decide) (by omega) (fun hno => by exfalso; omega) (fun _ => ?_)
        refine j_iconst (v := nI 0) iX6_askOf_26 (by decide) ?_
        refine j_istore iX6_askOf_27 (by decide) rfl ?_
        dsimp only [List.set]
        refine j_iconst (v := nI 0) iX6_askOf_29 (by decide) ?_
        refine j_istore iX6_askOf_30 (by decide) rfl ?_
        dsimp only [List.set]
        exact LY bf k _ (by omega) K79 5 0 0 rfl rfl
  refine j_start (ls := [.ref 33, .int (nI l), .null, .null, .null, .null, .null, .null, .null]) rfl ?_
  refine j_aload_n iX6_askOf_0 rfl ?_
  refine j_iload_n iX6_askOf_1 rfl ?_
  refine j_V1R okX6_sortsOf lk_X6_157 iX6_askOf_2 (by omega) (by repeat (first | assumption | refine wset_ne (by decide) ?_ | exact wset_lt (by (try simp only [List.length_set]); exact wsome (by assumption)))) rfl (m_sortsOf hm h36 h37 h38 h39 hsn hso hrr hcc hcn l hl) rfl (Nat.le_of_ble_eq_true rfl) (Nat.le_of_ble_eq_true rfl) ?_
  rw [hSe]
  refine j_istore_n iX6_askOf_5 (by decide) rfl ?_
  dsimp only [List.set]
  refine j_iconst (v := (-1)) iX6_askOf_6 (by decide) ?_
  refine j_istore_n iX6_askOf_7 (by decide) rfl ?_
  dsimp only [List.set]
  refine j_ldc iX6_askOf_8 kc_X6_197 ?_
  refine j_top (y := nI 268435456) (by decide) ?_
  refine j_istore iX6_askOf_10 (by decide) rfl ?_
  dsimp only [List.set]
  refine j_iconst (v := nI 0) iX6_askOf_12 (by decide) ?_
  refine j_istore iX6_askOf_13 (by decide) rfl ?_
  dsimp only [List.set]
  exact L 16 0 (none, 268435456) rfl (Nat.le_refl _) (fun z => by unfold amF; rw [if_neg z]) (fun _ => rfl)
theorem m_ofSet (S n : Nat) (hS : S < 4096) (hn : n < pop S) : JR 1 mX6_ofSet [.int (nI S), .int (nI n)] w (.int (nI (nthD S n))) w := by
  have hp := pop_le S
  have L : ∀ (m k a : Nat), k + m = 12 → a ≤ n → nthFrom S n m k a = some (nthD S n) → J 1 mX6_ofSet 4 [.int (nI S), .int (nI n), .int (nI k), .int (nI (n - a))] [] w (fun v u => v = some (.int (nI (nthD S n))) ∧ u = w) := by
    intro m
    induction m with
    | zero => intro k a _ _ h; cases h
    | succ m ih =>
      intro k a hk ha he
      simp only [nthFrom] at he
      by_cases hb : S.testBit k = true
      · rw [if_pos hb] at he
        by_cases e : a = n
        · rw [if_pos e] at he
          have e2 : k = nthD S n := Option.some.inj he
          refine j_iload_n iX6_ofSet_4 rfl ?_
          refine j_iload_n iX6_ofSet_5 rfl ?_
          refine j_S2R okX6_isIn lk_X6_92 iX6_ofSet_6 (by omega) (m_isIn S k (by omega) (by omega)) rfl (Nat.le_of_ble_eq_true rfl) (Nat.le_of_ble_eq_true rfl) ?_
          refine j_if_eqB (tgt := 16) iX6_ofSet_9 (by decide) (fun hno => Bool.noConfusion (hno.symm.trans (show _ = true from hb))) (fun _ => ?_)
          refine j_iload_n iX6_ofSet_12 rfl ?_
          refine j_if_leN (tgt := 38) iX6_ofSet_13 (by decide) (by omega) (fun _ => ?_) (fun hno => by exfalso; omega)
          refine j_iload_n iX6_ofSet_38 rfl ?_
          refine j_iret iX6_ofSet_39 rfl (by first | rfl | exact nar_bI _ | exact nar_bP) (⟨by rw [e2], rfl⟩)
        · rw [if_neg e] at he
          refine j_iload_n iX6_ofSet_4 rfl ?_
          refine j_iload_n iX6_ofSet_5 rfl ?_
          refine j_S2R okX6_isIn lk_X6_92 iX6_ofSet_6 (by omega) (m_isIn S k (by omega) (by omega)) rfl (Nat.le_of_ble_eq_true rfl) (Nat.le_of_ble_eq_true rfl) ?_
          refine j_if_eqB (tgt := 16) iX6_ofSet_9 (by decide) (fun hno => Bool.noConfusion (hno.symm.trans (show _ = true from hb))) (fun _ => ?_)
          refine j_iload_n iX6_ofSet_12 rfl ?_
          refine j_if_leN (tgt := 38) iX6_ofSet_13 (by decide) (by omega) (fun hno => by exfalso; omega) (fun _ => ?_)
          refine j_iload_n iX6_ofSet_16 rfl ?_
          refine j_iload_n iX6_ofSet_17 rfl ?_
          refine j_iload_n iX6_ofSet_18 rfl ?_
          refine j_S2R okX6_isIn lk_X6_92 iX6_ofSet_19 (by omega) (m_isIn S k (by omega) (by omega)) rfl (Nat.le_of_ble_eq_true rfl) (Nat.le_of_ble_eq_true rfl) ?_
          refine j_if_eqB (tgt := 29) iX6_ofSet_22 (by decide) (fun hno => Bool.noConfusion (hno.symm.trans (show _ = true from hb))) (fun _ => ?_)
          refine j_iconst (v := nI 1) iX6_ofSet_25 (by decide) ?_
          refine j_goto (tgt := 30) iX6_ofSet_26 (by decide) ?_
          refine j_isubN iX6_ofSet_30 (by omega) ?_
          refine j_top (y := nI (n - (a + 1))) (by rfl) ?_
          refine j_istore_n iX6_ofSet_31 (by decide) rfl ?_
          dsimp only [List.set]
          refine j_iincN iX6_ofSet_32 rfl (by decide) rfl ?_
          dsimp only [List.set]
          refine j_goto (tgt := 4) iX6_ofSet_35 (by decide) ?_
          exact ih (k + 1) (a + 1) (by omega) (by omega) he
      · rw [if_neg hb] at he
        have hf : S.testBit k = false := by simpa using hb
        refine j_iload_n iX6_ofSet_4 rfl ?_
        refine j_iload_n iX6_ofSet_5 rfl ?_
        refine j_S2R okX6_isIn lk_X6_92 iX6_ofSet_6 (by omega) (m_isIn S k (by omega) (by omega)) rfl (Nat.le_of_ble_eq_true rfl) (Nat.le_of_ble_eq_true rfl) ?_
        refine j_if_eqB (tgt := 16) iX6_ofSet_9 (by decide) (fun _ => ?_) (fun hno => Bool.noConfusion (hno.symm.trans (show _ = false from hf)))
        refine j_iload_n iX6_ofSet_16 rfl ?_
        refine j_iload_n iX6_ofSet_17 rfl ?_
        refine j_iload_n iX6_ofSet_18 rfl ?_
        refine j_S2R okX6_isIn lk_X6_92 iX6_ofSet_19 (by omega) (m_isIn S k (by omega) (by omega)) rfl (Nat.le_of_ble_eq_true rfl) (Nat.le_of_ble_eq_true rfl) ?_
        refine j_if_eqB (tgt := 29) iX6_ofSet_22 (by decide) (fun _ => ?_) (fun hno => Bool.noConfusion (hno.symm.trans (show _ = false from hf)))
        refine j_iconst (v := nI 0) iX6_ofSet_29 (by decide) ?_
        refine j_isubN iX6_ofSet_30 (by omega) ?_
        refine j_top (y := nI (n - a)) (by congr 1) ?_
        refine j_istore_n iX6_ofSet_31 (by decide) rfl ?_
        dsimp only [List.set]
        refine j_iincN iX6_ofSet_32 rfl (by decide) rfl ?_
        dsimp only [List.set]
        refine j_goto (tgt := 4) iX6_ofSet_35 (by decide) ?_
        exact ih (k + 1) a (by omega) ha he
  refine j_start (ls := [.int (nI S), .int (nI n), .null, .null]) rfl ?_
  refine j_iconst (v := nI 0) iX6_ofSet_0 (by decide) ?_
  refine j_istore_n iX6_ofSet_1 (by decide) rfl ?_
  dsimp only [List.set]
  refine j_iload_n iX6_ofSet_2 rfl ?_
  refine j_istore_n iX6_ofSet_3 (by decide) rfl ?_
  dsimp only [List.set]
  exact L 12 0 0 rfl (Nat.zero_le _) (nth_spec hn).1
theorem m_draw {s : Nat} (hm : w[33]? = some (oM bd R C fr lp lps sn sz wh nc nf nl tl (lN s) ik kb kf kl kn hh)) (d : Nat) (hd : 0 < d) (hd2 : d < 2 ^ 31) : JR 0 mX6_draw [.ref 33, .int (nI d)] w (.int (nI (nsd s / 65536 % d))) (w.set 33 (oM bd R C fr lp lps sn sz wh nc nf nl tl (lN (nsd s)) ik kb kf kl kn hh)) := by
  have hn := nsd_lt s
  have hne : ¬ (nI d).toInt64 = 0 := by
    rw [nI_l hd2, show (0 : Int64) = lN 0 from rfl]
    exact fun z => absurd ((lN_eq hd2 (by decide)).mp z) (by omega)
  refine j_start (ls := [.ref 33, .int (nI d)]) rfl ?_
  refine j_aload_n iX6_draw_0 rfl ?_
  refine j_ldc2 iX6_draw_1 kc_X6_257 ?_
  refine j_aload_n iX6_draw_4 rfl ?_
  refine j_get fk_X6_259 iX6_draw_5 (by repeat (first | assumption | refine wset_ne (by decide) ?_ | exact wset_lt (by (try simp only [List.length_set]); exact wsome (by assumption)))) (by rfl) ?_
  refine j_lmul iX6_draw_8 ?_
  refine j_ldc2 iX6_draw_9 kc_X6_263 ?_
  refine j_ladd iX6_draw_12 ?_
  refine j_ldc2 iX6_draw_13 kc_X6_265 ?_
  refine j_land iX6_draw_16 ?_
  rw [sdL]
  refine j_put fk_X6_259 iX6_draw_17 (by repeat (first | assumption | refine wset_ne (by decide) ?_ | exact wset_lt (by (try simp only [List.length_set]); exact wsome (by assumption)))) (by intro; rfl) (by intro; rfl) (Nat.le_of_ble_eq_true rfl) ?_
  dsimp only [List.set]
  refine j_aload_n iX6_draw_20 rfl ?_
  refine j_get fk_X6_259 iX6_draw_21 (by repeat (first | assumption | refine wset_ne (by decide) ?_ | exact wset_lt (by (try simp only [List.length_set]); exact wsome (by assumption)))) (by rfl) ?_
  refine j_ldc2 iX6_draw_24 kc_X6_267 ?_
  refine j_ldiv iX6_draw_27 (by decide) ?_
  refine j_iload_n iX6_draw_28 rfl ?_
  refine j_i2l iX6_draw_29 ?_
  refine j_lrem iX6_draw_30 (hne) ?_
  refine j_l2i iX6_draw_31 ?_
  refine j_top (y := nI (nsd s / 65536 % d)) (by exact lN_rem hn hd hd2) ?_
  refine j_iret iX6_draw_32 rfl (by first | rfl | exact nar_bI _ | exact nar_bP) (⟨rfl, rfl⟩)
def mv (w : mW) (bd R C fr lp lps sn sz : Nat) (wh : Bool) (nc nf nl tl : Nat) (ik : Bool) (kb kf kl kn : Nat) (hh : Int64) (s : Nat × (Nat → Nat) × Nat) : mW := (w.set 35 (nA 4 s.2.1)).set 33 (oM bd R C fr lp lps sn sz wh nc nf nl tl (lN s.1) ik kb kf kl kn hh)
theorem m_walksNow {z : Nat → Nat} (hm : w[33]? = some (oM bd R C fr lp lps sn sz wh nc nf nl tl sd ik kb kf kl kn hh)) (h34 : w[34]? = some (nA 4 ks)) (h35 : w[35]? = some (nA 4 sts)) (h46 : w[46]? = some (nA 4 z)) (hN : R * C ≤ 12) (hfr : fr < 4096) (hlp : lp ≤ 4) (hl : 0 < lp) (hks : ∀ i, ks i < 5) (hst : ∀ i, sts i < 12) (hsN : ∀ i, i < lp → sts i < R * C) (n s k : Nat) (hn : n ≤ 60) (hs : s < 2 ^ 31) (hk : k < 3) : JX 5 mX6_walksNow [.ref 33, .int (nI n), .int (nI s), .int (nI k)] w (fun v u => v = some (.int (nI (walksV C (R * C) fr lp ks sts n s k))) ∧ ∃ s', u = (w.set 46 (nA 4 sts)).set 33 (oM bd R C fr lp lps sn sz wh nc nf nl tl (lN s') ik kb kf kl kn hh)) := by
  -- the stands come back
  have LB : ∀ (V : mW) (r s2 : Nat), V[46]? = some (nA 4 sts) → V[33]? = some (oM bd R C fr lp lps sn sz wh nc nf nl tl (lN s2) ik kb kf kl kn hh) → V.set 35 (nA 4 sts) = (w.set 46 (nA 4 sts)).set 33 (oM bd R C fr lp lps sn sz wh nc nf nl tl (lN s2) ik kb kf kl kn hh) → (∃ q, V[35]? = some (nA 4 q)) → ∀ (m i : Nat) (h : Nat → Nat), i + m = 4 → (∀ j, j < i → h j = sts j) → J 5 mX6_walksNow 131 [.ref 33, .int (nI n), .int (nI s), .int (nI k), .null, .int (nI r), .int (nI i), .null] [] (V.set 35 (nA 4 h)) (fun v u => v = some (.int (nI r)) ∧ ∃ s', u = (w.set 46 (nA 4 sts)).set 33 (oM bd R C fr lp lps sn sz wh nc nf nl tl (lN s') ik kb kf kl kn hh)) := by
    intro V r s2 e46 e33 eV e35 m
    obtain ⟨q35, e35⟩ := e35
    induction m with
    | zero =>
      intro i h hi hh
      refine j_arrN (a := 35) (n := 4) (f := h) (g := sts) (fun j hj => hh j (by omega)) (by repeat (first | assumption | refine wset_ne (by decide) ?_ | exact wset_lt (by (try simp only [List.length_set]); exact wsome (by assumption)))) ?_
      rw [wset2, eV]
      refine j_iload iX6_walksNow_131 rfl ?_
      refine j_iconst (v := nI 4) iX6_walksNow_133 (by decide) ?_
      refine j_icmp_geN (tgt := 157) iX6_walksNow_134 (by decide) (by omega) (by omega) (fun _ => ?_) (fun hno => by exfalso; omega)
      refine j_iload iX6_walksNow_157 rfl ?_
      refine j_iret iX6_walksNow_159 rfl (by first | rfl | exact nar_bI _ | exact nar_bP) (⟨rfl, s2, rfl⟩)
    | succ m ih =>
      intro i h hi hh
      refine j_iload iX6_walksNow_131 rfl ?_
      refine j_iconst (v := nI 4) iX6_walksNow_133 (by decide) ?_
      refine j_icmp_geN (tgt := 157) iX6_walksNow_134 (by decide) (by omega) (by omega) (fun hno => by exfalso; omega) (fun _ => ?_)
      refine j_aload_n iX6_walksNow_137 rfl ?_
      refine j_get fk_X6_13 iX6_walksNow_138 (by repeat (first | assumption | refine wset_ne (by decide) ?_ | exact wset_lt (by (try simp only [List.length_set]); exact wsome (by assumption)))) (by rfl) ?_
      refine j_iload iX6_walksNow_141 rfl ?_
      refine j_aload_n iX6_walksNow_143 rfl ?_
      refine j_get fk_X6_47 iX6_walksNow_144 (by repeat (first | assumption | refine wset_ne (by decide) ?_ | exact wset_lt (by (try simp only [List.length_set]); exact wsome (by assumption)))) (by rfl) ?_
      refine j_iload iX6_walksNow_147 rfl ?_
      refine j_ialdN iX6_walksNow_149 (by repeat (first | assumption | refine wset_ne (by decide) ?_ | exact wset_lt (by (try simp only [List.length_set]); exact wsome (by assumption)))) (by omega) ?_
      refine j_iastN iX6_walksNow_150 (by repeat (first | assumption | refine wset_ne (by decide) ?_ | exact wset_lt (by (try simp only [List.length_set]); exact wsome (by assumption)))) (by omega) ?_
      refine j_iincN iX6_walksNow_151 rfl (by decide) rfl ?_
      dsimp only [List.set]
      refine j_goto (tgt := 131) iX6_walksNow_154 (by decide) ?_
      rw [wset2]; exact ih (i + 1) _ (by omega) (un_upto hh rfl)
  -- the walk
  have LW : ∀ (V : mW), V[33]? = some (oM bd R C fr lp lps sn sz wh nc nf nl tl sd ik kb kf kl kn hh) → V[34]? = some (nA 4 ks) → V[35]? = some (nA 4 sts) → V[46]? = some (nA 4 sts) → V = w.set 46 (nA 4 sts) →
      ∀ (m i : Nat) (t : Nat × (Nat → Nat) × Nat), i + m = n → (∀ i, t.2.1 i < 12) → (∀ i, i < lp → t.2.1 i < R * C) → t.1 < 2 ^ 31 → wkFrom C (R * C) fr lp ks m t = wkFrom C (R * C) fr lp ks n (s, sts, 0) →
      J 5 mX6_walksNow 41 [.ref 33, .int (nI n), .int (nI s), .int (nI k), .int (nI t.2.2), .int (nI i), .null, .null] [] (mv V bd R C fr lp lps sn sz wh nc nf nl tl ik kb kf kl kn hh t) (fun v u => v = some (.int (nI (walksV C (R * C) fr lp ks sts n s k))) ∧ ∃ s', u = (w.set 46 (nA 4 sts)).set 33 (oM bd R C fr lp lps sn sz wh nc nf nl tl (lN s') ik kb kf kl kn hh)) := by
    intro V e33 e34 e35 e46 eV m
    induction m with
    | zero =>
      intro i t hi h1 h2 h3 he
      have he : t = wkFrom C (R * C) fr lp ks n (s, sts, 0) := he
      have K : ∀ r, r = walksV C (R * C) fr lp ks sts n s k → J 5 mX6_walksNow 126 [.ref 33, .int (nI n), .int (nI s), .int (nI k), .int (nI t.2.2), .int (nI i), .null, .null] [.int (nI r)] (mv V bd R C fr lp lps sn sz wh nc nf nl tl ik kb kf kl kn hh t) (fun v u => v = some (.int (nI (walksV C (R * C) fr lp ks sts n s k))) ∧ ∃ s', u = (w.set 46 (nA 4 sts)).set 33 (oM bd R C fr lp lps sn sz wh nc nf nl tl (lN s') ik kb kf kl kn hh)) := by
        intro r hr
        unfold mv
        have e35b : ((V.set 35 (nA 4 t.2.1)).set 33 (oM bd R C fr lp lps sn sz wh nc nf nl tl (lN t.1) ik kb kf kl kn hh))[35]? = some (nA 4 t.2.1) := (by repeat (first | assumption | refine wset_ne (by decide) ?_ | exact wset_lt (by (try simp only [List.length_set]); exact wsome (by assumption))))
        have hB := LB ((V.set 35 (nA 4 t.2.1)).set 33 (oM bd R C fr lp lps sn sz wh nc nf nl tl (lN t.1) ik kb kf kl kn hh)) r t.1 (by repeat (first | assumption | refine wset_ne (by decide) ?_ | exact wset_lt (by (try simp only [List.length_set]); exact wsome (by assumption)))) (by repeat (first | assumption | refine wset_ne (by decide) ?_ | exact wset_lt (by (try simp only [List.length_set]); exact wsome (by assumption)))) (by rw [List.set_comm _ _ (show (33 : Nat) ≠ 35 by decide), wset2, wset_eq e35, eV]) ⟨_, e35b⟩ 4 0 t.2.1 rfl (fun j hj => absurd hj (Nat.not_lt_zero _))
        rw [wset_eq e35b, hr] at hB
        rw [hr]
        refine j_istore iX6_walksNow_126 (by decide) rfl ?_
        dsimp only [List.set]
        refine j_iconst (v := nI 0) iX6_walksNow_128 (by decide) ?_
        refine j_istore iX6_walksNow_129 (by decide) rfl ?_
        dsimp only [List.set]
        exact J.fg hB (by first | (simp [LF]; done) | (simp [LF, bI]; done))
      unfold mv at K ⊢
      refine j_iload iX6_walksNow_41 rfl ?_
      refine j_iload_n iX6_walksNow_43 rfl ?_
      refine j_icmp_geN (tgt := 100) iX6_walksNow_44 (by decide) (by omega) (by omega) (fun _ => ?_) (fun hno => by exfalso; omega)
      refine j_iload_n iX6_walksNow_100 rfl ?_
      refine j_if_neN (tgt := 109) iX6_walksNow_101 (by decide) (by omega) (fun h101 => ?_) (fun h101 => ?_)
      · refine j_iload_n iX6_walksNow_109 rfl ?_
        refine j_iconst (v := nI 1) iX6_walksNow_110 (by decide) ?_
        refine j_icmp_neN (tgt := 121) iX6_walksNow_111 (by decide) (by omega) (by omega) (fun h111 => ?_) (fun h111 => ?_)
        · refine j_aload_n iX6_walksNow_121 rfl ?_
          refine j_get fk_X6_259 iX6_walksNow_122 (by repeat (first | assumption | refine wset_ne (by decide) ?_ | exact wset_lt (by (try simp only [List.length_set]); exact wsome (by assumption)))) (by rfl) ?_
          refine j_l2i iX6_walksNow_125 ?_
          first | (subst h101; exact J.fg (K _ (by simp only [walksV, ← he])) (by first | (simp [LF]; done) | (simp [LF, bI]; done))) | (subst h111; exact J.fg (K _ (by simp only [walksV, ← he])) (by first | (simp [LF]; done) | (simp [LF, bI]; done))) | (rw [lN_i]; exact J.fg (K _ (by rw [show k = 2 by omega]; simp only [walksV, ← he])) (by first | (simp [LF]; done) | (simp [LF, bI]; done)))
        · refine j_aload_n iX6_walksNow_114 rfl ?_
          refine j_V0R okX6_watchedFree lk_X6_275 iX6_walksNow_115 (by omega) (by repeat (first | assumption | refine wset_ne (by decide) ?_ | exact wset_lt (by (try simp only [List.length_set]); exact wsome (by assumption)))) rfl (m_watchedFree ((by repeat (first | assumption | refine wset_ne (by decide) ?_ | exact wset_lt (by (try simp only [List.length_set]); exact wsome (by assumption)))) : _ = some (oM bd R C fr lp lps sn sz wh nc nf nl tl (lN t.1) ik kb kf kl kn hh)) (by repeat (first | assumption | refine wset_ne (by decide) ?_ | exact wset_lt (by (try simp only [List.length_set]); exact wsome (by assumption)))) (by repeat (first | assumption | refine wset_ne (by decide) ?_ | exact wset_lt (by (try simp only [List.length_set]); exact wsome (by assumption)))) hN hfr hlp hks h1 h2) rfl (Nat.le_of_ble_eq_true rfl) (Nat.le_of_ble_eq_true rfl) ?_
          refine j_goto (tgt := 126) iX6_walksNow_118 (by decide) ?_
          first | (subst h101; exact J.fg (K _ (by simp only [walksV, ← he])) (by first | (simp [LF]; done) | (simp [LF, bI]; done))) | (subst h111; exact J.fg (K _ (by simp only [walksV, ← he])) (by first | (simp [LF]; done) | (simp [LF, bI]; done))) | (rw [lN_i]; exact J.fg (K _ (by rw [show k = 2 by omega]; simp only [walksV, ← he])) (by first | (simp [LF]; done) | (simp [LF, bI]; done)))
      · refine j_iload iX6_walksNow_104 rfl ?_
        refine j_goto (tgt := 126) iX6_walksNow_106 (by decide) ?_
        first | (subst h101; exact J.fg (K _ (by simp only [walksV, ← he])) (by first | (simp [LF]; done) | (simp [LF, bI]; done))) | (subst h111; exact J.fg (K _ (by simp only [walksV, ← he])) (by first | (simp [LF]; done) | (simp [LF, bI]; done))) | (rw [lN_i]; exact J.fg (K _ (by rw [show k = 2 by omega]; simp only [walksV, ← he])) (by first | (simp [LF]; done) | (simp [LF, bI]; done)))
    | succ m ih =>
      intro i t hi h1 h2 h3 he
      obtain ⟨s1, st1, l1⟩ := t
      have hl0 : nsd s1 / 65536 % lp < lp := Nat.mod_lt _ hl
      have hgb := gol_b (C := C) (N := R * C) (lp := lp) (ks := ks) (sts := st1) hfr (nsd s1 / 65536 % lp)
      have hst := wk_ok (C := C) (N := R * C) (lp := lp) (ks := ks) 1 (s1, st1, l1) hfr h1 h3
      unfold mv
      by_cases hg : gol C (R * C) fr lp ks st1 (nsd s1 / 65536 % lp) = 0
      · have e1 : wkStep C (R * C) fr lp ks (s1, st1, l1) = (nsd s1, st1, l1) := by unfold wkStep; rw [if_pos hg]
        have ih2 := ih (i + 1) (wkStep C (R * C) fr lp ks (s1, st1, l1)) (by omega) hst.1 (by rw [e1]; exact h2) hst.2 he
        rw [e1] at ih2
        unfold mv at ih2
        refine j_iload iX6_walksNow_41 rfl ?_
        refine j_iload_n iX6_walksNow_43 rfl ?_
        refine j_icmp_geN (tgt := 100) iX6_walksNow_44 (by decide) (by omega) (by omega) (fun hno => by exfalso; omega) (fun _ => ?_)
        refine j_aload_n iX6_walksNow_47 rfl ?_
        refine j_aload_n iX6_walksNow_48 rfl ?_
        refine j_get fk_X6_119 iX6_walksNow_49 (by repeat (first | assumption | refine wset_ne (by decide) ?_ | exact wset_lt (by (try simp only [List.length_set]); exact wsome (by assumption)))) (by rfl) ?_
        refine j_V1R okX6_draw lk_X6_269 iX6_walksNow_52 (by omega) (by repeat (first | assumption | refine wset_ne (by decide) ?_ | exact wset_lt (by (try simp only [List.length_set]); exact wsome (by assumption)))) rfl (m_draw ((by repeat (first | assumption | refine wset_ne (by decide) ?_ | exact wset_lt (by (try simp only [List.length_set]); exact wsome (by assumption)))) : _ = some (oM bd R C fr lp lps sn sz wh nc nf nl tl (lN s1) ik kb kf kl kn hh)) lp hl (by omega)) rfl (Nat.le_of_ble_eq_true rfl) (Nat.le_of_ble_eq_true rfl) ?_
        refine j_istore iX6_walksNow_55 (by decide) rfl ?_
        dsimp only [List.set]
        refine j_aload_n iX6_walksNow_57 rfl ?_
        refine j_iload iX6_walksNow_58 rfl ?_
        refine j_V1R okX6_canGo lk_X6_154 iX6_walksNow_60 (by omega) (by repeat (first | assumption | refine wset_ne (by decide) ?_ | exact wset_lt (by (try simp only [List.length_set]); exact wsome (by assumption)))) rfl (m_canGo ((by repeat (first | assumption | refine wset_ne (by decide) ?_ | exact wset_lt (by (try simp only [List.length_set]); exact wsome (by assumption)))) : _ = some (oM bd R C fr lp lps sn sz wh nc nf nl tl (lN (nsd s1)) ik kb kf kl kn hh)) (by repeat (first | assumption | refine wset_ne (by decide) ?_ | exact wset_lt (by (try simp only [List.length_set]); exact wsome (by assumption)))) (by repeat (first | assumption | refine wset_ne (by decide) ?_ | exact wset_lt (by (try simp only [List.length_set]); exact wsome (by assumption)))) hN hfr hlp h1 _ (by omega) (hks _) (h2 _ hl0)) rfl (Nat.le_of_ble_eq_true rfl) (Nat.le_of_ble_eq_true rfl) ?_
        refine j_istore iX6_walksNow_63 (by decide) rfl ?_
        dsimp only [List.set]
        refine j_iload iX6_walksNow_65 rfl ?_
        refine j_if_eqN (tgt := 94) iX6_walksNow_67 (by decide) (by omega) (fun _ => ?_) (fun hno => by exfalso; omega)
        refine j_iincN iX6_walksNow_94 rfl (by decide) rfl ?_
        dsimp only [List.set]
        refine j_goto (tgt := 41) iX6_walksNow_97 (by decide) ?_
        rw [wset2]; exact J.fg ih2 (by first | (simp [LF]; done) | (simp [LF, bI]; done))
      · have e1 : wkStep C (R * C) fr lp ks (s1, st1, l1) = (nsd (nsd s1), un st1 (nsd s1 / 65536 % lp) (nthD (gol C (R * C) fr lp ks st1 (nsd s1 / 65536 % lp)) (nsd (nsd s1) / 65536 % pop (gol C (R * C) fr lp ks st1 (nsd s1 / 65536 % lp)))), l1 + 1) := by unfold wkStep; rw [if_neg hg]
        have hpp := pop_pos hgb hg
        have hpl := pop_le (gol C (R * C) fr lp ks st1 (nsd s1 / 65536 % lp))
        have hnt := nth_spec (Nat.mod_lt (nsd (nsd s1) / 65536) hpp)
        have hlt := gol_lt (h2 _ hl0) hnt.2.2
        have ih2 := ih (i + 1) (wkStep C (R * C) fr lp ks (s1, st1, l1)) (by omega) hst.1 (by rw [e1]; intro i hi; simp only; unfold un; split; exact hlt; exact h2 i hi) hst.2 he
        rw [e1] at ih2
        unfold mv at ih2
        refine j_iload iX6_walksNow_41 rfl ?_
        refine j_iload_n iX6_walksNow_43 rfl ?_
        refine j_icmp_geN (tgt := 100) iX6_walksNow_44 (by decide) (by omega) (by omega) (fun hno => by exfalso; omega) (fun _ => ?_)
        refine j_aload_n iX6_walksNow_47 rfl ?_
        refine j_aload_n iX6_walksNow_48 rfl ?_
        refine j_get fk_X6_119 iX6_walksNow_49 (by repeat (first | assumption | refine wset_ne (by decide) ?_ | exact wset_lt (by (try simp only [List.length_set]); exact wsome (by assumption)))) (by rfl) ?_
        refine j_V1R okX6_draw lk_X6_269 iX6_walksNow_52 (by omega) (by repeat (first | assumption | refine wset_ne (by decide) ?_ | exact wset_lt (by (try simp only [List.length_set]); exact wsome (by assumption)))) rfl (m_draw ((by repeat (first | assumption | refine wset_ne (by decide) ?_ | exact wset_lt (by (try simp only [List.length_set]); exact wsome (by assumption)))) : _ = some (oM bd R C fr lp lps sn sz wh nc nf nl tl (lN s1) ik kb kf kl kn hh)) lp hl (by omega)) rfl (Nat.le_of_ble_eq_true rfl) (Nat.le_of_ble_eq_true rfl) ?_
        refine j_istore iX6_walksNow_55 (by decide) rfl ?_
        dsimp only [List.set]
        refine j_aload_n iX6_walksNow_57 rfl ?_
        refine j_iload iX6_walksNow_58 rfl ?_
        refine j_V1R okX6_canGo lk_X6_154 iX6_walksNow_60 (by omega) (by repeat (first | assumption | refine wset_ne (by decide) ?_ | exact wset_lt (by (try simp only [List.length_set]); exact wsome (by assumption)))) rfl (m_canGo ((by repeat (first | assumption | refine wset_ne (by decide) ?_ | exact wset_lt (by (try simp only [List.length_set]); exact wsome (by assumption)))) : _ = some (oM bd R C fr lp lps sn sz wh nc nf nl tl (lN (nsd s1)) ik kb kf kl kn hh)) (by repeat (first | assumption | refine wset_ne (by decide) ?_ | exact wset_lt (by (try simp only [List.length_set]); exact wsome (by assumption)))) (by repeat (first | assumption | refine wset_ne (by decide) ?_ | exact wset_lt (by (try simp only [List.length_set]); exact wsome (by assumption)))) hN hfr hlp h1 _ (by omega) (hks _) (h2 _ hl0)) rfl (Nat.le_of_ble_eq_true rfl) (Nat.le_of_ble_eq_true rfl) ?_
        refine j_istore iX6_walksNow_63 (by decide) rfl ?_
        dsimp only [List.set]
        refine j_iload iX6_walksNow_65 rfl ?_
        refine j_if_eqN (tgt := 94) iX6_walksNow_67 (by decide) (by omega) (fun hno => by exfalso; omega) (fun _ => ?_)
        refine j_aload_n iX6_walksNow_70 rfl ?_
        refine j_get fk_X6_13 iX6_walksNow_71 (by repeat (first | assumption | refine wset_ne (by decide) ?_ | exact wset_lt (by (try simp only [List.length_set]); exact wsome (by assumption)))) (by rfl) ?_
        refine j_iload iX6_walksNow_74 rfl ?_
        refine j_iload iX6_walksNow_76 rfl ?_
        refine j_aload_n iX6_walksNow_78 rfl ?_
        refine j_iload iX6_walksNow_79 rfl ?_
        refine j_S1R okX6_size lk_X6_185 iX6_walksNow_81 (by omega) (m_size _ (by omega)) rfl (Nat.le_of_ble_eq_true rfl) (Nat.le_of_ble_eq_true rfl) ?_
        refine j_V1R okX6_draw lk_X6_269 iX6_walksNow_84 (by omega) (by repeat (first | assumption | refine wset_ne (by decide) ?_ | exact wset_lt (by (try simp only [List.length_set]); exact wsome (by assumption)))) rfl (m_draw ((by repeat (first | assumption | refine wset_ne (by decide) ?_ | exact wset_lt (by (try simp only [List.length_set]); exact wsome (by assumption)))) : _ = some (oM bd R C fr lp lps sn sz wh nc nf nl tl (lN (nsd s1)) ik kb kf kl kn hh)) _ hpp (by omega)) rfl (Nat.le_of_ble_eq_true rfl) (Nat.le_of_ble_eq_true rfl) ?_
        refine j_S2R okX6_ofSet lk_X6_272 iX6_walksNow_87 (by omega) (m_ofSet _ _ hgb (Nat.mod_lt _ hpp)) rfl (Nat.le_of_ble_eq_true rfl) (Nat.le_of_ble_eq_true rfl) ?_
        refine j_iastN iX6_walksNow_90 (by repeat (first | assumption | refine wset_ne (by decide) ?_ | exact wset_lt (by (try simp only [List.length_set]); exact wsome (by assumption)))) (by omega) ?_
        refine j_iincN iX6_walksNow_91 rfl (by decide) rfl ?_
        dsimp only [List.set]
        refine j_iincN iX6_walksNow_94 rfl (by decide) rfl ?_
        dsimp only [List.set]
        refine j_goto (tgt := 41) iX6_walksNow_97 (by decide) ?_
        rw [wset2, wset2, List.set_comm _ _ (show (33 : Nat) ≠ 35 by decide), wset2]; exact J.fg ih2 (by first | (simp [LF]; done) | (simp [LF, bI]; done))
  -- the stands are saved
  have LS : ∀ (m i : Nat) (h : Nat → Nat), i + m = 4 → (∀ j, j < i → h j = sts j) → J 5 mX6_walksNow 3 [.ref 33, .int (nI n), .int (nI s), .int (nI k), .int (nI i), .null, .null, .null] [] (w.set 46 (nA 4 h)) (fun v u => v = some (.int (nI (walksV C (R * C) fr lp ks sts n s k))) ∧ ∃ s', u = (w.set 46 (nA 4 sts)).set 33 (oM bd R C fr lp lps sn sz wh nc nf nl tl (lN s') ik kb kf kl kn hh)) := by
    intro m
    induction m with
    | zero =>
      intro i h hi hh
      refine j_arrN (a := 46) (n := 4) (f := h) (g := sts) (fun j hj => hh j (by omega)) (by repeat (first | assumption | refine wset_ne (by decide) ?_ | exact wset_lt (by (try simp only [List.length_set]); exact wsome (by assumption)))) ?_
      rw [wset2]
      have e35 : (w.set 46 (nA 4 sts))[35]? = some (nA 4 sts) := (by repeat (first | assumption | refine wset_ne (by decide) ?_ | exact wset_lt (by (try simp only [List.length_set]); exact wsome (by assumption))))
      have hW := LW (w.set 46 (nA 4 sts)) (by repeat (first | assumption | refine wset_ne (by decide) ?_ | exact wset_lt (by (try simp only [List.length_set]); exact wsome (by assumption)))) (by repeat (first | assumption | refine wset_ne (by decide) ?_ | exact wset_lt (by (try simp only [List.length_set]); exact wsome (by assumption)))) e35 (by repeat (first | assumption | refine wset_ne (by decide) ?_ | exact wset_lt (by (try simp only [List.length_set]); exact wsome (by assumption)))) rfl n 0 (s, sts, 0) (by omega) hst hsN hs rfl
      unfold mv at hW
      rw [wset_eq e35] at hW
      refine j_iload iX6_walksNow_3 rfl ?_
      refine j_iconst (v := nI 4) iX6_walksNow_5 (by decide) ?_
      refine j_icmp_geN (tgt := 29) iX6_walksNow_6 (by decide) (by omega) (by omega) (fun _ => ?_) (fun hno => by exfalso; omega)
      refine j_aload_n iX6_walksNow_29 rfl ?_
      refine j_iload_n iX6_walksNow_30 rfl ?_
      refine j_i2l iX6_walksNow_31 ?_
      rw [nI_l hs]
      refine j_put fk_X6_259 iX6_walksNow_32 (by repeat (first | assumption | refine wset_ne (by decide) ?_ | exact wset_lt (by (try simp only [List.length_set]); exact wsome (by assumption)))) (by intro; rfl) (by intro; rfl) (Nat.le_of_ble_eq_true rfl) ?_
      dsimp only [List.set]
      refine j_iconst (v := nI 0) iX6_walksNow_35 (by decide) ?_
      refine j_istore iX6_walksNow_36 (by decide) rfl ?_
      dsimp only [List.set]
      refine j_iconst (v := nI 0) iX6_walksNow_38 (by decide) ?_
      refine j_istore iX6_walksNow_39 (by decide) rfl ?_
      dsimp only [List.set]
      exact hW
    | succ m ih =>
      intro i h hi hh
      refine j_iload iX6_walksNow_3 rfl ?_
      refine j_iconst (v := nI 4) iX6_walksNow_5 (by decide) ?_
      refine j_icmp_geN (tgt := 29) iX6_walksNow_6 (by decide) (by omega) (by omega) (fun hno => by exfalso; omega) (fun _ => ?_)
      refine j_aload_n iX6_walksNow_9 rfl ?_
      refine j_get fk_X6_47 iX6_walksNow_10 (by repeat (first | assumption | refine wset_ne (by decide) ?_ | exact wset_lt (by (try simp only [List.length_set]); exact wsome (by assumption)))) (by rfl) ?_
      refine j_iload iX6_walksNow_13 rfl ?_
      refine j_aload_n iX6_walksNow_15 rfl ?_
      refine j_get fk_X6_13 iX6_walksNow_16 (by repeat (first | assumption | refine wset_ne (by decide) ?_ | exact wset_lt (by (try simp only [List.length_set]); exact wsome (by assumption)))) (by rfl) ?_
      refine j_iload iX6_walksNow_19 rfl ?_
      refine j_ialdN iX6_walksNow_21 (by repeat (first | assumption | refine wset_ne (by decide) ?_ | exact wset_lt (by (try simp only [List.length_set]); exact wsome (by assumption)))) (by omega) ?_
      refine j_iastN iX6_walksNow_22 (by repeat (first | assumption | refine wset_ne (by decide) ?_ | exact wset_lt (by (try simp only [List.length_set]); exact wsome (by assumption)))) (by omega) ?_
      refine j_iincN iX6_walksNow_23 rfl (by decide) rfl ?_
      dsimp only [List.set]
      refine j_goto (tgt := 3) iX6_walksNow_26 (by decide) ?_
      rw [wset2]; exact ih (i + 1) _ (by omega) (un_upto hh rfl)
  refine j_start (ls := [.ref 33, .int (nI n), .int (nI s), .int (nI k), .null, .null, .null, .null]) rfl ?_
  refine j_iconst (v := nI 0) iX6_walksNow_0 (by decide) ?_
  refine j_istore iX6_walksNow_1 (by decide) rfl ?_
  dsimp only [List.set]
  exact (by have := LS 4 0 z rfl (fun j hj => absurd hj (Nat.not_lt_zero _)); rw [wset_eq h46] at this; exact this)
theorem m_walks_o (x y z : Int32) (h : x < 1 ∨ nI 60 < x ∨ y < 0 ∨ inR z 3 = false) : JR 6 mX6_walks [.ref 33, .int x, .int y, .int z] w (.int (-102)) w := by
  refine j_start (ls := [.ref 33, .int x, .int y, .int z]) rfl ?_
  refine j_iload_n iX6_walks_0 rfl ?_
  refine j_iconst (v := nI 1) iX6_walks_1 (by decide) ?_
  refine j_bipush (v := nI 60) iX6_walks_2 (by decide) ?_
  refine j_S3R okX6_within lk_X6_68 iX6_walks_4 (by omega) (m_within _ _ _) rfl (Nat.le_of_ble_eq_true rfl) (Nat.le_of_ble_eq_true rfl) ?_
  refine j_if_eqB (tgt := 23) iX6_walks_7 (by decide) (fun h7 => ?_) (fun h7 => ?_)
  · refine j_bipush (v := (-102)) iX6_walks_23 (by decide) ?_
    refine j_iret iX6_walks_25 rfl (by first | rfl | exact nar_bI _ | exact nar_bP) (⟨rfl, rfl⟩)
  · refine j_iload_n iX6_walks_10 rfl ?_
    refine j_if_lt (tgt := 23) iX6_walks_11 (by decide) (fun h11 => ?_) (fun h11 => ?_)
    · refine j_bipush (v := (-102)) iX6_walks_23 (by decide) ?_
      refine j_iret iX6_walks_25 rfl (by first | rfl | exact nar_bI _ | exact nar_bP) (⟨rfl, rfl⟩)
    · refine j_iload_n iX6_walks_14 rfl ?_
      refine j_iconst (v := nI 0) iX6_walks_15 (by decide) ?_
      refine j_iconst (v := nI 2) iX6_walks_16 (by decide) ?_
      refine j_S3R okX6_within lk_X6_68 iX6_walks_17 (by omega) (m_within _ _ _) rfl (Nat.le_of_ble_eq_true rfl) (Nat.le_of_ble_eq_true rfl) ?_
      refine j_if_neB (tgt := 26) iX6_walks_20 (by decide) (fun hno => Bool.noConfusion (hno.symm.trans (show _ = false from by rw [wi_R (by decide)]; unfold wi at h7; have h7 := of_decide_eq_true h7; rcases h with e | e | e | e; exact absurd e h7.1; exact absurd e h7.2; exact absurd e h11; exact e))) (fun _ => ?_)
      refine j_bipush (v := (-102)) iX6_walks_23 (by decide) ?_
      refine j_iret iX6_walks_25 rfl (by first | rfl | exact nar_bI _ | exact nar_bP) (⟨rfl, rfl⟩)
theorem m_walks_s (hm : w[33]? = some (oM bd R C fr (0) lps sn sz wh nc nf nl tl sd ik kb kf kl kn hh)) (n s k : Nat) (h1 : 1 ≤ n) (h2 : n ≤ 60) (hs : s < 2 ^ 31) (hk : k < 3) : JR 6 mX6_walks [.ref 33, .int (nI n), .int (nI s), .int (nI k)] w (.int (-103)) w := by
  refine j_start (ls := [.ref 33, .int (nI n), .int (nI s), .int (nI k)]) rfl ?_
  refine j_iload_n iX6_walks_0 rfl ?_
  refine j_iconst (v := nI 1) iX6_walks_1 (by decide) ?_
  refine j_bipush (v := nI 60) iX6_walks_2 (by decide) ?_
  refine j_S3R okX6_within lk_X6_68 iX6_walks_4 (by omega) (m_within _ _ _) rfl (Nat.le_of_ble_eq_true rfl) (Nat.le_of_ble_eq_true rfl) ?_
  refine j_if_eqB (tgt := 23) iX6_walks_7 (by decide) (fun hno => Bool.noConfusion (hno.symm.trans (show _ = true from by rw [wi_N (by omega) (by decide) (by decide)]; exact decide_eq_true ⟨h1, h2⟩))) (fun _ => ?_)
  refine j_iload_n iX6_walks_10 rfl ?_
  refine j_if_ltN (tgt := 23) iX6_walks_11 (by decide) (by omega) (fun hno => by exfalso; omega) (fun _ => ?_)
  refine j_iload_n iX6_walks_14 rfl ?_
  refine j_iconst (v := nI 0) iX6_walks_15 (by decide) ?_
  refine j_iconst (v := nI 2) iX6_walks_16 (by decide) ?_
  refine j_S3R okX6_within lk_X6_68 iX6_walks_17 (by omega) (m_within _ _ _) rfl (Nat.le_of_ble_eq_true rfl) (Nat.le_of_ble_eq_true rfl) ?_
  refine j_if_neB (tgt := 26) iX6_walks_20 (by decide) (fun _ => ?_) (fun hno => Bool.noConfusion (hno.symm.trans (show _ = true from by rw [wi_R (by decide), inR_nI (by omega) (by decide)]; exact decide_eq_true hk)))
  refine j_aload_n iX6_walks_26 rfl ?_
  refine j_get fk_X6_119 iX6_walks_27 (by repeat (first | assumption | refine wset_ne (by decide) ?_ | exact wset_lt (by (try simp only [List.length_set]); exact wsome (by assumption)))) (by rfl) ?_
  refine j_if_neN (tgt := 38) iX6_walks_30 (by decide) (by omega) (fun hno => by exfalso; omega) (fun _ => ?_)
  refine j_bipush (v := (-103)) iX6_walks_33 (by decide) ?_
  refine j_goto (tgt := 45) iX6_walks_35 (by decide) ?_
  refine j_iret iX6_walks_45 rfl (by first | rfl | exact nar_bI _ | exact nar_bP) (⟨rfl, rfl⟩)
theorem m_walks {z : Nat → Nat} (hm : w[33]? = some (oM bd R C fr lp lps sn sz wh nc nf nl tl sd ik kb kf kl kn hh)) (h34 : w[34]? = some (nA 4 ks)) (h35 : w[35]? = some (nA 4 sts)) (h46 : w[46]? = some (nA 4 z)) (hN : R * C ≤ 12) (hfr : fr < 4096) (hlp : lp ≤ 4) (hl : 0 < lp) (hks : ∀ i, ks i < 5) (hst : ∀ i, sts i < 12) (hsN : ∀ i, i < lp → sts i < R * C) (n s k : Nat) (h1 : 1 ≤ n) (hn : n ≤ 60) (hs : s < 2 ^ 31) (hk : k < 3) : JX 6 mX6_walks [.ref 33, .int (nI n), .int (nI s), .int (nI k)] w (fun v u => v = some (.int (nI (walksV C (R * C) fr lp ks sts n s k))) ∧ ∃ s', u = (w.set 46 (nA 4 sts)).set 33 (oM bd R C fr lp lps sn sz wh nc nf nl tl (lN s') ik kb kf kl kn hh)) := by
  refine j_start (ls := [.ref 33, .int (nI n), .int (nI s), .int (nI k)]) rfl ?_
  refine j_iload_n iX6_walks_0 rfl ?_
  refine j_iconst (v := nI 1) iX6_walks_1 (by decide) ?_
  refine j_bipush (v := nI 60) iX6_walks_2 (by decide) ?_
  refine j_S3R okX6_within lk_X6_68 iX6_walks_4 (by omega) (m_within _ _ _) rfl (Nat.le_of_ble_eq_true rfl) (Nat.le_of_ble_eq_true rfl) ?_
  refine j_if_eqB (tgt := 23) iX6_walks_7 (by decide) (fun hno => Bool.noConfusion (hno.symm.trans (show _ = true from by rw [wi_N (by omega) (by decide) (by decide)]; exact decide_eq_true ⟨h1, hn⟩))) (fun _ => ?_)
  refine j_iload_n iX6_walks_10 rfl ?_
  refine j_if_ltN (tgt := 23) iX6_walks_11 (by decide) (by omega) (fun hno => by exfalso; omega) (fun _ => ?_)
  refine j_iload_n iX6_walks_14 rfl ?_
  refine j_iconst (v := nI 0) iX6_walks_15 (by decide) ?_
  refine j_iconst (v := nI 2) iX6_walks_16 (by decide) ?_
  refine j_S3R okX6_within lk_X6_68 iX6_walks_17 (by omega) (m_within _ _ _) rfl (Nat.le_of_ble_eq_true rfl) (Nat.le_of_ble_eq_true rfl) ?_
  refine j_if_neB (tgt := 26) iX6_walks_20 (by decide) (fun _ => ?_) (fun hno => Bool.noConfusion (hno.symm.trans (show _ = true from by rw [wi_R (by decide), inR_nI (by omega) (by decide)]; exact decide_eq_true hk)))
  refine j_aload_n iX6_walks_26 rfl ?_
  refine j_get fk_X6_119 iX6_walks_27 (by repeat (first | assumption | refine wset_ne (by decide) ?_ | exact wset_lt (by (try simp only [List.length_set]); exact wsome (by assumption)))) (by rfl) ?_
  refine j_if_neN (tgt := 38) iX6_walks_30 (by decide) (by omega) (fun _ => ?_) (fun hno => by exfalso; omega)
  refine j_aload_n iX6_walks_38 rfl ?_
  refine j_iload_n iX6_walks_39 rfl ?_
  refine j_iload_n iX6_walks_40 rfl ?_
  refine j_iload_n iX6_walks_41 rfl ?_
  refine j_V3X (r := .null) (w' := []) okX6_walksNow lk_X6_278 iX6_walks_42 (by omega) (by repeat (first | assumption | refine wset_ne (by decide) ?_ | exact wset_lt (by (try simp only [List.length_set]); exact wsome (by assumption)))) rfl (m_walksNow hm h34 h35 h46 hN hfr hlp hl hks hst hsN n s k hn hs hk) rfl (Nat.le_of_ble_eq_true rfl) (Nat.le_of_ble_eq_true rfl) ?_
  rintro v u ⟨rfl, s', rfl⟩
  refine j_iret iX6_walks_45 rfl (by first | rfl | exact nar_bI _ | exact nar_bP) (⟨rfl, s', rfl⟩)
end
