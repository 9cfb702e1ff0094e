/-! ===== the reference: its digest ===== -/
section
variable {w : mW} {bd R C fr lp lps sn sz : Nat} {ik : Bool} {kb kf kl kn : Nat} {hh : Int64} {ks sts sof sso rr cc cn pg ks2 sts2 sof2 rr2 cc2 cn2 : Nat → Nat}
theorem s_mixBoard (hS0 : (MS w bd R C fr lp lps sn sz ik kb kf kl kn hh ks sts sof rr cc cn pg ks2 sts2 sof2 rr2 cc2 cn2)) (hI : INV R C fr lp sn ks sts sof sso rr cc cn) (hl : 0 < lp) : JX 7 mX6_mixBoard [.ref 33] w (fun r u => r = none ∧ (MS u bd R C fr lp lps sn sz ik kb kf kl kn (dg4 C (R * C) fr lp ks sts (dg3 C (R * C) fr lp hh)) ks sts sof rr cc cn pg ks2 sts2 sof2 rr2 cc2 cn2) ∧ Fc w u) := by
  have hI2 := hI
  obtain ⟨i1, i2, ⟨v1, v2, v3, v4, v5, v6, v7⟩, i4, i5, i6, i7, i8, i9⟩ := hI2
  generalize hF : dg4 C (R * C) fr lp ks sts (dg3 C (R * C) fr lp hh) = F
  have LP : ∀ (k : Nat) (G : Int64), k < 5 → (∀ u, (MS u bd R C fr lp lps sn sz ik kb kf kl kn (G) ks sts sof rr cc cn pg ks2 sts2 sof2 rr2 cc2 cn2) → Fc w u → J 7 mX6_mixBoard 31 [.ref 33, .int (nI k), .null] [] u (fun r u => r = none ∧ (MS u bd R C fr lp lps sn sz ik kb kf kl kn (F) ks sts sof rr cc cn pg ks2 sts2 sof2 rr2 cc2 cn2) ∧ Fc w u)) →
      ∀ (n y : Nat) (h : Int64) (u : mW), y + n = 2 → (MS u bd R C fr lp lps sn sz ik kb kf kl kn (h) ks sts sof rr cc cn pg ks2 sts2 sof2 rr2 cc2 cn2) → Fc w u → fold (fun y h => mxL h (nI (peaceV C (R * C) fr k y))) n y h = G → J 7 mX6_mixBoard 9 [.ref 33, .int (nI k), .int (nI y)] [] u (fun r u => r = none ∧ (MS u bd R C fr lp lps sn sz ik kb kf kl kn (F) ks sts sof rr cc cn pg ks2 sts2 sof2 rr2 cc2 cn2) ∧ Fc w u) := by
    intro k G hk kk n
    induction n with
    | zero =>
      intro y h u hy hu hc he
      have e : h = G := he
      subst e
      refine j_iload_n iX6_mixBoard_9 rfl ?_
      refine j_iconst (v := nI 2) iX6_mixBoard_10 (by decide) ?_
      refine j_icmp_geN (tgt := 31) iX6_mixBoard_11 (by decide) (by omega) (by omega) (fun _ => ?_) (fun hno => by exfalso; omega)
      exact J.fg (kk u hu hc) (by first | (simp [LF]; done) | (simp [LF, bI]; done))
    | succ n ih =>
      intro y h u hy hu hc he
      have hu2 := hu
      obtain ⟨wh, nc, nf, nl, tl, sd, a1, a2, a3, a4, a5, a6, hm, h34, h35, h36, h37, h38, h39, h40, h41, h42, h43, h44, h45, h46, h47, h48, h49, h50, h51, h52⟩ := hu2
      have hp := m_peaceNow hm i1 v1 k y hk (by omega)
      rw [peaceM_V i1 v1] at hp
      refine j_iload_n iX6_mixBoard_9 rfl ?_
      refine j_iconst (v := nI 2) iX6_mixBoard_10 (by decide) ?_
      refine j_icmp_geN (tgt := 31) iX6_mixBoard_11 (by decide) (by omega) (by omega) (fun hno => by exfalso; omega) (fun _ => ?_)
      refine j_aload_n iX6_mixBoard_14 rfl ?_
      refine j_aload_n iX6_mixBoard_15 rfl ?_
      refine j_iload_n iX6_mixBoard_16 rfl ?_
      refine j_iload_n iX6_mixBoard_17 rfl ?_
      refine j_V2R okX6_peaceNow lk_X6_228 iX6_mixBoard_18 (by omega) (by repeat (first | assumption | refine wset_ne (by decide) ?_ | exact wset_lt (by (try simp only [List.length_set]); exact wsome (by assumption)))) rfl (hp) rfl (Nat.le_of_ble_eq_true rfl) (Nat.le_of_ble_eq_true rfl) ?_
      refine j_i2l iX6_mixBoard_21 ?_
      refine j_V1X (r := .null) (w' := []) okX6_mix lk_X6_304 iX6_mixBoard_22 (by omega) (by repeat (first | assumption | refine wset_ne (by decide) ?_ | exact wset_lt (by (try simp only [List.length_set]); exact wsome (by assumption)))) rfl ((s_mix hu _)) rfl (Nat.le_of_ble_eq_true rfl) (Nat.le_of_ble_eq_true rfl) ?_
      rintro v x ⟨rfl, hx, hxc⟩
      dsimp only [Option.toList, List.nil_append]
      refine j_iincN iX6_mixBoard_25 rfl (by decide) rfl ?_
      dsimp only [List.set]
      refine j_goto (tgt := 9) iX6_mixBoard_28 (by decide) ?_
      exact ih (y + 1) _ x (by omega) hx (hc.tr hxc) he
  have LG : ∀ (k : Nat) (G : Int64), k < 5 → (∀ u, (MS u bd R C fr lp lps sn sz ik kb kf kl kn (G) ks sts sof rr cc cn pg ks2 sts2 sof2 rr2 cc2 cn2) → Fc w u → J 7 mX6_mixBoard 55 [.ref 33, .int (nI k), .null] [] u (fun r u => r = none ∧ (MS u bd R C fr lp lps sn sz ik kb kf kl kn (F) ks sts sof rr cc cn pg ks2 sts2 sof2 rr2 cc2 cn2) ∧ Fc w u)) →
      ∀ (n y : Nat) (h : Int64) (u : mW), y + n = 2 → (MS u bd R C fr lp lps sn sz ik kb kf kl kn (h) ks sts sof rr cc cn pg ks2 sts2 sof2 rr2 cc2 cn2) → Fc w u → fold (fun y h => mxL h (nI (guardV C (R * C) fr k y))) n y h = G → J 7 mX6_mixBoard 33 [.ref 33, .int (nI k), .int (nI y)] [] u (fun r u => r = none ∧ (MS u bd R C fr lp lps sn sz ik kb kf kl kn (F) ks sts sof rr cc cn pg ks2 sts2 sof2 rr2 cc2 cn2) ∧ Fc w u) := by
    intro k G hk kk n
    induction n with
    | zero =>
      intro y h u hy hu hc he
      have e : h = G := he
      subst e
      refine j_iload_n iX6_mixBoard_33 rfl ?_
      refine j_iconst (v := nI 2) iX6_mixBoard_34 (by decide) ?_
      refine j_icmp_geN (tgt := 55) iX6_mixBoard_35 (by decide) (by omega) (by omega) (fun _ => ?_) (fun hno => by exfalso; omega)
      exact J.fg (kk u hu hc) (by first | (simp [LF]; done) | (simp [LF, bI]; done))
    | succ n ih =>
      intro y h u hy hu hc he
      have hu2 := hu
      obtain ⟨wh, nc, nf, nl, tl, sd, a1, a2, a3, a4, a5, a6, hm, h34, h35, h36, h37, h38, h39, h40, h41, h42, h43, h44, h45, h46, h47, h48, h49, h50, h51, h52⟩ := hu2
      have hp := m_guardNow hm i1 v1 k y hk (by omega)
      rw [guardM_V i1 v1] at hp
      refine j_iload_n iX6_mixBoard_33 rfl ?_
      refine j_iconst (v := nI 2) iX6_mixBoard_34 (by decide) ?_
      refine j_icmp_geN (tgt := 55) iX6_mixBoard_35 (by decide) (by omega) (by omega) (fun hno => by exfalso; omega) (fun _ => ?_)
      refine j_aload_n iX6_mixBoard_38 rfl ?_
      refine j_aload_n iX6_mixBoard_39 rfl ?_
      refine j_iload_n iX6_mixBoard_40 rfl ?_
      refine j_iload_n iX6_mixBoard_41 rfl ?_
      refine j_V2R okX6_guardNow lk_X6_234 iX6_mixBoard_42 (by omega) (by repeat (first | assumption | refine wset_ne (by decide) ?_ | exact wset_lt (by (try simp only [List.length_set]); exact wsome (by assumption)))) rfl (hp) rfl (Nat.le_of_ble_eq_true rfl) (Nat.le_of_ble_eq_true rfl) ?_
      refine j_i2l iX6_mixBoard_45 ?_
      refine j_V1X (r := .null) (w' := []) okX6_mix lk_X6_304 iX6_mixBoard_46 (by omega) (by repeat (first | assumption | refine wset_ne (by decide) ?_ | exact wset_lt (by (try simp only [List.length_set]); exact wsome (by assumption)))) rfl ((s_mix hu _)) rfl (Nat.le_of_ble_eq_true rfl) (Nat.le_of_ble_eq_true rfl) ?_
      rintro v x ⟨rfl, hx, hxc⟩
      dsimp only [Option.toList, List.nil_append]
      refine j_iincN iX6_mixBoard_49 rfl (by decide) rfl ?_
      dsimp only [List.set]
      refine j_goto (tgt := 33) iX6_mixBoard_52 (by decide) ?_
      exact ih (y + 1) _ x (by omega) hx (hc.tr hxc) he
  have LQ : ∀ (k : Nat) (G : Int64), k < 5 → (∀ u, (MS u bd R C fr lp lps sn sz ik kb kf kl kn (G) ks sts sof rr cc cn pg ks2 sts2 sof2 rr2 cc2 cn2) → Fc w u → J 7 mX6_mixBoard 79 [.ref 33, .int (nI k), .null] [] u (fun r u => r = none ∧ (MS u bd R C fr lp lps sn sz ik kb kf kl kn (F) ks sts sof rr cc cn pg ks2 sts2 sof2 rr2 cc2 cn2) ∧ Fc w u)) →
      ∀ (n y : Nat) (h : Int64) (u : mW), y + n = 2 → (MS u bd R C fr lp lps sn sz ik kb kf kl kn (h) ks sts sof rr cc cn pg ks2 sts2 sof2 rr2 cc2 cn2) → Fc w u → fold (fun y h => mxL h (nI (partsV C (R * C) fr k y))) n y h = G → J 7 mX6_mixBoard 57 [.ref 33, .int (nI k), .int (nI y)] [] u (fun r u => r = none ∧ (MS u bd R C fr lp lps sn sz ik kb kf kl kn (F) ks sts sof rr cc cn pg ks2 sts2 sof2 rr2 cc2 cn2) ∧ Fc w u) := by
    intro k G hk kk n
    induction n with
    | zero =>
      intro y h u hy hu hc he
      have e : h = G := he
      subst e
      refine j_iload_n iX6_mixBoard_57 rfl ?_
      refine j_iconst (v := nI 2) iX6_mixBoard_58 (by decide) ?_
      refine j_icmp_geN (tgt := 79) iX6_mixBoard_59 (by decide) (by omega) (by omega) (fun _ => ?_) (fun hno => by exfalso; omega)
      exact J.fg (kk u hu hc) (by first | (simp [LF]; done) | (simp [LF, bI]; done))
    | succ n ih =>
      intro y h u hy hu hc he
      have hu2 := hu
      obtain ⟨wh, nc, nf, nl, tl, sd, a1, a2, a3, a4, a5, a6, hm, h34, h35, h36, h37, h38, h39, h40, h41, h42, h43, h44, h45, h46, h47, h48, h49, h50, h51, h52⟩ := hu2
      have hp := m_partsTold hm i1 v1 k y hk (by omega)
      rw [partsM_V i1 i2] at hp
      refine j_iload_n iX6_mixBoard_57 rfl ?_
      refine j_iconst (v := nI 2) iX6_mixBoard_58 (by decide) ?_
      refine j_icmp_geN (tgt := 79) iX6_mixBoard_59 (by decide) (by omega) (by omega) (fun hno => by exfalso; omega) (fun _ => ?_)
      refine j_aload_n iX6_mixBoard_62 rfl ?_
      refine j_aload_n iX6_mixBoard_63 rfl ?_
      refine j_iload_n iX6_mixBoard_64 rfl ?_
      refine j_iload_n iX6_mixBoard_65 rfl ?_
      refine j_V2R okX6_partsTold lk_X6_246 iX6_mixBoard_66 (by omega) (by repeat (first | assumption | refine wset_ne (by decide) ?_ | exact wset_lt (by (try simp only [List.length_set]); exact wsome (by assumption)))) rfl (hp) rfl (Nat.le_of_ble_eq_true rfl) (Nat.le_of_ble_eq_true rfl) ?_
      refine j_i2l iX6_mixBoard_69 ?_
      refine j_V1X (r := .null) (w' := []) okX6_mix lk_X6_304 iX6_mixBoard_70 (by omega) (by repeat (first | assumption | refine wset_ne (by decide) ?_ | exact wset_lt (by (try simp only [List.length_set]); exact wsome (by assumption)))) rfl ((s_mix hu _)) rfl (Nat.le_of_ble_eq_true rfl) (Nat.le_of_ble_eq_true rfl) ?_
      rintro v x ⟨rfl, hx, hxc⟩
      dsimp only [Option.toList, List.nil_append]
      refine j_iincN iX6_mixBoard_73 rfl (by decide) rfl ?_
      dsimp only [List.set]
      refine j_goto (tgt := 57) iX6_mixBoard_76 (by decide) ?_
      exact ih (y + 1) _ x (by omega) hx (hc.tr hxc) he
  have L : ∀ (n k : Nat) (h : Int64) (u : mW), k + n = 5 → (MS u bd R C fr lp lps sn sz ik kb kf kl kn (h) ks sts sof rr cc cn pg ks2 sts2 sof2 rr2 cc2 cn2) → Fc w u → fold (dgK C (R * C) fr) n k h = fold (dgK C (R * C) fr) 5 0 hh → J 7 mX6_mixBoard 2 [.ref 33, .int (nI k), .null] [] u (fun r u => r = none ∧ (MS u bd R C fr lp lps sn sz ik kb kf kl kn (F) ks sts sof rr cc cn pg ks2 sts2 sof2 rr2 cc2 cn2) ∧ Fc w u) := by
    intro n
    induction n with
    | zero =>
      intro k h u hk hu hc he
      have e : h = fold (dgK C (R * C) fr) 5 0 hh := he
      have hu2 := hu
      obtain ⟨wh, nc, nf, nl, tl, sd, a1, a2, a3, a4, a5, a6, hm, h34, h35, h36, h37, h38, h39, h40, h41, h42, h43, h44, h45, h46, h47, h48, h49, h50, h51, h52⟩ := hu2
      unfold dg4 dg3 at hF
      rw [if_pos hl, ← e] at hF
      by_cases h2 : 2 ≤ lp
      · rw [if_pos h2] at hF
        refine j_iload_n iX6_mixBoard_2 rfl ?_
        refine j_iconst (v := nI 4) iX6_mixBoard_3 (by decide) ?_
        refine j_icmp_gtN (tgt := 85) iX6_mixBoard_4 (by decide) (by omega) (by omega) (fun _ => ?_) (fun hno => by exfalso; omega)
        refine j_aload_n iX6_mixBoard_85 rfl ?_
        refine j_get fk_X6_119 iX6_mixBoard_86 (by repeat (first | assumption | refine wset_ne (by decide) ?_ | exact wset_lt (by (try simp only [List.length_set]); exact wsome (by assumption)))) (by rfl) ?_
        refine j_iconst (v := nI 1) iX6_mixBoard_89 (by decide) ?_
        refine j_icmp_leN (tgt := 104) iX6_mixBoard_90 (by decide) (by omega) (by omega) (fun hno => by exfalso; omega) (fun _ => ?_)
        refine j_aload_n iX6_mixBoard_93 rfl ?_
        refine j_aload_n iX6_mixBoard_94 rfl ?_
        refine j_iconst (v := nI 0) iX6_mixBoard_95 (by decide) ?_
        refine j_iconst (v := nI 1) iX6_mixBoard_96 (by decide) ?_
        refine j_V2X (r := .null) (w' := []) okX6_tradeNow lk_X6_209 iX6_mixBoard_97 (by omega) (by repeat (first | assumption | refine wset_ne (by decide) ?_ | exact wset_lt (by (try simp only [List.length_set]); exact wsome (by assumption)))) rfl ((s_tradeNow hu hI 0 1 (by omega) (by omega) (by decide))) rfl (Nat.le_of_ble_eq_true rfl) (Nat.le_of_ble_eq_true rfl) ?_
        rintro v x ⟨rfl, hx, hxc⟩
        obtain ⟨_, _, _, _, _, _, _, _, _, _, _, _, hm_hx, -⟩ := id hx
        refine j_i2l iX6_mixBoard_100 ?_
        refine j_V1X (r := .null) (w' := []) okX6_mix lk_X6_304 iX6_mixBoard_101 (by omega) (by repeat (first | assumption | refine wset_ne (by decide) ?_ | exact wset_lt (by (try simp only [List.length_set]); exact wsome (by assumption)))) rfl ((s_mix hx _)) rfl (Nat.le_of_ble_eq_true rfl) (Nat.le_of_ble_eq_true rfl) ?_
        rintro v x2 ⟨rfl, hx2, hxc2⟩
        dsimp only [Option.toList, List.nil_append]
        refine j_vret iX6_mixBoard_104 rfl (⟨rfl, by rw [← hF]; exact hx2, (hc.tr hxc).tr hxc2⟩)
      · rw [if_neg h2] at hF
        refine j_iload_n iX6_mixBoard_2 rfl ?_
        refine j_iconst (v := nI 4) iX6_mixBoard_3 (by decide) ?_
        refine j_icmp_gtN (tgt := 85) iX6_mixBoard_4 (by decide) (by omega) (by omega) (fun _ => ?_) (fun hno => by exfalso; omega)
        refine j_aload_n iX6_mixBoard_85 rfl ?_
        refine j_get fk_X6_119 iX6_mixBoard_86 (by repeat (first | assumption | refine wset_ne (by decide) ?_ | exact wset_lt (by (try simp only [List.length_set]); exact wsome (by assumption)))) (by rfl) ?_
        refine j_iconst (v := nI 1) iX6_mixBoard_89 (by decide) ?_
        refine j_icmp_leN (tgt := 104) iX6_mixBoard_90 (by decide) (by omega) (by omega) (fun _ => ?_) (fun hno => by exfalso; omega)
        refine j_vret iX6_mixBoard_104 rfl (⟨rfl, by rw [← hF]; exact hu, hc⟩)
    | succ n ih =>
      intro k h u hk hu hc he
      have K79 : ∀ u, (MS u bd R C fr lp lps sn sz ik kb kf kl kn (dgK C (R * C) fr k h) ks sts sof rr cc cn pg ks2 sts2 sof2 rr2 cc2 cn2) → Fc w u → J 7 mX6_mixBoard 79 [.ref 33, .int (nI k), .null] [] u (fun r u => r = none ∧ (MS u bd R C fr lp lps sn sz ik kb kf kl kn (F) ks sts sof rr cc cn pg ks2 sts2 sof2 rr2 cc2 cn2) ∧ Fc w u) := by
        intro u hu hc
        refine j_iincN iX6_mixBoard_79 rfl (by decide) rfl ?_
        dsimp only [List.set]
        refine j_goto (tgt := 2) iX6_mixBoard_82 (by decide) ?_
        exact ih (k + 1) _ u (by omega) hu hc he
      have K55 : ∀ u, (MS u bd R C fr lp lps sn sz ik kb kf kl kn (mxL (mxL (mxL (mxL h (nI (peaceV C (R * C) fr k 0))) (nI (peaceV C (R * C) fr k 1))) (nI (guardV C (R * C) fr k 0))) (nI (guardV C (R * C) fr k 1))) ks sts sof rr cc cn pg ks2 sts2 sof2 rr2 cc2 cn2) → Fc w u → J 7 mX6_mixBoard 55 [.ref 33, .int (nI k), .null] [] u (fun r u => r = none ∧ (MS u bd R C fr lp lps sn sz ik kb kf kl kn (F) ks sts sof rr cc cn pg ks2 sts2 sof2 rr2 cc2 cn2) ∧ Fc w u) := by
        intro u hu hc
        have hq := LQ k _ (by omega) K79 2 0 _ u rfl hu hc rfl
        refine j_iconst (v := nI 0) iX6_mixBoard_55 (by decide) ?_
        refine j_istore_n iX6_mixBoard_56 (by decide) rfl ?_
        dsimp only [List.set]
        exact hq
      have K31 : ∀ u, (MS u bd R C fr lp lps sn sz ik kb kf kl kn (mxL (mxL h (nI (peaceV C (R * C) fr k 0))) (nI (peaceV C (R * C) fr k 1))) ks sts sof rr cc cn pg ks2 sts2 sof2 rr2 cc2 cn2) → Fc w u → J 7 mX6_mixBoard 31 [.ref 33, .int (nI k), .null] [] u (fun r u => r = none ∧ (MS u bd R C fr lp lps sn sz ik kb kf kl kn (F) ks sts sof rr cc cn pg ks2 sts2 sof2 rr2 cc2 cn2) ∧ Fc w u) := by
        intro u hu hc
        have hq := LG k _ (by omega) K55 2 0 _ u rfl hu hc rfl
        refine j_iconst (v := nI 0) iX6_mixBoard_31 (by decide) ?_
        refine j_istore_n iX6_mixBoard_32 (by decide) rfl ?_
        dsimp only [List.set]
        exact hq
      have hq := LP k _ (by omega) K31 2 0 h u rfl hu hc rfl
      refine j_iload_n iX6_mixBoard_2 rfl ?_
      refine j_iconst (v := nI 4) iX6_mixBoard_3 (by decide) ?_
      refine j_icmp_gtN (tgt := 85) iX6_mixBoard_4 (by decide) (by omega) (by omega) (fun hno => by exfalso; omega) (fun _ => ?_)
      refine j_iconst (v := nI 0) iX6_mixBoard_7 (by decide) ?_
      refine j_istore_n iX6_mixBoard_8 (by decide) rfl ?_
      dsimp only [List.set]
      exact hq
  refine j_start (ls := [.ref 33, .null, .null]) rfl ?_
  refine j_iconst (v := nI 0) iX6_mixBoard_0 (by decide) ?_
  refine j_istore_n iX6_mixBoard_1 (by decide) rfl ?_
  dsimp only [List.set]
  exact L 5 0 hh w rfl hS0 Fc.rf rfl
theorem s_digest (hS0 : (MS w bd R C fr lp lps sn sz ik kb kf kl kn hh ks sts sof rr cc cn pg ks2 sts2 sof2 rr2 cc2 cn2)) (hI : INV R C fr lp sn ks sts sof sso rr cc cn) (h4 : lp = 0 ∨ 4 ≤ R * C) (hsz : sz ≤ 30) (hpg : ∀ i, pg i < 127) : JX 8 mX6_digest [.ref 33] w (fun r u => r = some (.long (digT R C fr lp lps sn sz bd ks sts sof sso pg)) ∧ (∃ hh', (MS u bd R C fr lp lps sn sz ik kb kf kl kn (hh') ks sts sof rr cc cn pg ks2 sts2 sof2 rr2 cc2 cn2)) ∧ Fc w u) := by
  have hI2 := hI
  have hsN := hI.sN
  obtain ⟨i1, i2, ⟨v1, v2, v3, v4, v5, v6, v7⟩, i4, i5, i6, i7, i8, i9⟩ := hI2
  generalize hF : digT R C fr lp lps sn sz bd ks sts sof sso pg = F
  -- what is counted
  have L6 : ∀ (n y : Nat) (h : Int64) (u : mW), y + n = 9 → (MS u bd R C fr lp lps sn sz ik kb kf kl kn (h) ks sts sof rr cc cn pg ks2 sts2 sof2 rr2 cc2 cn2) → Fc w u → fold (fun y h => mxL h (nI (countV R C fr lp lps sn sz bd ks sts y))) n y h = F → J 8 mX6_digest 151 [.ref 33, .int (nI y), .null] [] u (fun r u => r = some (.long F) ∧ (∃ hh', (MS u bd R C fr lp lps sn sz ik kb kf kl kn (hh') ks sts sof rr cc cn pg ks2 sts2 sof2 rr2 cc2 cn2)) ∧ Fc w u) := by
    intro n
    induction n with
    | zero =>
      intro y h u hy hu hc he
      have e : h = F := he
      subst e
      have hu2 := hu
      obtain ⟨wh, nc, nf, nl, tl, sd, a1, a2, a3, a4, a5, a6, hm, h34, h35, h36, h37, h38, h39, h40, h41, h42, h43, h44, h45, h46, h47, h48, h49, h50, h51, h52⟩ := hu2
      refine j_iload_n iX6_digest_151 rfl ?_
      refine j_bipush (v := nI 9) iX6_digest_152 (by decide) ?_
      refine j_icmp_geN (tgt := 173) iX6_digest_154 (by decide) (by omega) (by omega) (fun _ => ?_) (fun hno => by exfalso; omega)
      refine j_aload_n iX6_digest_173 rfl ?_
      refine j_get fk_X6_301 iX6_digest_174 (by repeat (first | assumption | refine wset_ne (by decide) ?_ | exact wset_lt (by (try simp only [List.length_set]); exact wsome (by assumption)))) (by rfl) ?_
      refine j_lret iX6_digest_177 rfl (⟨rfl, ⟨_, hu⟩, hc⟩)
    | succ n ih =>
      intro y h u hy hu hc he
      obtain ⟨_, _, _, _, _, _, _, _, _, _, _, _, hm_hu, -⟩ := id hu
      refine j_iload_n iX6_digest_151 rfl ?_
      refine j_bipush (v := nI 9) iX6_digest_152 (by decide) ?_
      refine j_icmp_geN (tgt := 173) iX6_digest_154 (by decide) (by omega) (by omega) (fun hno => by exfalso; omega) (fun _ => ?_)
      refine j_aload_n iX6_digest_157 rfl ?_
      refine j_aload_n iX6_digest_158 rfl ?_
      refine j_iload_n iX6_digest_159 rfl ?_
      refine j_V1R okX6_howMany lk_X6_296 iX6_digest_160 (by omega) (by repeat (first | assumption | refine wset_ne (by decide) ?_ | exact wset_lt (by (try simp only [List.length_set]); exact wsome (by assumption)))) rfl (s_howMany hu hI y (by omega)) rfl (Nat.le_of_ble_eq_true rfl) (Nat.le_of_ble_eq_true rfl) ?_
      refine j_i2l iX6_digest_163 ?_
      refine j_V1X (r := .null) (w' := []) okX6_mix lk_X6_304 iX6_digest_164 (by omega) (by repeat (first | assumption | refine wset_ne (by decide) ?_ | exact wset_lt (by (try simp only [List.length_set]); exact wsome (by assumption)))) rfl ((s_mix hu _)) rfl (Nat.le_of_ble_eq_true rfl) (Nat.le_of_ble_eq_true rfl) ?_
      rintro v x ⟨rfl, hx, hxc⟩
      dsimp only [Option.toList, List.nil_append]
      refine j_iincN iX6_digest_167 rfl (by decide) rfl ?_
      dsimp only [List.set]
      refine j_goto (tgt := 151) iX6_digest_170 (by decide) ?_
      exact ih (y + 1) _ x (by omega) hx (hc.tr hxc) he
  -- the page
  have L5 : ∀ (n q : Nat) (h : Int64) (u : mW), q + n = sz → (MS u bd R C fr lp lps sn sz ik kb kf kl kn (h) ks sts sof rr cc cn pg ks2 sts2 sof2 rr2 cc2 cn2) → Fc w u → dg6 R C fr lp lps sn sz bd ks sts (fold (fun p h => mxL h (nI (pg p))) n q h) = F → J 8 mX6_digest 124 [.ref 33, .int (nI q), .null] [] u (fun r u => r = some (.long F) ∧ (∃ hh', (MS u bd R C fr lp lps sn sz ik kb kf kl kn (hh') ks sts sof rr cc cn pg ks2 sts2 sof2 rr2 cc2 cn2)) ∧ Fc w u) := by
    intro n
    induction n with
    | zero =>
      intro q h u hq hu hc he
      have hu2 := hu
      obtain ⟨wh, nc, nf, nl, tl, sd, a1, a2, a3, a4, a5, a6, hm, h34, h35, h36, h37, h38, h39, h40, h41, h42, h43, h44, h45, h46, h47, h48, h49, h50, h51, h52⟩ := hu2
      refine j_iload_n iX6_digest_124 rfl ?_
      refine j_aload_n iX6_digest_125 rfl ?_
      refine j_get fk_X6_72 iX6_digest_126 (by repeat (first | assumption | refine wset_ne (by decide) ?_ | exact wset_lt (by (try simp only [List.length_set]); exact wsome (by assumption)))) (by rfl) ?_
      refine j_icmp_geN (tgt := 149) iX6_digest_129 (by decide) (by omega) (by omega) (fun _ => ?_) (fun hno => by exfalso; omega)
      refine j_iconst (v := nI 0) iX6_digest_149 (by decide) ?_
      refine j_istore_n iX6_digest_150 (by decide) rfl ?_
      dsimp only [List.set]
      exact L6 9 0 h u rfl hu hc he
    | succ n ih =>
      intro q h u hq hu hc he
      have hu2 := hu
      obtain ⟨wh, nc, nf, nl, tl, sd, a1, a2, a3, a4, a5, a6, hm, h34, h35, h36, h37, h38, h39, h40, h41, h42, h43, h44, h45, h46, h47, h48, h49, h50, h51, h52⟩ := hu2
      refine j_iload_n iX6_digest_124 rfl ?_
      refine j_aload_n iX6_digest_125 rfl ?_
      refine j_get fk_X6_72 iX6_digest_126 (by repeat (first | assumption | refine wset_ne (by decide) ?_ | exact wset_lt (by (try simp only [List.length_set]); exact wsome (by assumption)))) (by rfl) ?_
      refine j_icmp_geN (tgt := 149) iX6_digest_129 (by decide) (by omega) (by omega) (fun hno => by exfalso; omega) (fun _ => ?_)
      refine j_aload_n iX6_digest_132 rfl ?_
      refine j_aload_n iX6_digest_133 rfl ?_
      refine j_get fk_X6_28 iX6_digest_134 (by repeat (first | assumption | refine wset_ne (by decide) ?_ | exact wset_lt (by (try simp only [List.length_set]); exact wsome (by assumption)))) (by rfl) ?_
      refine j_iload_n iX6_digest_137 rfl ?_
      refine j_baldN iX6_digest_138 (by repeat (first | assumption | refine wset_ne (by decide) ?_ | exact wset_lt (by (try simp only [List.length_set]); exact wsome (by assumption)))) (by omega) ?_
      refine j_i2l iX6_digest_139 ?_
      refine j_V1X (r := .null) (w' := []) okX6_mix lk_X6_304 iX6_digest_140 (by omega) (by repeat (first | assumption | refine wset_ne (by decide) ?_ | exact wset_lt (by (try simp only [List.length_set]); exact wsome (by assumption)))) rfl ((s_mix hu _)) rfl (Nat.le_of_ble_eq_true rfl) (Nat.le_of_ble_eq_true rfl) ?_
      rintro v x ⟨rfl, hx, hxc⟩
      dsimp only [Option.toList, List.nil_append]
      refine j_iincN iX6_digest_143 rfl (by decide) rfl ?_
      dsimp only [List.set]
      refine j_goto (tgt := 124) iX6_digest_146 (by decide) ?_
      exact ih (q + 1) _ x (by omega) hx (hc.tr hxc) he
  have K122 : ∀ (h : Int64) (u : mW), (MS u bd R C fr lp lps sn sz ik kb kf kl kn (h) ks sts sof rr cc cn pg ks2 sts2 sof2 rr2 cc2 cn2) → Fc w u → dg6 R C fr lp lps sn sz bd ks sts (dg5 pg sz h) = F → J 8 mX6_digest 122 [.ref 33, .null, .null] [] u (fun r u => r = some (.long F) ∧ (∃ hh', (MS u bd R C fr lp lps sn sz ik kb kf kl kn (hh') ks sts sof rr cc cn pg ks2 sts2 sof2 rr2 cc2 cn2)) ∧ Fc w u) := by
    intro h u hu hc he
    refine j_iconst (v := nI 0) iX6_digest_122 (by decide) ?_
    refine j_istore_n iX6_digest_123 (by decide) rfl ?_
    dsimp only [List.set]
    exact L5 sz 0 h u (by omega) hu hc he
  have K111 : ∀ (h : Int64) (u : mW), (MS u bd R C fr lp lps sn sz ik kb kf kl kn (h) ks sts sof rr cc cn pg ks2 sts2 sof2 rr2 cc2 cn2) → Fc w u → dg6 R C fr lp lps sn sz bd ks sts (dg5 pg sz (dg4 C (R * C) fr lp ks sts (dg3 C (R * C) fr lp h))) = F → J 8 mX6_digest 111 [.ref 33, .null, .null] [] u (fun r u => r = some (.long F) ∧ (∃ hh', (MS u bd R C fr lp lps sn sz ik kb kf kl kn (hh') ks sts sof rr cc cn pg ks2 sts2 sof2 rr2 cc2 cn2)) ∧ Fc w u) := by
    intro h u hu hc he
    have hu2 := hu
    obtain ⟨wh, nc, nf, nl, tl, sd, a1, a2, a3, a4, a5, a6, hm, h34, h35, h36, h37, h38, h39, h40, h41, h42, h43, h44, h45, h46, h47, h48, h49, h50, h51, h52⟩ := hu2
    by_cases hl : 0 < lp
    · refine j_aload_n iX6_digest_111 rfl ?_
      refine j_get fk_X6_119 iX6_digest_112 (by repeat (first | assumption | refine wset_ne (by decide) ?_ | exact wset_lt (by (try simp only [List.length_set]); exact wsome (by assumption)))) (by rfl) ?_
      refine j_if_leN (tgt := 122) iX6_digest_115 (by decide) (by omega) (fun hno => by exfalso; omega) (fun _ => ?_)
      refine j_aload_n iX6_digest_118 rfl ?_
      refine j_V0X (r := .null) (w' := []) okX6_mixBoard lk_X6_316 iX6_digest_119 (by omega) (by repeat (first | assumption | refine wset_ne (by decide) ?_ | exact wset_lt (by (try simp only [List.length_set]); exact wsome (by assumption)))) rfl ((s_mixBoard hu hI hl)) rfl (Nat.le_of_ble_eq_true rfl) (Nat.le_of_ble_eq_true rfl) ?_
      rintro v x ⟨rfl, hx, hxc⟩
      dsimp only [Option.toList, List.nil_append]
      exact K122 _ x hx (hc.tr hxc) he
    · have e1 : dg4 C (R * C) fr lp ks sts (dg3 C (R * C) fr lp h) = h := by unfold dg4 dg3; rw [if_neg (by omega), if_neg hl]
      rw [e1] at he
      refine j_aload_n iX6_digest_111 rfl ?_
      refine j_get fk_X6_119 iX6_digest_112 (by repeat (first | assumption | refine wset_ne (by decide) ?_ | exact wset_lt (by (try simp only [List.length_set]); exact wsome (by assumption)))) (by rfl) ?_
      refine j_if_leN (tgt := 122) iX6_digest_115 (by decide) (by omega) (fun _ => ?_) (fun hno => by exfalso; omega)
      exact K122 _ u hu hc he
  -- the cells
  have LCI : ∀ (c : Nat) (G : Int64), c < R * C → (∀ u, (MS u bd R C fr lp lps sn sz ik kb kf kl kn (G) ks sts sof rr cc cn pg ks2 sts2 sof2 rr2 cc2 cn2) → Fc w u → J 8 mX6_digest 105 [.ref 33, .int (nI c), .null] [] u (fun r u => r = some (.long F) ∧ (∃ hh', (MS u bd R C fr lp lps sn sz ik kb kf kl kn (hh') ks sts sof rr cc cn pg ks2 sts2 sof2 rr2 cc2 cn2)) ∧ Fc w u)) →
      ∀ (n y : Nat) (h : Int64) (u : mW), y + n = 3 → (MS u bd R C fr lp lps sn sz ik kb kf kl kn (h) ks sts sof rr cc cn pg ks2 sts2 sof2 rr2 cc2 cn2) → Fc w u → fold (fun y h => mxL h (cellV C (R * C) fr lp ks sts c y)) n y h = G → J 8 mX6_digest 83 [.ref 33, .int (nI c), .int (nI y)] [] u (fun r u => r = some (.long F) ∧ (∃ hh', (MS u bd R C fr lp lps sn sz ik kb kf kl kn (hh') ks sts sof rr cc cn pg ks2 sts2 sof2 rr2 cc2 cn2)) ∧ Fc w u) := by
    intro c G hcc kk n
    induction n with
    | zero =>
      intro y h u hy hu hc he
      have e : h = G := he
      subst e
      refine j_iload_n iX6_digest_83 rfl ?_
      refine j_iconst (v := nI 3) iX6_digest_84 (by decide) ?_
      refine j_icmp_geN (tgt := 105) iX6_digest_85 (by decide) (by omega) (by omega) (fun _ => ?_) (fun hno => by exfalso; omega)
      exact J.fg (kk u hu hc) (by first | (simp [LF]; done) | (simp [LF, bI]; done))
    | succ n ih =>
      intro y h u hy hu hc he
      obtain ⟨_, _, _, _, _, _, _, _, _, _, _, _, hm_hu, -⟩ := id hu
      refine j_iload_n iX6_digest_83 rfl ?_
      refine j_iconst (v := nI 3) iX6_digest_84 (by decide) ?_
      refine j_icmp_geN (tgt := 105) iX6_digest_85 (by decide) (by omega) (by omega) (fun hno => by exfalso; omega) (fun _ => ?_)
      refine j_aload_n iX6_digest_88 rfl ?_
      refine j_aload_n iX6_digest_89 rfl ?_
      refine j_iload_n iX6_digest_90 rfl ?_
      refine j_iload_n iX6_digest_91 rfl ?_
      refine j_V2R okX6_cellNow lk_X6_182 iX6_digest_92 (by omega) (by repeat (first | assumption | refine wset_ne (by decide) ?_ | exact wset_lt (by (try simp only [List.length_set]); exact wsome (by assumption)))) rfl (s_cellNow hu hI c y hcc (by omega)) rfl (Nat.le_of_ble_eq_true rfl) (Nat.le_of_ble_eq_true rfl) ?_
      refine j_i2l iX6_digest_95 ?_
      refine j_V1X (r := .null) (w' := []) okX6_mix lk_X6_304 iX6_digest_96 (by omega) (by repeat (first | assumption | refine wset_ne (by decide) ?_ | exact wset_lt (by (try simp only [List.length_set]); exact wsome (by assumption)))) rfl ((s_mix hu _)) rfl (Nat.le_of_ble_eq_true rfl) (Nat.le_of_ble_eq_true rfl) ?_
      rintro v x ⟨rfl, hx, hxc⟩
      dsimp only [Option.toList, List.nil_append]
      refine j_iincN iX6_digest_99 rfl (by decide) rfl ?_
      dsimp only [List.set]
      refine j_goto (tgt := 83) iX6_digest_102 (by decide) ?_
      exact ih (y + 1) _ x (by omega) hx (hc.tr hxc) he
  have LC : ∀ (n c : Nat) (h : Int64) (u : mW), c + n = R * C → (MS u bd R C fr lp lps sn sz ik kb kf kl kn (h) ks sts sof rr cc cn pg ks2 sts2 sof2 rr2 cc2 cn2) → Fc w u → dg6 R C fr lp lps sn sz bd ks sts (dg5 pg sz (dg4 C (R * C) fr lp ks sts (dg3 C (R * C) fr lp (fold (dgC C (R * C) fr lp ks sts) n c h)))) = F → J 8 mX6_digest 73 [.ref 33, .int (nI c), .null] [] u (fun r u => r = some (.long F) ∧ (∃ hh', (MS u bd R C fr lp lps sn sz ik kb kf kl kn (hh') ks sts sof rr cc cn pg ks2 sts2 sof2 rr2 cc2 cn2)) ∧ Fc w u) := by
    intro n
    induction n with
    | zero =>
      intro c h u hcc hu hc he
      have hu2 := hu
      obtain ⟨wh, nc, nf, nl, tl, sd, a1, a2, a3, a4, a5, a6, hm, h34, h35, h36, h37, h38, h39, h40, h41, h42, h43, h44, h45, h46, h47, h48, h49, h50, h51, h52⟩ := hu2
      refine j_iload_n iX6_digest_73 rfl ?_
      refine j_aload_n iX6_digest_74 rfl ?_
      refine j_V0R okX6_cells lk_X6_131 iX6_digest_75 (by omega) (by repeat (first | assumption | refine wset_ne (by decide) ?_ | exact wset_lt (by (try simp only [List.length_set]); exact wsome (by assumption)))) rfl (m_cells hm) rfl (Nat.le_of_ble_eq_true rfl) (Nat.le_of_ble_eq_true rfl) ?_
      refine j_icmp_geN (tgt := 111) iX6_digest_78 (by decide) (by omega) (by omega) (fun _ => ?_) (fun hno => by exfalso; omega)
      exact J.fg (K111 h u hu hc he) (by first | (simp [LF]; done) | (simp [LF, bI]; done))
    | succ n ih =>
      intro c h u hcc hu hc he
      have hu2 := hu
      obtain ⟨wh, nc, nf, nl, tl, sd, a1, a2, a3, a4, a5, a6, hm, h34, h35, h36, h37, h38, h39, h40, h41, h42, h43, h44, h45, h46, h47, h48, h49, h50, h51, h52⟩ := hu2
      have K105 : ∀ u, (MS u bd R C fr lp lps sn sz ik kb kf kl kn (dgC C (R * C) fr lp ks sts c h) ks sts sof rr cc cn pg ks2 sts2 sof2 rr2 cc2 cn2) → Fc w u → J 8 mX6_digest 105 [.ref 33, .int (nI c), .null] [] u (fun r u => r = some (.long F) ∧ (∃ hh', (MS u bd R C fr lp lps sn sz ik kb kf kl kn (hh') ks sts sof rr cc cn pg ks2 sts2 sof2 rr2 cc2 cn2)) ∧ Fc w u) := by
        intro u hu hc
        refine j_iincN iX6_digest_105 rfl (by decide) rfl ?_
        dsimp only [List.set]
        refine j_goto (tgt := 73) iX6_digest_108 (by decide) ?_
        exact ih (c + 1) _ u (by omega) hu hc he
      have hq := LCI c _ (by omega) K105 3 0 h u rfl hu hc rfl
      refine j_iload_n iX6_digest_73 rfl ?_
      refine j_aload_n iX6_digest_74 rfl ?_
      refine j_V0R okX6_cells lk_X6_131 iX6_digest_75 (by omega) (by repeat (first | assumption | refine wset_ne (by decide) ?_ | exact wset_lt (by (try simp only [List.length_set]); exact wsome (by assumption)))) rfl (m_cells hm) rfl (Nat.le_of_ble_eq_true rfl) (Nat.le_of_ble_eq_true rfl) ?_
      refine j_icmp_geN (tgt := 111) iX6_digest_78 (by decide) (by omega) (by omega) (fun hno => by exfalso; omega) (fun _ => ?_)
      refine j_iconst (v := nI 0) iX6_digest_81 (by decide) ?_
      refine j_istore_n iX6_digest_82 (by decide) rfl ?_
      dsimp only [List.set]
      exact hq
  -- the leapers
  have LLI : ∀ (j : Nat) (G : Int64), j < lp → (∀ u, (MS u bd R C fr lp lps sn sz ik kb kf kl kn (G) ks sts sof rr cc cn pg ks2 sts2 sof2 rr2 cc2 cn2) → Fc w u → J 8 mX6_digest 42 [.ref 33, .int (nI j), .null] [] u (fun r u => r = some (.long F) ∧ (∃ hh', (MS u bd R C fr lp lps sn sz ik kb kf kl kn (hh') ks sts sof rr cc cn pg ks2 sts2 sof2 rr2 cc2 cn2)) ∧ Fc w u)) →
      ∀ (n y : Nat) (h : Int64) (u : mW), y + n = 8 → (MS u bd R C fr lp lps sn sz ik kb kf kl kn (h) ks sts sof rr cc cn pg ks2 sts2 sof2 rr2 cc2 cn2) → Fc w u → fold (fun y h => mxL h (leaperT C (R * C) fr lp sn ks sts sof sso j y)) n y h = G → J 8 mX6_digest 19 [.ref 33, .int (nI j), .int (nI y)] [] u (fun r u => r = some (.long F) ∧ (∃ hh', (MS u bd R C fr lp lps sn sz ik kb kf kl kn (hh') ks sts sof rr cc cn pg ks2 sts2 sof2 rr2 cc2 cn2)) ∧ Fc w u) := by
    intro j G hj kk n
    induction n with
    | zero =>
      intro y h u hy hu hc he
      have e : h = G := he
      subst e
      refine j_iload_n iX6_digest_19 rfl ?_
      refine j_bipush (v := nI 8) iX6_digest_20 (by decide) ?_
      refine j_icmp_geN (tgt := 42) iX6_digest_22 (by decide) (by omega) (by omega) (fun _ => ?_) (fun hno => by exfalso; omega)
      exact J.fg (kk u hu hc) (by first | (simp [LF]; done) | (simp [LF, bI]; done))
    | succ n ih =>
      intro y h u hy hu hc he
      obtain ⟨_, _, _, _, _, _, _, _, _, _, _, _, hm_hu, -⟩ := id hu
      refine j_iload_n iX6_digest_19 rfl ?_
      refine j_bipush (v := nI 8) iX6_digest_20 (by decide) ?_
      refine j_icmp_geN (tgt := 42) iX6_digest_22 (by decide) (by omega) (by omega) (fun hno => by exfalso; omega) (fun _ => ?_)
      refine j_aload_n iX6_digest_25 rfl ?_
      refine j_aload_n iX6_digest_26 rfl ?_
      refine j_iload_n iX6_digest_27 rfl ?_
      refine j_iload_n iX6_digest_28 rfl ?_
      refine j_V2X (r := .null) (w' := []) okX6_leaperNow lk_X6_170 iX6_digest_29 (by omega) (by repeat (first | assumption | refine wset_ne (by decide) ?_ | exact wset_lt (by (try simp only [List.length_set]); exact wsome (by assumption)))) rfl ((s_leaperNow hu hI j y hj (by omega))) rfl (Nat.le_of_ble_eq_true rfl) (Nat.le_of_ble_eq_true rfl) ?_
      rintro v x ⟨rfl, hx, hxc⟩
      obtain ⟨_, _, _, _, _, _, _, _, _, _, _, _, hm_hx, -⟩ := id hx
      refine j_i2l iX6_digest_32 ?_
      refine j_V1X (r := .null) (w' := []) okX6_mix lk_X6_304 iX6_digest_33 (by omega) (by repeat (first | assumption | refine wset_ne (by decide) ?_ | exact wset_lt (by (try simp only [List.length_set]); exact wsome (by assumption)))) rfl ((s_mix hx _)) rfl (Nat.le_of_ble_eq_true rfl) (Nat.le_of_ble_eq_true rfl) ?_
      rintro v x2 ⟨rfl, hx2, hxc2⟩
      dsimp only [Option.toList, List.nil_append]
      refine j_iincN iX6_digest_36 rfl (by decide) rfl ?_
      dsimp only [List.set]
      refine j_goto (tgt := 19) iX6_digest_39 (by decide) ?_
      exact ih (y + 1) _ x2 (by omega) hx2 ((hc.tr hxc).tr hxc2) he
  have LL : ∀ (n j : Nat) (h : Int64) (u : mW), j + n = lp → (MS u bd R C fr lp lps sn sz ik kb kf kl kn (h) ks sts sof rr cc cn pg ks2 sts2 sof2 rr2 cc2 cn2) → Fc w u → dg6 R C fr lp lps sn sz bd ks sts (dg5 pg sz (dg4 C (R * C) fr lp ks sts (dg3 C (R * C) fr lp (dg2 C (R * C) fr lp ks sts (fold (dgL C (R * C) fr lp sn ks sts sof sso) n j h))))) = F → J 8 mX6_digest 9 [.ref 33, .int (nI j), .null] [] u (fun r u => r = some (.long F) ∧ (∃ hh', (MS u bd R C fr lp lps sn sz ik kb kf kl kn (hh') ks sts sof rr cc cn pg ks2 sts2 sof2 rr2 cc2 cn2)) ∧ Fc w u) := by
    intro n
    induction n with
    | zero =>
      intro j h u hj hu hc he
      have hu2 := hu
      obtain ⟨wh, nc, nf, nl, tl, sd, a1, a2, a3, a4, a5, a6, hm, h34, h35, h36, h37, h38, h39, h40, h41, h42, h43, h44, h45, h46, h47, h48, h49, h50, h51, h52⟩ := hu2
      refine j_iload_n iX6_digest_9 rfl ?_
      refine j_aload_n iX6_digest_10 rfl ?_
      refine j_get fk_X6_119 iX6_digest_11 (by repeat (first | assumption | refine wset_ne (by decide) ?_ | exact wset_lt (by (try simp only [List.length_set]); exact wsome (by assumption)))) (by rfl) ?_
      refine j_icmp_geN (tgt := 71) iX6_digest_14 (by decide) (by omega) (by omega) (fun _ => ?_) (fun hno => by exfalso; omega)
      refine j_iconst (v := nI 0) iX6_digest_71 (by decide) ?_
      refine j_istore_n iX6_digest_72 (by decide) rfl ?_
      dsimp only [List.set]
      exact LC (R * C) 0 h u (by omega) hu hc he
    | succ n ih =>
      intro j h u hj hu hc he
      have hu2 := hu
      obtain ⟨wh, nc, nf, nl, tl, sd, a1, a2, a3, a4, a5, a6, hm, h34, h35, h36, h37, h38, h39, h40, h41, h42, h43, h44, h45, h46, h47, h48, h49, h50, h51, h52⟩ := hu2
      have K42 : ∀ u, (MS u bd R C fr lp lps sn sz ik kb kf kl kn (fold (fun y h => mxL h (leaperT C (R * C) fr lp sn ks sts sof sso j y)) 8 0 h) ks sts sof rr cc cn pg ks2 sts2 sof2 rr2 cc2 cn2) → Fc w u → J 8 mX6_digest 42 [.ref 33, .int (nI j), .null] [] u (fun r u => r = some (.long F) ∧ (∃ hh', (MS u bd R C fr lp lps sn sz ik kb kf kl kn (hh') ks sts sof rr cc cn pg ks2 sts2 sof2 rr2 cc2 cn2)) ∧ Fc w u) := by
        intro u hu hc
        obtain ⟨_, _, _, _, _, _, _, _, _, _, _, _, hm_hu, -⟩ := id hu
        refine j_aload_n iX6_digest_42 rfl ?_
        refine j_aload_n iX6_digest_43 rfl ?_
        refine j_iload_n iX6_digest_44 rfl ?_
        refine j_iconst (v := nI 0) iX6_digest_45 (by decide) ?_
        refine j_V2R okX6_hops lk_X6_310 iX6_digest_46 (by omega) (by repeat (first | assumption | refine wset_ne (by decide) ?_ | exact wset_lt (by (try simp only [List.length_set]); exact wsome (by assumption)))) rfl (s_hops hu hI j 0 (by omega) (by omega)) rfl (Nat.le_of_ble_eq_true rfl) (Nat.le_of_ble_eq_true rfl) ?_
        refine j_i2l iX6_digest_49 ?_
        refine j_V1X (r := .null) (w' := []) okX6_mix lk_X6_304 iX6_digest_50 (by omega) (by repeat (first | assumption | refine wset_ne (by decide) ?_ | exact wset_lt (by (try simp only [List.length_set]); exact wsome (by assumption)))) rfl ((s_mix hu _)) rfl (Nat.le_of_ble_eq_true rfl) (Nat.le_of_ble_eq_true rfl) ?_
        rintro v x1 ⟨rfl, hx1, hxc1⟩
        obtain ⟨_, _, _, _, _, _, _, _, _, _, _, _, hm_hx1, -⟩ := id hx1
        dsimp only [Option.toList, List.nil_append]
        refine j_aload_n iX6_digest_53 rfl ?_
        refine j_aload_n iX6_digest_54 rfl ?_
        refine j_iload_n iX6_digest_55 rfl ?_
        refine j_iconst (v := nI 3) iX6_digest_56 (by decide) ?_
        refine j_iconst (v := nI 3) iX6_digest_57 (by decide) ?_
        refine j_V3X (r := .null) (w' := []) okX6_chance lk_X6_313 iX6_digest_58 (by omega) (by repeat (first | assumption | refine wset_ne (by decide) ?_ | exact wset_lt (by (try simp only [List.length_set]); exact wsome (by assumption)))) rfl ((s_chance hx1 hI j 3 3 (by omega) (by omega) (by decide))) rfl (Nat.le_of_ble_eq_true rfl) (Nat.le_of_ble_eq_true rfl) ?_
        rintro v x2 ⟨rfl, hx2, hxc2⟩
        obtain ⟨_, _, _, _, _, _, _, _, _, _, _, _, hm_hx2, -⟩ := id hx2
        refine j_i2l iX6_digest_61 ?_
        refine j_V1X (r := .null) (w' := []) okX6_mix lk_X6_304 iX6_digest_62 (by omega) (by repeat (first | assumption | refine wset_ne (by decide) ?_ | exact wset_lt (by (try simp only [List.length_set]); exact wsome (by assumption)))) rfl ((s_mix hx2 _)) rfl (Nat.le_of_ble_eq_true rfl) (Nat.le_of_ble_eq_true rfl) ?_
        rintro v x3 ⟨rfl, hx3, hxc3⟩
        dsimp only [Option.toList, List.nil_append]
        refine j_iincN iX6_digest_65 rfl (by decide) rfl ?_
        dsimp only [List.set]
        refine j_goto (tgt := 9) iX6_digest_68 (by decide) ?_
        exact ih (j + 1) _ x3 (by omega) hx3 (((hc.tr hxc1).tr hxc2).tr hxc3) he
      have hq := LLI j _ (by omega) K42 8 0 h u rfl hu hc rfl
      refine j_iload_n iX6_digest_9 rfl ?_
      refine j_aload_n iX6_digest_10 rfl ?_
      refine j_get fk_X6_119 iX6_digest_11 (by repeat (first | assumption | refine wset_ne (by decide) ?_ | exact wset_lt (by (try simp only [List.length_set]); exact wsome (by assumption)))) (by rfl) ?_
      refine j_icmp_geN (tgt := 71) iX6_digest_14 (by decide) (by omega) (by omega) (fun hno => by exfalso; omega) (fun _ => ?_)
      refine j_iconst (v := nI 0) iX6_digest_17 (by decide) ?_
      refine j_istore_n iX6_digest_18 (by decide) rfl ?_
      dsimp only [List.set]
      exact hq
  have hS1 := hS0
  obtain ⟨wh, nc, nf, nl, tl, sd, a1, a2, a3, a4, a5, a6, hm, h34, h35, h36, h37, h38, h39, h40, h41, h42, h43, h44, h45, h46, h47, h48, h49, h50, h51, h52⟩ := hS1
  refine j_start (ls := [.ref 33, .null, .null]) rfl ?_
  refine j_aload_n iX6_digest_0 rfl ?_
  refine j_ldc2 iX6_digest_1 kc_X6_308 ?_
  refine j_put fk_X6_301 iX6_digest_4 (by repeat (first | assumption | refine wset_ne (by decide) ?_ | exact wset_lt (by (try simp only [List.length_set]); exact wsome (by assumption)))) (by intro; rfl) (by intro; rfl) (Nat.le_of_ble_eq_true rfl) ?_
  dsimp only [List.set]
  refine j_iconst (v := nI 0) iX6_digest_7 (by decide) ?_
  refine j_istore_n iX6_digest_8 (by decide) rfl ?_
  dsimp only [List.set]
  exact LL lp 0 1301 _ (by omega) ⟨_, _, _, _, _, _, _, _, _, _, _, _, (by repeat (first | assumption | refine wset_ne (by decide) ?_ | exact wset_lt (by (try simp only [List.length_set]); exact wsome (by assumption)))), (by repeat (first | assumption | refine wset_ne (by decide) ?_ | exact wset_lt (by (try simp only [List.length_set]); exact wsome (by assumption)))), (by repeat (first | assumption | refine wset_ne (by decide) ?_ | exact wset_lt (by (try simp only [List.length_set]); exact wsome (by assumption)))), (by repeat (first | assumption | refine wset_ne (by decide) ?_ | exact wset_lt (by (try simp only [List.length_set]); exact wsome (by assumption)))), (by repeat (first | assumption | refine wset_ne (by decide) ?_ | exact wset_lt (by (try simp only [List.length_set]); exact wsome (by assumption)))), (by repeat (first | assumption | refine wset_ne (by decide) ?_ | exact wset_lt (by (try simp only [List.length_set]); exact wsome (by assumption)))), (by repeat (first | assumption | refine wset_ne (by decide) ?_ | exact wset_lt (by (try simp only [List.length_set]); exact wsome (by assumption)))), (by repeat (first | assumption | refine wset_ne (by decide) ?_ | exact wset_lt (by (try simp only [List.length_set]); exact wsome (by assumption)))), (by repeat (first | assumption | refine wset_ne (by decide) ?_ | exact wset_lt (by (try simp only [List.length_set]); exact wsome (by assumption)))), (by repeat (first | assumption | refine wset_ne (by decide) ?_ | exact wset_lt (by (try simp only [List.length_set]); exact wsome (by assumption)))), (by repeat (first | assumption | refine wset_ne (by decide) ?_ | exact wset_lt (by (try simp only [List.length_set]); exact wsome (by assumption)))), (by repeat (first | assumption | refine wset_ne (by decide) ?_ | exact wset_lt (by (try simp only [List.length_set]); exact wsome (by assumption)))), (by repeat (first | assumption | refine wset_ne (by decide) ?_ | exact wset_lt (by (try simp only [List.length_set]); exact wsome (by assumption)))), (by repeat (first | assumption | refine wset_ne (by decide) ?_ | exact wset_lt (by (try simp only [List.length_set]); exact wsome (by assumption)))), (by repeat (first | assumption | refine wset_ne (by decide) ?_ | exact wset_lt (by (try simp only [List.length_set]); exact wsome (by assumption)))), (by repeat (first | assumption | refine wset_ne (by decide) ?_ | exact wset_lt (by (try simp only [List.length_set]); exact wsome (by assumption)))), (by repeat (first | assumption | refine wset_ne (by decide) ?_ | exact wset_lt (by (try simp only [List.length_set]); exact wsome (by assumption)))), (by repeat (first | assumption | refine wset_ne (by decide) ?_ | exact wset_lt (by (try simp only [List.length_set]); exact wsome (by assumption)))), (by repeat (first | assumption | refine wset_ne (by decide) ?_ | exact wset_lt (by (try simp only [List.length_set]); exact wsome (by assumption)))), (by repeat (first | assumption | refine wset_ne (by decide) ?_ | exact wset_lt (by (try simp only [List.length_set]); exact wsome (by assumption))))⟩ (Fc.rf.set (by decide)) hF
end
