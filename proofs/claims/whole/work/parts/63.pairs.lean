/-! ===== both sides, call by call ===== -/
def REL (b : Nat) (w : mW) : Prop := ∃ (R C sz rd fr lp lps sn : Nat) (ik ik' : Bool) (kb kf kl kn : Nat) (hh : Int64) (ks sts sof sso rr cc cn pg ks2 sts2 sof2 rr2 cc2 cn2 : Nat → Nat) (K : Sc),
  CW w R C sz pg ik rd ((fr, lp, lps, sn), (ks, sts, sof, sso)) K ∧ (MS w (rd) R C fr lp lps sn sz (ik') kb kf kl kn hh ks sts sof rr cc cn pg ks2 sts2 sof2 rr2 cc2 cn2) ∧ INV R C fr lp sn ks sts sof sso rr cc cn ∧ (lp = 0 ∨ 4 ≤ R * C) ∧ sz ≤ 30 ∧ (∀ i, pg i < 127) ∧ rd ≤ b ∧ kb ≤ rd ∧ lps ≤ 999 ∧
  (ik = true → ik' = true ∧ kb = rd ∧ kl ≤ 999 ∧ ∃ sso2, K = ((kf, lp, kl, kn), (ks2, sts2, sof2, sso2)) ∧ INV R C kf lp kn ks2 sts2 sof2 sso2 rr2 cc2 cn2) ∧ (ik = false → ik' = false ∨ kb ≠ rd)
theorem REL.up {b : Nat} {w : mW} (h : REL b w) : REL (b + 1) w := by
  obtain ⟨R, C, sz, rd, fr, lp, lps, sn, ik, ik', kb, kf, kl, kn, hh, ks, sts, sof, sso, rr, cc, cn, pg, ks2, sts2, sof2, rr2, cc2, cn2, K, hC, hS, hI, h4, hsz, hpg, hrd, hkb, hlps, hKI⟩ := h
  exact ⟨R, C, sz, rd, fr, lp, lps, sn, ik, ik', kb, kf, kl, kn, hh, ks, sts, sof, sso, rr, cc, cn, pg, ks2, sts2, sof2, rr2, cc2, cn2, K, hC, hS, hI, h4, hsz, hpg, (Nat.le_succ_of_le hrd), hkb, hlps, hKI⟩
def PAIRV {α : Type} (k : α → Value) (mi mi' : MI) (as : List Value) (b : Nat) (w : mW) : Prop := ∃ (r : α) (P : mW → Prop), JX 40 mi (.ref 0 :: as) w (fun v u => v = some (k r) ∧ P u) ∧ ∀ u, P u → (∃ fs, u[33]? = some (.inr (6, fs))) ∧ JX 40 mi' (.ref 33 :: as) u (fun v x => v = some (k r) ∧ REL (b + 1) x)
abbrev PAIR (mi mi' : MI) (as : List Value) (b : Nat) (w : mW) : Prop := PAIRV Value.int mi mi' as b w
theorem REL.own {b : Nat} {w : mW} (h : REL b w) : (∃ fs, w[0]? = some (.inr (5, fs))) ∧ ∃ fs, w[33]? = some (.inr (6, fs)) := by
  obtain ⟨R, C, sz, rd, fr, lp, lps, sn, ik, ik', kb, kf, kl, kn, hh, ks, sts, sof, sso, rr, cc, cn, pg, ks2, sts2, sof2, rr2, cc2, cn2, K, hC, hS, hI, h4, hsz, hpg, hrd, hkb, hlps, hKI⟩ := h
  obtain ⟨wh, nc, nf, nl, tl, sd, a1, a2, a3, a4, a5, a6, hm, h34, h35, h36, h37, h38, h39, h40, h41, h42, h43, h44, h45, h46, h47, h48, h49, h50, h51, h52⟩ := hS
  exact ⟨⟨_, hC.1⟩, ⟨_, hm⟩⟩
theorem pair_same {mi mi' : MI} {as : List Value} {b d d' : Nat} {w : mW} {r : Int32} (hR : REL b w) (h1 : JR d mi (.ref 0 :: as) w (.int r) w) (h2 : JR d' mi' (.ref 33 :: as) w (.int r) w) (hd : d ≤ 40) (hd' : d' ≤ 40) : PAIR mi mi' as b w :=
  ⟨r, fun u => u = w, h1.mono hd, fun u hu => by subst hu; refine ⟨hR.own.2, ?_⟩; exact J.conseq (JX.mono h2 hd') (by rintro v u ⟨rfl, rfl⟩; exact ⟨rfl, hR.up⟩)⟩
/-- the class's cells alone have changed in its rows; the reference's in its own -/
theorem pair_read {α : Type} {kk : α → Value} {mi mi' : MI} {as : List Value} {b d d' : Nat} {w : mW} {r : α} (hR : REL b w) (h1 : JX d mi (.ref 0 :: as) w (fun v u => v = some (kk r) ∧ Keep w u)) (h2 : ∀ u, Keep w u → REL b u → JX d' mi' (.ref 33 :: as) u (fun v x => v = some (kk r) ∧ REL (b + 1) x)) (hd : d ≤ 40) (hd' : d' ≤ 40) : PAIRV kk mi mi' as b w := by
  refine ⟨r, fun u => Keep w u, h1.mono hd, fun u hu => ?_⟩
  have hRu : REL b u := by
    obtain ⟨R, C, sz, rd, fr, lp, lps, sn, ik, ik', kb, kf, kl, kn, hh, ks, sts, sof, sso, rr, cc, cn, pg, ks2, sts2, sof2, rr2, cc2, cn2, K, hC, hS, hI, h4, hsz, hpg, hrd, hkb, hlps, hKI⟩ := hR
    exact ⟨R, C, sz, rd, fr, lp, lps, sn, ik, ik', kb, kf, kl, kn, hh, ks, sts, sof, sso, rr, cc, cn, pg, ks2, sts2, sof2, rr2, cc2, cn2, K, (hu.CW hC), (hu.F33.MS hS), hI, h4, hsz, hpg, hrd, hkb, hlps, hKI⟩
  exact ⟨hRu.own.2, JX.mono (h2 u hu hRu) hd'⟩
theorem lt32 {x : Int32} (h1 : ¬ x < 32) (h2 : ¬ 126 < x) : ∃ c : Nat, 32 ≤ c ∧ c ≤ 126 ∧ x = nI c := by
  have h0 : ¬ x < 0 := fun z => h1 (Int32.lt_trans z (by decide))
  obtain ⟨j, hj, rfl⟩ := nI_of h0
  rw [show (32 : Int32) = nI 32 by decide, nI_ltI hj (by decide)] at h1
  rw [show (126 : Int32) = nI 126 by decide, nI_ltI (by decide) hj] at h2
  exact ⟨j, by omega, by omega, rfl⟩
section
variable {w : mW} {b : Nat}
theorem p_letter (hR : REL b w) (x : Int32) : PAIR mX5_letter mX6_letter [.int x] b w := by
  by_cases hx : x < 32 ∨ 126 < x
  · exact pair_same hR (c_letter_o x hx) (m_letter_o x hx) (by decide) (by decide)
  · obtain ⟨c, h1, h2, rfl⟩ := lt32 (fun z => hx (Or.inl z)) (fun z => hx (Or.inr z))
    have hR0 := hR
    obtain ⟨R, C, sz, rd, fr, lp, lps, sn, ik, ik', kb, kf, kl, kn, hh, ks, sts, sof, sso, rr, cc, cn, pg, ks2, sts2, sof2, rr2, cc2, cn2, K, hC, hS, hI, h4, hsz, hpg, hrd, hkb, hlps, hKI⟩ := hR
    have hS2 := hS
    obtain ⟨wh, nc, nf, nl, tl, sd, a1, a2, a3, a4, a5, a6, hm, h34, h35, h36, h37, h38, h39, h40, h41, h42, h43, h44, h45, h46, h47, h48, h49, h50, h51, h52⟩ := hS2
    by_cases h30 : sz = 30
    · subst h30
      exact pair_same hR0 (c_letter_f hC c h1 h2) (m_letter_f hm c h1 h2) (by decide) (by decide)
    · refine ⟨_, fun u => CW u R C (sz + 1) (un pg sz c) ik rd ((fr, lp, lps, sn), (ks, sts, sof, sso)) K ∧ F33 w u, (c_letter hC (by omega) c h1 h2).mono (by decide), fun u hu => ?_⟩
      have hSu := hu.2.MS hS
      obtain ⟨wh, nc, nf, nl, tl, sd, a1, a2, a3, a4, a5, a6, hm, h34, h35, h36, h37, h38, h39, h40, h41, h42, h43, h44, h45, h46, h47, h48, h49, h50, h51, h52⟩ := hSu
      refine ⟨⟨_, hm⟩, ?_⟩
      refine J.conseq (JX.mono (m_letter hm h40 (by omega) c h1 h2) (by decide)) ?_
      rintro v x ⟨rfl, rfl⟩
      refine ⟨rfl, ⟨R, C, (sz + 1), rd, fr, lp, lps, sn, ik, ik', kb, kf, kl, kn, hh, ks, sts, sof, sso, rr, cc, cn, (un pg sz c), ks2, sts2, sof2, rr2, cc2, cn2, K, (Fc.CW ((Fc.rf.set (by decide)).set (by decide)) hu.1), (⟨_, _, _, _, _, _, _, _, _, _, _, _, (by repeat (first | assumption | refine wset_ne (by decide) ?_ | exact wset_lt (by (try simp only [List.length_set]); exact wsome (by assumption)))), (by repeat (first | assumption | refine wset_ne (by decide) ?_ | exact wset_lt (by (try simp only [List.length_set]); exact wsome (by assumption)))), (by repeat (first | assumption | refine wset_ne (by decide) ?_ | exact wset_lt (by (try simp only [List.length_set]); exact wsome (by assumption)))), (by repeat (first | assumption | refine wset_ne (by decide) ?_ | exact wset_lt (by (try simp only [List.length_set]); exact wsome (by assumption)))), (by repeat (first | assumption | refine wset_ne (by decide) ?_ | exact wset_lt (by (try simp only [List.length_set]); exact wsome (by assumption)))), (by repeat (first | assumption | refine wset_ne (by decide) ?_ | exact wset_lt (by (try simp only [List.length_set]); exact wsome (by assumption)))), (by repeat (first | assumption | refine wset_ne (by decide) ?_ | exact wset_lt (by (try simp only [List.length_set]); exact wsome (by assumption)))), (by repeat (first | assumption | refine wset_ne (by decide) ?_ | exact wset_lt (by (try simp only [List.length_set]); exact wsome (by assumption)))), (by repeat (first | assumption | refine wset_ne (by decide) ?_ | exact wset_lt (by (try simp only [List.length_set]); exact wsome (by assumption)))), (by repeat (first | assumption | refine wset_ne (by decide) ?_ | exact wset_lt (by (try simp only [List.length_set]); exact wsome (by assumption)))), (by repeat (first | assumption | refine wset_ne (by decide) ?_ | exact wset_lt (by (try simp only [List.length_set]); exact wsome (by assumption)))), (by repeat (first | assumption | refine wset_ne (by decide) ?_ | exact wset_lt (by (try simp only [List.length_set]); exact wsome (by assumption)))), (by repeat (first | assumption | refine wset_ne (by decide) ?_ | exact wset_lt (by (try simp only [List.length_set]); exact wsome (by assumption)))), (by repeat (first | assumption | refine wset_ne (by decide) ?_ | exact wset_lt (by (try simp only [List.length_set]); exact wsome (by assumption)))), (by repeat (first | assumption | refine wset_ne (by decide) ?_ | exact wset_lt (by (try simp only [List.length_set]); exact wsome (by assumption)))), (by repeat (first | assumption | refine wset_ne (by decide) ?_ | exact wset_lt (by (try simp only [List.length_set]); exact wsome (by assumption)))), (by repeat (first | assumption | refine wset_ne (by decide) ?_ | exact wset_lt (by (try simp only [List.length_set]); exact wsome (by assumption)))), (by repeat (first | assumption | refine wset_ne (by decide) ?_ | exact wset_lt (by (try simp only [List.length_set]); exact wsome (by assumption)))), (by repeat (first | assumption | refine wset_ne (by decide) ?_ | exact wset_lt (by (try simp only [List.length_set]); exact wsome (by assumption)))), (by repeat (first | assumption | refine wset_ne (by decide) ?_ | exact wset_lt (by (try simp only [List.length_set]); exact wsome (by assumption))))⟩), hI, h4, (by omega), (fun i => ?_), (Nat.le_succ_of_le hrd), hkb, hlps, hKI⟩⟩
      unfold un
      split
      · omega
      · exact hpg i
theorem p_blank (hR : REL b w) : PAIR mX5_blank mX6_blank [] b w := by
  obtain ⟨R, C, sz, rd, fr, lp, lps, sn, ik, ik', kb, kf, kl, kn, hh, ks, sts, sof, sso, rr, cc, cn, pg, ks2, sts2, sof2, rr2, cc2, cn2, K, hC, hS, hI, h4, hsz, hpg, hrd, hkb, hlps, hKI⟩ := hR
  refine ⟨_, fun u => CW u R C 0 pg ik rd ((fr, lp, lps, sn), (ks, sts, sof, sso)) K ∧ F33 w u, (c_blank hC).mono (by decide), fun u hu => ?_⟩
  have hSu := hu.2.MS hS
  obtain ⟨wh, nc, nf, nl, tl, sd, a1, a2, a3, a4, a5, a6, hm, h34, h35, h36, h37, h38, h39, h40, h41, h42, h43, h44, h45, h46, h47, h48, h49, h50, h51, h52⟩ := hSu
  refine ⟨⟨_, hm⟩, ?_⟩
  refine J.conseq (JX.mono (m_blank hm) (by decide)) ?_
  rintro v x ⟨rfl, rfl⟩
  exact ⟨rfl, ⟨R, C, (0), rd, fr, lp, lps, sn, ik, ik', kb, kf, kl, kn, hh, ks, sts, sof, sso, rr, cc, cn, pg, ks2, sts2, sof2, rr2, cc2, cn2, K, (Fc.CW (Fc.rf.set (by decide)) hu.1), (⟨_, _, _, _, _, _, _, _, _, _, _, _, (by repeat (first | assumption | refine wset_ne (by decide) ?_ | exact wset_lt (by (try simp only [List.length_set]); exact wsome (by assumption)))), (by repeat (first | assumption | refine wset_ne (by decide) ?_ | exact wset_lt (by (try simp only [List.length_set]); exact wsome (by assumption)))), (by repeat (first | assumption | refine wset_ne (by decide) ?_ | exact wset_lt (by (try simp only [List.length_set]); exact wsome (by assumption)))), (by repeat (first | assumption | refine wset_ne (by decide) ?_ | exact wset_lt (by (try simp only [List.length_set]); exact wsome (by assumption)))), (by repeat (first | assumption | refine wset_ne (by decide) ?_ | exact wset_lt (by (try simp only [List.length_set]); exact wsome (by assumption)))), (by repeat (first | assumption | refine wset_ne (by decide) ?_ | exact wset_lt (by (try simp only [List.length_set]); exact wsome (by assumption)))), (by repeat (first | assumption | refine wset_ne (by decide) ?_ | exact wset_lt (by (try simp only [List.length_set]); exact wsome (by assumption)))), (by repeat (first | assumption | refine wset_ne (by decide) ?_ | exact wset_lt (by (try simp only [List.length_set]); exact wsome (by assumption)))), (by repeat (first | assumption | refine wset_ne (by decide) ?_ | exact wset_lt (by (try simp only [List.length_set]); exact wsome (by assumption)))), (by repeat (first | assumption | refine wset_ne (by decide) ?_ | exact wset_lt (by (try simp only [List.length_set]); exact wsome (by assumption)))), (by repeat (first | assumption | refine wset_ne (by decide) ?_ | exact wset_lt (by (try simp only [List.length_set]); exact wsome (by assumption)))), (by repeat (first | assumption | refine wset_ne (by decide) ?_ | exact wset_lt (by (try simp only [List.length_set]); exact wsome (by assumption)))), (by repeat (first | assumption | refine wset_ne (by decide) ?_ | exact wset_lt (by (try simp only [List.length_set]); exact wsome (by assumption)))), (by repeat (first | assumption | refine wset_ne (by decide) ?_ | exact wset_lt (by (try simp only [List.length_set]); exact wsome (by assumption)))), (by repeat (first | assumption | refine wset_ne (by decide) ?_ | exact wset_lt (by (try simp only [List.length_set]); exact wsome (by assumption)))), (by repeat (first | assumption | refine wset_ne (by decide) ?_ | exact wset_lt (by (try simp only [List.length_set]); exact wsome (by assumption)))), (by repeat (first | assumption | refine wset_ne (by decide) ?_ | exact wset_lt (by (try simp only [List.length_set]); exact wsome (by assumption)))), (by repeat (first | assumption | refine wset_ne (by decide) ?_ | exact wset_lt (by (try simp only [List.length_set]); exact wsome (by assumption)))), (by repeat (first | assumption | refine wset_ne (by decide) ?_ | exact wset_lt (by (try simp only [List.length_set]); exact wsome (by assumption)))), (by repeat (first | assumption | refine wset_ne (by decide) ?_ | exact wset_lt (by (try simp only [List.length_set]); exact wsome (by assumption))))⟩), hI, h4, (by decide), hpg, (Nat.le_succ_of_le hrd), hkb, hlps, hKI⟩⟩
theorem p_fault (hR : REL b w) : PAIR mX5_fault mX6_fault [] b w := by
  obtain ⟨R, C, sz, rd, fr, lp, lps, sn, ik, ik', kb, kf, kl, kn, hh, ks, sts, sof, sso, rr, cc, cn, pg, ks2, sts2, sof2, rr2, cc2, cn2, K, hC, hS, hI, h4, hsz, hpg, hrd, hkb, hlps, hKI⟩ := hR
  refine ⟨_, fun u => u = w, (c_fault hC hsz hpg).mono (by decide), fun u hu => ?_⟩
  subst hu
  have hSu := hS
  obtain ⟨wh, nc, nf, nl, tl, sd, a1, a2, a3, a4, a5, a6, hm, h34, h35, h36, h37, h38, h39, h40, h41, h42, h43, h44, h45, h46, h47, h48, h49, h50, h51, h52⟩ := hSu
  refine ⟨⟨_, hm⟩, ?_⟩
  refine J.conseq (JX.mono (m_fault hm h40 hsz hpg) (by decide)) ?_
  rintro v x ⟨rfl, wh', nc', nf', nl', rfl, -, -⟩
  exact ⟨rfl, ⟨R, C, sz, rd, fr, lp, lps, sn, ik, ik', kb, kf, kl, kn, hh, ks, sts, sof, sso, rr, cc, cn, pg, ks2, sts2, sof2, rr2, cc2, cn2, K, (Fc.CW (Fc.rf.set (by decide)) hC), (⟨_, _, _, _, _, _, _, _, _, _, _, _, (by repeat (first | assumption | refine wset_ne (by decide) ?_ | exact wset_lt (by (try simp only [List.length_set]); exact wsome (by assumption)))), (by repeat (first | assumption | refine wset_ne (by decide) ?_ | exact wset_lt (by (try simp only [List.length_set]); exact wsome (by assumption)))), (by repeat (first | assumption | refine wset_ne (by decide) ?_ | exact wset_lt (by (try simp only [List.length_set]); exact wsome (by assumption)))), (by repeat (first | assumption | refine wset_ne (by decide) ?_ | exact wset_lt (by (try simp only [List.length_set]); exact wsome (by assumption)))), (by repeat (first | assumption | refine wset_ne (by decide) ?_ | exact wset_lt (by (try simp only [List.length_set]); exact wsome (by assumption)))), (by repeat (first | assumption | refine wset_ne (by decide) ?_ | exact wset_lt (by (try simp only [List.length_set]); exact wsome (by assumption)))), (by repeat (first | assumption | refine wset_ne (by decide) ?_ | exact wset_lt (by (try simp only [List.length_set]); exact wsome (by assumption)))), (by repeat (first | assumption | refine wset_ne (by decide) ?_ | exact wset_lt (by (try simp only [List.length_set]); exact wsome (by assumption)))), (by repeat (first | assumption | refine wset_ne (by decide) ?_ | exact wset_lt (by (try simp only [List.length_set]); exact wsome (by assumption)))), (by repeat (first | assumption | refine wset_ne (by decide) ?_ | exact wset_lt (by (try simp only [List.length_set]); exact wsome (by assumption)))), (by repeat (first | assumption | refine wset_ne (by decide) ?_ | exact wset_lt (by (try simp only [List.length_set]); exact wsome (by assumption)))), (by repeat (first | assumption | refine wset_ne (by decide) ?_ | exact wset_lt (by (try simp only [List.length_set]); exact wsome (by assumption)))), (by repeat (first | assumption | refine wset_ne (by decide) ?_ | exact wset_lt (by (try simp only [List.length_set]); exact wsome (by assumption)))), (by repeat (first | assumption | refine wset_ne (by decide) ?_ | exact wset_lt (by (try simp only [List.length_set]); exact wsome (by assumption)))), (by repeat (first | assumption | refine wset_ne (by decide) ?_ | exact wset_lt (by (try simp only [List.length_set]); exact wsome (by assumption)))), (by repeat (first | assumption | refine wset_ne (by decide) ?_ | exact wset_lt (by (try simp only [List.length_set]); exact wsome (by assumption)))), (by repeat (first | assumption | refine wset_ne (by decide) ?_ | exact wset_lt (by (try simp only [List.length_set]); exact wsome (by assumption)))), (by repeat (first | assumption | refine wset_ne (by decide) ?_ | exact wset_lt (by (try simp only [List.length_set]); exact wsome (by assumption)))), (by repeat (first | assumption | refine wset_ne (by decide) ?_ | exact wset_lt (by (try simp only [List.length_set]); exact wsome (by assumption)))), (by repeat (first | assumption | refine wset_ne (by decide) ?_ | exact wset_lt (by (try simp only [List.length_set]); exact wsome (by assumption))))⟩), hI, h4, hsz, hpg, (Nat.le_succ_of_le hrd), hkb, hlps, hKI⟩⟩
theorem board_inv {R C fr lp sn sz : Nat} {ks sts sof sso rr cc cn pg : Nat → Nat} (hI : INV R C fr lp sn ks sts sof sso rr cc cn) (hpg : ∀ i, pg i < 127) (hw : wholeF pg sz = true) : INV (pg 0 - 48) (pg 1 - 48) (freeF pg (nF pg)) (lpF pg sz) 0 (upto (lpF pg sz) (kdF pg) ks) (upto (lpF pg sz) (stF pg) sts) sof sso rr cc cn := by
  obtain ⟨i1, i2, ⟨v1, v2, v3, v4, v5, v6, v7⟩, i4, i5, i6, i7, i8, i9⟩ := hI
  obtain ⟨q1, q2, q3, q4, q5, q6, q7, q8, q9, q10, q11, q12, q13⟩ := whole_spec hw
  have hop : ∀ l, l < lpF pg sz → 97 ≤ pg (4 + nF pg + 3 * l + 1) ∧ pg (3 + stF pg l) = 46 ∧ ∀ j, j < l → pg (4 + nF pg + 3 * j + 1) ≠ pg (4 + nF pg + 3 * l + 1) := fun l hl => by
    have h := (q13 l hl).2.2.2.2
    unfold openF at h
    split at h
    · rename_i hc
      rw [openFrom_iff] at h
      exact ⟨hc.1, hc.2.2, fun j hj => h j (Nat.zero_le _) (by omega)⟩
    · cases h
  have e1 : ∀ l, l < lpF pg sz → upto (lpF pg sz) (stF pg) sts l = stF pg l := fun l hl => if_pos hl
  refine ⟨q8, ?_, ⟨free_b q8, q11, Nat.zero_le _, fun i => ?_, fun i => ?_, v6, v7⟩, i4, i5, i6, fun i hi => absurd hi (Nat.not_lt_zero _), fun l hl => ?_, fun i j hi hj he => ?_⟩
  · refine Nat.lt_pow_two_of_testBit _ fun i hi => ?_
    cases e : (freeF pg (nF pg)).testBit i with
    | false => rfl
    | true => have := (free_tb.mp e).1; exact absurd this (Nat.not_lt.mpr hi)
  · unfold upto
    split
    · rename_i h; exact (q13 i h).2.1
    · exact v4 i
  · unfold upto
    split
    · rename_i h; have := (q13 i h).2.2.2.1; omega
    · exact v5 i
  · rw [e1 l hl, free_tb]
    exact ⟨(q13 l hl).2.2.2.1, (hop l hl).2.1⟩
  · rw [e1 i hi, e1 j hj] at he
    have hi2 := hop i hi
    have hj2 := hop j hj
    unfold stF at he
    rcases Nat.lt_trichotomy i j with z | z | z
    · exact absurd (show pg (4 + nF pg + 3 * i + 1) = pg (4 + nF pg + 3 * j + 1) by omega) (hj2.2.2 i z)
    · exact z
    · exact absurd (show pg (4 + nF pg + 3 * j + 1) = pg (4 + nF pg + 3 * i + 1) by omega) (hi2.2.2 j z)
theorem p_board (hR : REL b w) : PAIR mX5_board mX6_board [] b w := by
  obtain ⟨R, C, sz, rd, fr, lp, lps, sn, ik, ik', kb, kf, kl, kn, hh, ks, sts, sof, sso, rr, cc, cn, pg, ks2, sts2, sof2, rr2, cc2, cn2, K, hC, hS, hI, h4, hsz, hpg, hrd, hkb, hlps, hKI⟩ := hR
  by_cases hw : wholeF pg sz = true
  · refine ⟨_, fun u => CW u (pg 0 - 48) (pg 1 - 48) 0 pg false (rd + 1) ((freeF pg (nF pg), lpF pg sz, 0, 0), (upto (lpF pg sz) (kdF pg) ks, upto (lpF pg sz) (stF pg) sts, sof, sso)) K ∧ F33 w u, (c_board hC hsz hpg hw).mono (by decide), fun u hu => ?_⟩
    have hSu := hu.2.MS hS
    obtain ⟨wh, nc, nf, nl, tl, sd, a1, a2, a3, a4, a5, a6, hm, h34, h35, h36, h37, h38, h39, h40, h41, h42, h43, h44, h45, h46, h47, h48, h49, h50, h51, h52⟩ := hSu
    have hsp := whole_spec hw
    refine ⟨⟨_, hm⟩, ?_⟩
    refine J.conseq (JX.mono (m_board hm h34 h35 h40 hsz hpg hw) (by decide)) ?_
    rintro v x ⟨rfl, rfl⟩
    exact ⟨rfl, ⟨(pg 0 - 48), (pg 1 - 48), (0), (rd + 1), (freeF pg (nF pg)), (lpF pg sz), (0), (0), (false), ik', kb, kf, kl, kn, hh, (upto (lpF pg sz) (kdF pg) ks), (upto (lpF pg sz) (stF pg) sts), sof, sso, rr, cc, cn, pg, ks2, sts2, sof2, rr2, cc2, cn2, K, (Fc.CW (((Fc.rf.set (by decide)).set (by decide)).set (by decide)) hu.1), (⟨_, _, _, _, _, _, _, _, _, _, _, _, (by repeat (first | assumption | refine wset_ne (by decide) ?_ | exact wset_lt (by (try simp only [List.length_set]); exact wsome (by assumption)))), (by repeat (first | assumption | refine wset_ne (by decide) ?_ | exact wset_lt (by (try simp only [List.length_set]); exact wsome (by assumption)))), (by repeat (first | assumption | refine wset_ne (by decide) ?_ | exact wset_lt (by (try simp only [List.length_set]); exact wsome (by assumption)))), (by repeat (first | assumption | refine wset_ne (by decide) ?_ | exact wset_lt (by (try simp only [List.length_set]); exact wsome (by assumption)))), (by repeat (first | assumption | refine wset_ne (by decide) ?_ | exact wset_lt (by (try simp only [List.length_set]); exact wsome (by assumption)))), (by repeat (first | assumption | refine wset_ne (by decide) ?_ | exact wset_lt (by (try simp only [List.length_set]); exact wsome (by assumption)))), (by repeat (first | assumption | refine wset_ne (by decide) ?_ | exact wset_lt (by (try simp only [List.length_set]); exact wsome (by assumption)))), (by repeat (first | assumption | refine wset_ne (by decide) ?_ | exact wset_lt (by (try simp only [List.length_set]); exact wsome (by assumption)))), (by repeat (first | assumption | refine wset_ne (by decide) ?_ | exact wset_lt (by (try simp only [List.length_set]); exact wsome (by assumption)))), (by repeat (first | assumption | refine wset_ne (by decide) ?_ | exact wset_lt (by (try simp only [List.length_set]); exact wsome (by assumption)))), (by repeat (first | assumption | refine wset_ne (by decide) ?_ | exact wset_lt (by (try simp only [List.length_set]); exact wsome (by assumption)))), (by repeat (first | assumption | refine wset_ne (by decide) ?_ | exact wset_lt (by (try simp only [List.length_set]); exact wsome (by assumption)))), (by repeat (first | assumption | refine wset_ne (by decide) ?_ | exact wset_lt (by (try simp only [List.length_set]); exact wsome (by assumption)))), (by repeat (first | assumption | refine wset_ne (by decide) ?_ | exact wset_lt (by (try simp only [List.length_set]); exact wsome (by assumption)))), (by repeat (first | assumption | refine wset_ne (by decide) ?_ | exact wset_lt (by (try simp only [List.length_set]); exact wsome (by assumption)))), (by repeat (first | assumption | refine wset_ne (by decide) ?_ | exact wset_lt (by (try simp only [List.length_set]); exact wsome (by assumption)))), (by repeat (first | assumption | refine wset_ne (by decide) ?_ | exact wset_lt (by (try simp only [List.length_set]); exact wsome (by assumption)))), (by repeat (first | assumption | refine wset_ne (by decide) ?_ | exact wset_lt (by (try simp only [List.length_set]); exact wsome (by assumption)))), (by repeat (first | assumption | refine wset_ne (by decide) ?_ | exact wset_lt (by (try simp only [List.length_set]); exact wsome (by assumption)))), (by repeat (first | assumption | refine wset_ne (by decide) ?_ | exact wset_lt (by (try simp only [List.length_set]); exact wsome (by assumption))))⟩), (board_inv hI hpg hw), (Or.inr hsp.2.2.2.2.2.2.1), (by decide), hpg, (Nat.succ_le_succ hrd), (Nat.le_succ_of_le hkb), (by decide), (⟨fun z => Bool.noConfusion z, fun _ => Or.inr (by omega)⟩)⟩⟩
  · have hw : wholeF pg sz = false := by simpa using hw
    refine ⟨_, fun u => u = w, (c_board_s hC hsz hpg hw).mono (by decide), fun u hu => ?_⟩
    subst hu
    have hSu := hS
    obtain ⟨wh, nc, nf, nl, tl, sd, a1, a2, a3, a4, a5, a6, hm, h34, h35, h36, h37, h38, h39, h40, h41, h42, h43, h44, h45, h46, h47, h48, h49, h50, h51, h52⟩ := hSu
    refine ⟨⟨_, hm⟩, ?_⟩
    refine J.conseq (JX.mono (m_board_s hm h40 hsz hpg hw) (by decide)) ?_
    rintro v x ⟨rfl, nc', nf', nl', rfl⟩
    exact ⟨rfl, ⟨R, C, sz, rd, fr, lp, lps, sn, ik, ik', kb, kf, kl, kn, hh, ks, sts, sof, sso, rr, cc, cn, pg, ks2, sts2, sof2, rr2, cc2, cn2, K, (Fc.CW (Fc.rf.set (by decide)) hC), (⟨_, _, _, _, _, _, _, _, _, _, _, _, (by repeat (first | assumption | refine wset_ne (by decide) ?_ | exact wset_lt (by (try simp only [List.length_set]); exact wsome (by assumption)))), (by repeat (first | assumption | refine wset_ne (by decide) ?_ | exact wset_lt (by (try simp only [List.length_set]); exact wsome (by assumption)))), (by repeat (first | assumption | refine wset_ne (by decide) ?_ | exact wset_lt (by (try simp only [List.length_set]); exact wsome (by assumption)))), (by repeat (first | assumption | refine wset_ne (by decide) ?_ | exact wset_lt (by (try simp only [List.length_set]); exact wsome (by assumption)))), (by repeat (first | assumption | refine wset_ne (by decide) ?_ | exact wset_lt (by (try simp only [List.length_set]); exact wsome (by assumption)))), (by repeat (first | assumption | refine wset_ne (by decide) ?_ | exact wset_lt (by (try simp only [List.length_set]); exact wsome (by assumption)))), (by repeat (first | assumption | refine wset_ne (by decide) ?_ | exact wset_lt (by (try simp only [List.length_set]); exact wsome (by assumption)))), (by repeat (first | assumption | refine wset_ne (by decide) ?_ | exact wset_lt (by (try simp only [List.length_set]); exact wsome (by assumption)))), (by repeat (first | assumption | refine wset_ne (by decide) ?_ | exact wset_lt (by (try simp only [List.length_set]); exact wsome (by assumption)))), (by repeat (first | assumption | refine wset_ne (by decide) ?_ | exact wset_lt (by (try simp only [List.length_set]); exact wsome (by assumption)))), (by repeat (first | assumption | refine wset_ne (by decide) ?_ | exact wset_lt (by (try simp only [List.length_set]); exact wsome (by assumption)))), (by repeat (first | assumption | refine wset_ne (by decide) ?_ | exact wset_lt (by (try simp only [List.length_set]); exact wsome (by assumption)))), (by repeat (first | assumption | refine wset_ne (by decide) ?_ | exact wset_lt (by (try simp only [List.length_set]); exact wsome (by assumption)))), (by repeat (first | assumption | refine wset_ne (by decide) ?_ | exact wset_lt (by (try simp only [List.length_set]); exact wsome (by assumption)))), (by repeat (first | assumption | refine wset_ne (by decide) ?_ | exact wset_lt (by (try simp only [List.length_set]); exact wsome (by assumption)))), (by repeat (first | assumption | refine wset_ne (by decide) ?_ | exact wset_lt (by (try simp only [List.length_set]); exact wsome (by assumption)))), (by repeat (first | assumption | refine wset_ne (by decide) ?_ | exact wset_lt (by (try simp only [List.length_set]); exact wsome (by assumption)))), (by repeat (first | assumption | refine wset_ne (by decide) ?_ | exact wset_lt (by (try simp only [List.length_set]); exact wsome (by assumption)))), (by repeat (first | assumption | refine wset_ne (by decide) ?_ | exact wset_lt (by (try simp only [List.length_set]); exact wsome (by assumption)))), (by repeat (first | assumption | refine wset_ne (by decide) ?_ | exact wset_lt (by (try simp only [List.length_set]); exact wsome (by assumption))))⟩), hI, h4, hsz, hpg, (Nat.le_succ_of_le hrd), hkb, hlps, hKI⟩⟩
theorem p_leaper (hR : REL b w) (x y : Int32) : PAIR mX5_leaper mX6_leaper [.int x, .int y] b w := by
  have hR0 := hR
  obtain ⟨R, C, sz, rd, fr, lp, lps, sn, ik, ik', kb, kf, kl, kn, hh, ks, sts, sof, sso, rr, cc, cn, pg, ks2, sts2, sof2, rr2, cc2, cn2, K, hC, hS, hI, h4, hsz, hpg, hrd, hkb, hlps, hKI⟩ := hR
  have hV := hI.2.2.1
  obtain ⟨w0, wP, wG, wN, wK, wTr, wT, wD⟩ := id hC
  have wN : NOW w fr lp lps sn ks sts sof sso := wN
  have hSu := hS
  obtain ⟨wh, nc, nf, nl, tl, sd, a1, a2, a3, a4, a5, a6, hm, h34, h35, h36, h37, h38, h39, h40, h41, h42, h43, h44, h45, h46, h47, h48, h49, h50, h51, h52⟩ := hSu
  by_cases hx : inR x lp = true
  · by_cases hy : inR y 8 = true
    · obtain ⟨j, hj, rfl⟩ := inR_ex (by have := hV.2.1; omega) hx
      obtain ⟨k, hk, rfl⟩ := inR_ex (by decide) hy
      have hc := c_leaper w0 wG hI.1 wT wN hV j k hj hk
      refine pair_read (kk := Value.int) (r := leaperT C (R * C) fr lp sn ks sts sof sso j k) hR0 (J.conseq hc ?_) (fun u hu hRu => ?_) (d := 5) (d' := 7) (by decide) (by decide)
      · rintro v u ⟨⟨st0, rfl⟩, hu⟩
        exact ⟨by rw [leaperV_T hI.1 hI.2.1 hj (hI.sN j hj) (hV.2.2.2.1 j)], hu⟩
      · refine J.conseq (s_leaper (hu.F33.MS hS) hI j k hj hk) ?_
        rintro v x ⟨rfl, hx1, hx2⟩
        exact ⟨rfl, ⟨R, C, sz, rd, fr, lp, lps, sn, ik, ik', kb, kf, kl, kn, hh, ks, sts, sof, sso, rr, cc, cn, pg, ks2, sts2, sof2, rr2, cc2, cn2, K, (hx2.CW (hu.CW hC)), (hx1), hI, h4, hsz, hpg, (Nat.le_succ_of_le hrd), hkb, hlps, hKI⟩⟩
    · have hy : inR y 8 = false := by simpa using hy
      exact pair_same hR0 (c_leaper_o w0 wN hV x y hx hy) (m_leaper_o hm hV.2.1 x y hx hy) (by decide) (by decide)
  · have hx : inR x lp = false := by simpa using hx
    exact pair_same hR0 (c_leaper_u w0 wN hV x y hx) (m_leaper_u hm hV.2.1 x y hx) (by decide) (by decide)
theorem p_as (hR : REL b w) (x y : Int32) : PAIR mX5_as mX6_as [.int x, .int y] b w := by
  have hR0 := hR
  obtain ⟨R, C, sz, rd, fr, lp, lps, sn, ik, ik', kb, kf, kl, kn, hh, ks, sts, sof, sso, rr, cc, cn, pg, ks2, sts2, sof2, rr2, cc2, cn2, K, hC, hS, hI, h4, hsz, hpg, hrd, hkb, hlps, hKI⟩ := hR
  have hV := hI.2.2.1
  obtain ⟨w0, wP, wG, wN, wK, wTr, wT, wD⟩ := id hC
  have wN : NOW w fr lp lps sn ks sts sof sso := wN
  have hSu := hS
  obtain ⟨wh, nc, nf, nl, tl, sd, a1, a2, a3, a4, a5, a6, hm, h34, h35, h36, h37, h38, h39, h40, h41, h42, h43, h44, h45, h46, h47, h48, h49, h50, h51, h52⟩ := hSu
  by_cases hx : inR x lp = true
  · by_cases hy : inR y 5 = true
    · obtain ⟨j, hj, rfl⟩ := inR_ex (by have := hV.2.1; omega) hx
      obtain ⟨k, hk, rfl⟩ := inR_ex (by decide) hy
      exact pair_same hR0 (c_as w0 wN hV j k hj hk) (m_as hm h34 hV.2.1 hV.2.2.2.1 j k hj hk) (by decide) (by decide)
    · have hy : inR y 5 = false := by simpa using hy
      exact pair_same hR0 (c_as_o w0 wN hV x y hx hy) (m_as_o hm hV.2.1 x y hx hy) (by decide) (by decide)
  · have hx : inR x lp = false := by simpa using hx
    exact pair_same hR0 (c_as_u w0 wN hV x y hx) (m_as_u hm hV.2.1 x y hx) (by decide) (by decide)
theorem p_cell (hR : REL b w) (x y : Int32) : PAIR mX5_cell mX6_cell [.int x, .int y] b w := by
  have hR0 := hR
  obtain ⟨R, C, sz, rd, fr, lp, lps, sn, ik, ik', kb, kf, kl, kn, hh, ks, sts, sof, sso, rr, cc, cn, pg, ks2, sts2, sof2, rr2, cc2, cn2, K, hC, hS, hI, h4, hsz, hpg, hrd, hkb, hlps, hKI⟩ := hR
  have hV := hI.2.2.1
  obtain ⟨w0, wP, wG, wN, wK, wTr, wT, wD⟩ := id hC
  have wN : NOW w fr lp lps sn ks sts sof sso := wN
  have hSu := hS
  obtain ⟨wh, nc, nf, nl, tl, sd, a1, a2, a3, a4, a5, a6, hm, h34, h35, h36, h37, h38, h39, h40, h41, h42, h43, h44, h45, h46, h47, h48, h49, h50, h51, h52⟩ := hSu
  have hN := hI.1
  by_cases hx : inR x (R * C) = true
  · by_cases hy : inR y 3 = true
    · obtain ⟨j, hj, rfl⟩ := inR_ex (by omega) hx
      obtain ⟨k, hk, rfl⟩ := inR_ex (by decide) hy
      exact pair_same hR0 (c_cell w0 wG hN wN hV j k hj hk) (s_cell hS hI j k hj hk) (by decide) (by decide)
    · have hy : inR y 3 = false := by simpa using hy
      exact pair_same hR0 (c_cell_o w0 wG x y hx hy) (m_cell_o hm hN x y hx hy) (by decide) (by decide)
  · have hx : inR x (R * C) = false := by simpa using hx
    exact pair_same hR0 (c_cell_u w0 wG x y hx) (m_cell_u hm hN x y hx) (by decide) (by decide)
theorem p_leap (hR : REL b w) (x y : Int32) : PAIR mX5_leap mX6_leap [.int x, .int y] b w := by
  have hR0 := hR
  obtain ⟨R, C, sz, rd, fr, lp, lps, sn, ik, ik', kb, kf, kl, kn, hh, ks, sts, sof, sso, rr, cc, cn, pg, ks2, sts2, sof2, rr2, cc2, cn2, K, hC, hS, hI, h4, hsz, hpg, hrd, hkb, hlps, hKI⟩ := hR
  have hV := hI.2.2.1
  have hN := hI.1
  have hsN := hI.sN
  have hI2 := hI
  obtain ⟨i1, i2, ⟨v1, v2, v3, v4, v5, v6, v7⟩, i4, i5, i6, i7, i8, i9⟩ := hI2
  have hSu := hS
  obtain ⟨wh, nc, nf, nl, tl, sd, a1, a2, a3, a4, a5, a6, hm, h34, h35, h36, h37, h38, h39, h40, h41, h42, h43, h44, h45, h46, h47, h48, h49, h50, h51, h52⟩ := hSu
  by_cases hx : inR x lp = true ∧ inR y (R * C) = true
  · obtain ⟨j, hj, rfl⟩ := inR_ex (by omega) hx.1
    obtain ⟨c, hc, rfl⟩ := inR_ex (by omega) hx.2
    by_cases hg : (gol C (R * C) fr lp ks sts j).testBit c = true
    · by_cases hl : lps = 999
      · subst hl
        exact pair_same hR0 (c_leap_f hC hN hV j c hj hc hg rfl) (m_leap_f hm h34 h35 hN v1 v2 v4 v5 hsN j c hj hc hg) (by decide) (by decide)
      · refine ⟨_, fun u => CW u R C sz pg ik rd ((fr, lp, lps + 1, sn), (ks, un sts j c, sof, sso)) K ∧ F33 w u, (c_leap hC hN hV j c hj hc hg (by omega)).mono (by decide), fun u hu => ?_⟩
        have hSu := hu.2.MS hS
        obtain ⟨wh, nc, nf, nl, tl, sd, a1, a2, a3, a4, a5, a6, hm, h34, h35, h36, h37, h38, h39, h40, h41, h42, h43, h44, h45, h46, h47, h48, h49, h50, h51, h52⟩ := hSu
        refine ⟨⟨_, hm⟩, ?_⟩
        refine J.conseq (JX.mono (m_leap hm h34 h35 hN v1 v2 v4 v5 hsN j c hj hc hg (by omega)) (by decide)) ?_
        rintro v x ⟨rfl, rfl⟩
        have hem := empty_tb.mp (and_tb.mp hg).2
        have hI' : INV R C fr lp sn ks (un sts j c) sof sso rr cc cn := by
          refine ⟨i1, i2, ⟨v1, v2, v3, v4, fun i => ?_, v6, v7⟩, i4, i5, i6, i7, fun l hl => ?_, fun p q hp hq he => ?_⟩
          · unfold un; split; omega; exact v5 i
          · unfold un; split; exact hem.1; exact i8 l hl
          · by_cases e1 : p = j
            · by_cases e2 : q = j
              · rw [e1, e2]
              · rw [e1, un_same, un_ne e2] at he; exact absurd he.symm (hem.2 q hq)
            · by_cases e2 : q = j
              · rw [e2, un_same, un_ne e1] at he; exact absurd he (hem.2 p hp)
              · rw [un_ne e1, un_ne e2] at he; exact i9 p q hp hq he
        exact ⟨rfl, ⟨R, C, sz, rd, fr, lp, (lps + 1), sn, ik, ik', kb, kf, kl, kn, hh, ks, (un sts j c), sof, sso, rr, cc, cn, pg, ks2, sts2, sof2, rr2, cc2, cn2, K, (Fc.CW ((Fc.rf.set (by decide)).set (by decide)) hu.1), (⟨_, _, _, _, _, _, _, _, _, _, _, _, (by repeat (first | assumption | refine wset_ne (by decide) ?_ | exact wset_lt (by (try simp only [List.length_set]); exact wsome (by assumption)))), (by repeat (first | assumption | refine wset_ne (by decide) ?_ | exact wset_lt (by (try simp only [List.length_set]); exact wsome (by assumption)))), (by repeat (first | assumption | refine wset_ne (by decide) ?_ | exact wset_lt (by (try simp only [List.length_set]); exact wsome (by assumption)))), (by repeat (first | assumption | refine wset_ne (by decide) ?_ | exact wset_lt (by (try simp only [List.length_set]); exact wsome (by assumption)))), (by repeat (first | assumption | refine wset_ne (by decide) ?_ | exact wset_lt (by (try simp only [List.length_set]); exact wsome (by assumption)))), (by repeat (first | assumption | refine wset_ne (by decide) ?_ | exact wset_lt (by (try simp only [List.length_set]); exact wsome (by assumption)))), (by repeat (first | assumption | refine wset_ne (by decide) ?_ | exact wset_lt (by (try simp only [List.length_set]); exact wsome (by assumption)))), (by repeat (first | assumption | refine wset_ne (by decide) ?_ | exact wset_lt (by (try simp only [List.length_set]); exact wsome (by assumption)))), (by repeat (first | assumption | refine wset_ne (by decide) ?_ | exact wset_lt (by (try simp only [List.length_set]); exact wsome (by assumption)))), (by repeat (first | assumption | refine wset_ne (by decide) ?_ | exact wset_lt (by (try simp only [List.length_set]); exact wsome (by assumption)))), (by repeat (first | assumption | refine wset_ne (by decide) ?_ | exact wset_lt (by (try simp only [List.length_set]); exact wsome (by assumption)))), (by repeat (first | assumption | refine wset_ne (by decide) ?_ | exact wset_lt (by (try simp only [List.length_set]); exact wsome (by assumption)))), (by repeat (first | assumption | refine wset_ne (by decide) ?_ | exact wset_lt (by (try simp only [List.length_set]); exact wsome (by assumption)))), (by repeat (first | assumption | refine wset_ne (by decide) ?_ | exact wset_lt (by (try simp only [List.length_set]); exact wsome (by assumption)))), (by repeat (first | assumption | refine wset_ne (by decide) ?_ | exact wset_lt (by (try simp only [List.length_set]); exact wsome (by assumption)))), (by repeat (first | assumption | refine wset_ne (by decide) ?_ | exact wset_lt (by (try simp only [List.length_set]); exact wsome (by assumption)))), (by repeat (first | assumption | refine wset_ne (by decide) ?_ | exact wset_lt (by (try simp only [List.length_set]); exact wsome (by assumption)))), (by repeat (first | assumption | refine wset_ne (by decide) ?_ | exact wset_lt (by (try simp only [List.length_set]); exact wsome (by assumption)))), (by repeat (first | assumption | refine wset_ne (by decide) ?_ | exact wset_lt (by (try simp only [List.length_set]); exact wsome (by assumption)))), (by repeat (first | assumption | refine wset_ne (by decide) ?_ | exact wset_lt (by (try simp only [List.length_set]); exact wsome (by assumption))))⟩), (hI'), h4, hsz, hpg, (Nat.le_succ_of_le hrd), hkb, (by omega), hKI⟩⟩
    · have hg : (gol C (R * C) fr lp ks sts j).testBit c = false := by simpa using hg
      exact pair_same hR0 (c_leap_s hC hN hV j c hj hc hg) (m_leap_s hm h34 h35 hN v1 v2 v4 v5 hsN j c hj hc hg) (by decide) (by decide)
  · have hx : inR x lp = false ∨ inR y (R * C) = false := by
      cases e1 : inR x lp with
      | false => exact Or.inl rfl
      | true => cases e2 : inR y (R * C) with
        | false => exact Or.inr rfl
        | true => exact absurd ⟨e1, e2⟩ hx
    exact pair_same hR0 (c_leap_u hC hV x y hx) (m_leap_u hm hN v2 x y hx) (by decide) (by decide)
theorem p_dig (hR : REL b w) (x : Int32) : PAIR mX5_dig mX6_dig [.int x] b w := by
  have hR0 := hR
  obtain ⟨R, C, sz, rd, fr, lp, lps, sn, ik, ik', kb, kf, kl, kn, hh, ks, sts, sof, sso, rr, cc, cn, pg, ks2, sts2, sof2, rr2, cc2, cn2, K, hC, hS, hI, h4, hsz, hpg, hrd, hkb, hlps, hKI⟩ := hR
  have hV := hI.2.2.1
  have hN := hI.1
  have hI2 := hI
  obtain ⟨i1, i2, ⟨v1, v2, v3, v4, v5, v6, v7⟩, i4, i5, i6, i7, i8, i9⟩ := hI2
  have hSu := hS
  obtain ⟨wh, nc, nf, nl, tl, sd, a1, a2, a3, a4, a5, a6, hm, h34, h35, h36, h37, h38, h39, h40, h41, h42, h43, h44, h45, h46, h47, h48, h49, h50, h51, h52⟩ := hSu
  by_cases hx : inR x (R * C) = true
  · obtain ⟨c, hc, rfl⟩ := inR_ex (by omega) hx
    by_cases hg : (emptyF fr lp sts).testBit c = true
    · refine ⟨_, fun u => CW u R C sz pg ik rd ((ad fr (2 ^ c), lp, lps, sn), (ks, sts, sof, sso)) K ∧ F33 w u, (c_dig hC hN hV c hc hg).mono (by decide), fun u hu => ?_⟩
      have hSu := hu.2.MS hS
      obtain ⟨wh, nc, nf, nl, tl, sd, a1, a2, a3, a4, a5, a6, hm, h34, h35, h36, h37, h38, h39, h40, h41, h42, h43, h44, h45, h46, h47, h48, h49, h50, h51, h52⟩ := hSu
      refine ⟨⟨_, hm⟩, ?_⟩
      refine J.conseq (JX.mono (m_dig hm h35 hN v1 v2 v5 c hc hg) (by decide)) ?_
      rintro v x ⟨rfl, rfl⟩
      have hem := empty_tb.mp hg
      have hI' : INV R C (ad fr (2 ^ c)) lp sn ks sts sof sso rr cc cn :=
        ⟨i1, Nat.lt_of_le_of_lt (sub_adl _ _).le i2, ⟨ad_b v1, v2, v3, v4, v5, v6, v7⟩, i4, i5, i6, i7, fun l hl => ad_tbP.mpr ⟨i8 l hl, fun z => hem.2 l hl (pw_tb.mp z).symm⟩, i9⟩
      exact ⟨rfl, ⟨R, C, sz, rd, (ad fr (2 ^ c)), lp, lps, sn, ik, ik', kb, kf, kl, kn, hh, ks, sts, sof, sso, rr, cc, cn, pg, ks2, sts2, sof2, rr2, cc2, cn2, K, (Fc.CW (Fc.rf.set (by decide)) hu.1), (⟨_, _, _, _, _, _, _, _, _, _, _, _, (by repeat (first | assumption | refine wset_ne (by decide) ?_ | exact wset_lt (by (try simp only [List.length_set]); exact wsome (by assumption)))), (by repeat (first | assumption | refine wset_ne (by decide) ?_ | exact wset_lt (by (try simp only [List.length_set]); exact wsome (by assumption)))), (by repeat (first | assumption | refine wset_ne (by decide) ?_ | exact wset_lt (by (try simp only [List.length_set]); exact wsome (by assumption)))), (by repeat (first | assumption | refine wset_ne (by decide) ?_ | exact wset_lt (by (try simp only [List.length_set]); exact wsome (by assumption)))), (by repeat (first | assumption | refine wset_ne (by decide) ?_ | exact wset_lt (by (try simp only [List.length_set]); exact wsome (by assumption)))), (by repeat (first | assumption | refine wset_ne (by decide) ?_ | exact wset_lt (by (try simp only [List.length_set]); exact wsome (by assumption)))), (by repeat (first | assumption | refine wset_ne (by decide) ?_ | exact wset_lt (by (try simp only [List.length_set]); exact wsome (by assumption)))), (by repeat (first | assumption | refine wset_ne (by decide) ?_ | exact wset_lt (by (try simp only [List.length_set]); exact wsome (by assumption)))), (by repeat (first | assumption | refine wset_ne (by decide) ?_ | exact wset_lt (by (try simp only [List.length_set]); exact wsome (by assumption)))), (by repeat (first | assumption | refine wset_ne (by decide) ?_ | exact wset_lt (by (try simp only [List.length_set]); exact wsome (by assumption)))), (by repeat (first | assumption | refine wset_ne (by decide) ?_ | exact wset_lt (by (try simp only [List.length_set]); exact wsome (by assumption)))), (by repeat (first | assumption | refine wset_ne (by decide) ?_ | exact wset_lt (by (try simp only [List.length_set]); exact wsome (by assumption)))), (by repeat (first | assumption | refine wset_ne (by decide) ?_ | exact wset_lt (by (try simp only [List.length_set]); exact wsome (by assumption)))), (by repeat (first | assumption | refine wset_ne (by decide) ?_ | exact wset_lt (by (try simp only [List.length_set]); exact wsome (by assumption)))), (by repeat (first | assumption | refine wset_ne (by decide) ?_ | exact wset_lt (by (try simp only [List.length_set]); exact wsome (by assumption)))), (by repeat (first | assumption | refine wset_ne (by decide) ?_ | exact wset_lt (by (try simp only [List.length_set]); exact wsome (by assumption)))), (by repeat (first | assumption | refine wset_ne (by decide) ?_ | exact wset_lt (by (try simp only [List.length_set]); exact wsome (by assumption)))), (by repeat (first | assumption | refine wset_ne (by decide) ?_ | exact wset_lt (by (try simp only [List.length_set]); exact wsome (by assumption)))), (by repeat (first | assumption | refine wset_ne (by decide) ?_ | exact wset_lt (by (try simp only [List.length_set]); exact wsome (by assumption)))), (by repeat (first | assumption | refine wset_ne (by decide) ?_ | exact wset_lt (by (try simp only [List.length_set]); exact wsome (by assumption))))⟩), (hI'), h4, hsz, hpg, (Nat.le_succ_of_le hrd), hkb, hlps, hKI⟩⟩
    · have hg : (emptyF fr lp sts).testBit c = false := by simpa using hg
      exact pair_same hR0 (c_dig_s hC hN hV c hc hg) (m_dig_s hm h35 hN v1 v2 v5 c hc hg) (by decide) (by decide)
  · have hx : inR x (R * C) = false := by simpa using hx
    exact pair_same hR0 (c_dig_u hC x hx) (m_dig_u hm hN x hx) (by decide) (by decide)
theorem p_fill (hR : REL b w) (x : Int32) : PAIR mX5_fill mX6_fill [.int x] b w := by
  have hR0 := hR
  obtain ⟨R, C, sz, rd, fr, lp, lps, sn, ik, ik', kb, kf, kl, kn, hh, ks, sts, sof, sso, rr, cc, cn, pg, ks2, sts2, sof2, rr2, cc2, cn2, K, hC, hS, hI, h4, hsz, hpg, hrd, hkb, hlps, hKI⟩ := hR
  have hV := hI.2.2.1
  have hN := hI.1
  have hI2 := hI
  obtain ⟨i1, i2, ⟨v1, v2, v3, v4, v5, v6, v7⟩, i4, i5, i6, i7, i8, i9⟩ := hI2
  have hSu := hS
  obtain ⟨wh, nc, nf, nl, tl, sd, a1, a2, a3, a4, a5, a6, hm, h34, h35, h36, h37, h38, h39, h40, h41, h42, h43, h44, h45, h46, h47, h48, h49, h50, h51, h52⟩ := hSu
  by_cases hx : inR x (R * C) = true
  · obtain ⟨c, hc, rfl⟩ := inR_ex (by omega) hx
    by_cases hg : fr.testBit c = true
    · exact pair_same hR0 (c_fill_s hC hN hV c hc hg) (m_fill_s hm hN v1 c hc hg) (by decide) (by decide)
    · have hg : fr.testBit c = false := by simpa using hg
      refine ⟨_, fun u => CW u R C sz pg ik rd ((fr ||| 2 ^ c, lp, lps, sn), (ks, sts, sof, sso)) K ∧ F33 w u, (c_fill hC hN hV c hc hg).mono (by decide), fun u hu => ?_⟩
      have hSu := hu.2.MS hS
      obtain ⟨wh, nc, nf, nl, tl, sd, a1, a2, a3, a4, a5, a6, hm, h34, h35, h36, h37, h38, h39, h40, h41, h42, h43, h44, h45, h46, h47, h48, h49, h50, h51, h52⟩ := hSu
      refine ⟨⟨_, hm⟩, ?_⟩
      refine J.conseq (JX.mono (m_fill hm hN v1 c hc hg) (by decide)) ?_
      rintro v x ⟨rfl, rfl⟩
      have hI' : INV R C (fr ||| 2 ^ c) lp sn ks sts sof sso rr cc cn :=
        ⟨i1, Nat.or_lt_two_pow i2 (Nat.pow_lt_pow_right (by decide) hc), ⟨or_b v1 (pw_b (by omega)), v2, v3, v4, v5, v6, v7⟩, i4, i5, i6, i7, fun l hl => or_tb.mpr (Or.inl (i8 l hl)), i9⟩
      exact ⟨rfl, ⟨R, C, sz, rd, (fr ||| 2 ^ c), lp, lps, sn, ik, ik', kb, kf, kl, kn, hh, ks, sts, sof, sso, rr, cc, cn, pg, ks2, sts2, sof2, rr2, cc2, cn2, K, (Fc.CW (Fc.rf.set (by decide)) hu.1), (⟨_, _, _, _, _, _, _, _, _, _, _, _, (by repeat (first | assumption | refine wset_ne (by decide) ?_ | exact wset_lt (by (try simp only [List.length_set]); exact wsome (by assumption)))), (by repeat (first | assumption | refine wset_ne (by decide) ?_ | exact wset_lt (by (try simp only [List.length_set]); exact wsome (by assumption)))), (by repeat (first | assumption | refine wset_ne (by decide) ?_ | exact wset_lt (by (try simp only [List.length_set]); exact wsome (by assumption)))), (by repeat (first | assumption | refine wset_ne (by decide) ?_ | exact wset_lt (by (try simp only [List.length_set]); exact wsome (by assumption)))), (by repeat (first | assumption | refine wset_ne (by decide) ?_ | exact wset_lt (by (try simp only [List.length_set]); exact wsome (by assumption)))), (by repeat (first | assumption | refine wset_ne (by decide) ?_ | exact wset_lt (by (try simp only [List.length_set]); exact wsome (by assumption)))), (by repeat (first | assumption | refine wset_ne (by decide) ?_ | exact wset_lt (by (try simp only [List.length_set]); exact wsome (by assumption)))), (by repeat (first | assumption | refine wset_ne (by decide) ?_ | exact wset_lt (by (try simp only [List.length_set]); exact wsome (by assumption)))), (by repeat (first | assumption | refine wset_ne (by decide) ?_ | exact wset_lt (by (try simp only [List.length_set]); exact wsome (by assumption)))), (by repeat (first | assumption | refine wset_ne (by decide) ?_ | exact wset_lt (by (try simp only [List.length_set]); exact wsome (by assumption)))), (by repeat (first | assumption | refine wset_ne (by decide) ?_ | exact wset_lt (by (try simp only [List.length_set]); exact wsome (by assumption)))), (by repeat (first | assumption | refine wset_ne (by decide) ?_ | exact wset_lt (by (try simp only [List.length_set]); exact wsome (by assumption)))), (by repeat (first | assumption | refine wset_ne (by decide) ?_ | exact wset_lt (by (try simp only [List.length_set]); exact wsome (by assumption)))), (by repeat (first | assumption | refine wset_ne (by decide) ?_ | exact wset_lt (by (try simp only [List.length_set]); exact wsome (by assumption)))), (by repeat (first | assumption | refine wset_ne (by decide) ?_ | exact wset_lt (by (try simp only [List.length_set]); exact wsome (by assumption)))), (by repeat (first | assumption | refine wset_ne (by decide) ?_ | exact wset_lt (by (try simp only [List.length_set]); exact wsome (by assumption)))), (by repeat (first | assumption | refine wset_ne (by decide) ?_ | exact wset_lt (by (try simp only [List.length_set]); exact wsome (by assumption)))), (by repeat (first | assumption | refine wset_ne (by decide) ?_ | exact wset_lt (by (try simp only [List.length_set]); exact wsome (by assumption)))), (by repeat (first | assumption | refine wset_ne (by decide) ?_ | exact wset_lt (by (try simp only [List.length_set]); exact wsome (by assumption)))), (by repeat (first | assumption | refine wset_ne (by decide) ?_ | exact wset_lt (by (try simp only [List.length_set]); exact wsome (by assumption))))⟩), (hI'), h4, hsz, hpg, (Nat.le_succ_of_le hrd), hkb, hlps, hKI⟩⟩
  · have hx : inR x (R * C) = false := by simpa using hx
    exact pair_same hR0 (c_fill_u hC x hx) (m_fill_u hm hN x hx) (by decide) (by decide)
theorem p_be (hR : REL b w) (x y : Int32) : PAIR mX5_be mX6_be [.int x, .int y] b w := by
  have hR0 := hR
  obtain ⟨R, C, sz, rd, fr, lp, lps, sn, ik, ik', kb, kf, kl, kn, hh, ks, sts, sof, sso, rr, cc, cn, pg, ks2, sts2, sof2, rr2, cc2, cn2, K, hC, hS, hI, h4, hsz, hpg, hrd, hkb, hlps, hKI⟩ := hR
  have hV := hI.2.2.1
  have hI2 := hI
  obtain ⟨i1, i2, ⟨v1, v2, v3, v4, v5, v6, v7⟩, i4, i5, i6, i7, i8, i9⟩ := hI2
  have hSu := hS
  obtain ⟨wh, nc, nf, nl, tl, sd, a1, a2, a3, a4, a5, a6, hm, h34, h35, h36, h37, h38, h39, h40, h41, h42, h43, h44, h45, h46, h47, h48, h49, h50, h51, h52⟩ := hSu
  by_cases hx : inR x lp = true
  · by_cases hy : inR y 5 = true
    · obtain ⟨j, hj, rfl⟩ := inR_ex (by omega) hx
      obtain ⟨k, hk, rfl⟩ := inR_ex (by decide) hy
      refine ⟨_, fun u => CW u R C sz pg ik rd ((fr, lp, lps, sn), (un ks j k, sts, sof, sso)) K ∧ F33 w u, (c_be hC hV j k hj hk).mono (by decide), fun u hu => ?_⟩
      have hSu := hu.2.MS hS
      obtain ⟨wh, nc, nf, nl, tl, sd, a1, a2, a3, a4, a5, a6, hm, h34, h35, h36, h37, h38, h39, h40, h41, h42, h43, h44, h45, h46, h47, h48, h49, h50, h51, h52⟩ := hSu
      refine ⟨⟨_, hm⟩, ?_⟩
      refine J.conseq (JX.mono (m_be hm h34 v2 j k hj hk) (by decide)) ?_
      rintro v x ⟨rfl, rfl⟩
      have hI' : INV R C fr lp sn (un ks j k) sts sof sso rr cc cn :=
        ⟨i1, i2, ⟨v1, v2, v3, fun i => by unfold un; split; exact hk; exact v4 i, v5, v6, v7⟩, i4, i5, i6, i7, i8, i9⟩
      exact ⟨rfl, ⟨R, C, sz, rd, fr, lp, lps, sn, ik, ik', kb, kf, kl, kn, hh, (un ks j k), sts, sof, sso, rr, cc, cn, pg, ks2, sts2, sof2, rr2, cc2, cn2, K, (Fc.CW (Fc.rf.set (by decide)) hu.1), (⟨_, _, _, _, _, _, _, _, _, _, _, _, (by repeat (first | assumption | refine wset_ne (by decide) ?_ | exact wset_lt (by (try simp only [List.length_set]); exact wsome (by assumption)))), (by repeat (first | assumption | refine wset_ne (by decide) ?_ | exact wset_lt (by (try simp only [List.length_set]); exact wsome (by assumption)))), (by repeat (first | assumption | refine wset_ne (by decide) ?_ | exact wset_lt (by (try simp only [List.length_set]); exact wsome (by assumption)))), (by repeat (first | assumption | refine wset_ne (by decide) ?_ | exact wset_lt (by (try simp only [List.length_set]); exact wsome (by assumption)))), (by repeat (first | assumption | refine wset_ne (by decide) ?_ | exact wset_lt (by (try simp only [List.length_set]); exact wsome (by assumption)))), (by repeat (first | assumption | refine wset_ne (by decide) ?_ | exact wset_lt (by (try simp only [List.length_set]); exact wsome (by assumption)))), (by repeat (first | assumption | refine wset_ne (by decide) ?_ | exact wset_lt (by (try simp only [List.length_set]); exact wsome (by assumption)))), (by repeat (first | assumption | refine wset_ne (by decide) ?_ | exact wset_lt (by (try simp only [List.length_set]); exact wsome (by assumption)))), (by repeat (first | assumption | refine wset_ne (by decide) ?_ | exact wset_lt (by (try simp only [List.length_set]); exact wsome (by assumption)))), (by repeat (first | assumption | refine wset_ne (by decide) ?_ | exact wset_lt (by (try simp only [List.length_set]); exact wsome (by assumption)))), (by repeat (first | assumption | refine wset_ne (by decide) ?_ | exact wset_lt (by (try simp only [List.length_set]); exact wsome (by assumption)))), (by repeat (first | assumption | refine wset_ne (by decide) ?_ | exact wset_lt (by (try simp only [List.length_set]); exact wsome (by assumption)))), (by repeat (first | assumption | refine wset_ne (by decide) ?_ | exact wset_lt (by (try simp only [List.length_set]); exact wsome (by assumption)))), (by repeat (first | assumption | refine wset_ne (by decide) ?_ | exact wset_lt (by (try simp only [List.length_set]); exact wsome (by assumption)))), (by repeat (first | assumption | refine wset_ne (by decide) ?_ | exact wset_lt (by (try simp only [List.length_set]); exact wsome (by assumption)))), (by repeat (first | assumption | refine wset_ne (by decide) ?_ | exact wset_lt (by (try simp only [List.length_set]); exact wsome (by assumption)))), (by repeat (first | assumption | refine wset_ne (by decide) ?_ | exact wset_lt (by (try simp only [List.length_set]); exact wsome (by assumption)))), (by repeat (first | assumption | refine wset_ne (by decide) ?_ | exact wset_lt (by (try simp only [List.length_set]); exact wsome (by assumption)))), (by repeat (first | assumption | refine wset_ne (by decide) ?_ | exact wset_lt (by (try simp only [List.length_set]); exact wsome (by assumption)))), (by repeat (first | assumption | refine wset_ne (by decide) ?_ | exact wset_lt (by (try simp only [List.length_set]); exact wsome (by assumption))))⟩), (hI'), h4, hsz, hpg, (Nat.le_succ_of_le hrd), hkb, hlps, hKI⟩⟩
    · have hy : inR y 5 = false := by simpa using hy
      exact pair_same hR0 (c_be_o hC hV x y hx hy) (m_be_o hm v2 x y hx hy) (by decide) (by decide)
  · have hx : inR x lp = false := by simpa using hx
    exact pair_same hR0 (c_be_u hC hV x y hx) (m_be_u hm v2 x y hx) (by decide) (by decide)
theorem p_hops (hR : REL b w) (x y : Int32) : PAIR mX5_hops mX6_hops [.int x, .int y] b w := by
  have hR0 := hR
  obtain ⟨R, C, sz, rd, fr, lp, lps, sn, ik, ik', kb, kf, kl, kn, hh, ks, sts, sof, sso, rr, cc, cn, pg, ks2, sts2, sof2, rr2, cc2, cn2, K, hC, hS, hI, h4, hsz, hpg, hrd, hkb, hlps, hKI⟩ := hR
  have hV := hI.2.2.1
  have hN := hI.1
  obtain ⟨w0, wP, wG, wN, wK, wTr, wT, wD⟩ := id hC
  have wN : NOW w fr lp lps sn ks sts sof sso := wN
  have hSu := hS
  obtain ⟨wh, nc, nf, nl, tl, sd, a1, a2, a3, a4, a5, a6, hm, h34, h35, h36, h37, h38, h39, h40, h41, h42, h43, h44, h45, h46, h47, h48, h49, h50, h51, h52⟩ := hSu
  by_cases hx : inR x lp = true ∧ inR y (R * C) = true
  · obtain ⟨j, hj, rfl⟩ := inR_ex (by have := hV.2.1; omega) hx.1
    obtain ⟨c, hc, rfl⟩ := inR_ex (by omega) hx.2
    exact pair_same hR0 (c_hops w0 wG hN wN hV j c hj hc) (s_hops hS hI j c hj hc) (by decide) (by decide)
  · have hx : inR x lp = false ∨ inR y (R * C) = false := by
      cases e1 : inR x lp with
      | false => exact Or.inl rfl
      | true => cases e2 : inR y (R * C) with
        | false => exact Or.inr rfl
        | true => exact absurd ⟨e1, e2⟩ hx
    exact pair_same hR0 (c_hops_u w0 wG wN hV x y hx) (m_hops_u hm hN hV.2.1 x y hx) (by decide) (by decide)
theorem p_trade (hR : REL b w) (x y : Int32) : PAIR mX5_trade mX6_trade [.int x, .int y] b w := by
  have hR0 := hR
  obtain ⟨R, C, sz, rd, fr, lp, lps, sn, ik, ik', kb, kf, kl, kn, hh, ks, sts, sof, sso, rr, cc, cn, pg, ks2, sts2, sof2, rr2, cc2, cn2, K, hC, hS, hI, h4, hsz, hpg, hrd, hkb, hlps, hKI⟩ := hR
  have hV := hI.2.2.1
  have hN := hI.1
  obtain ⟨w0, wP, wG, wN, wK, wTr, wT, wD⟩ := id hC
  have wN : NOW w fr lp lps sn ks sts sof sso := wN
  have hSu := hS
  obtain ⟨wh, nc, nf, nl, tl, sd, a1, a2, a3, a4, a5, a6, hm, h34, h35, h36, h37, h38, h39, h40, h41, h42, h43, h44, h45, h46, h47, h48, h49, h50, h51, h52⟩ := hSu
  by_cases hx : inR x lp = true ∧ inR y lp = true ∧ x ≠ y
  · obtain ⟨i, hi, rfl⟩ := inR_ex (by have := hV.2.1; omega) hx.1
    obtain ⟨j, hj, rfl⟩ := inR_ex (by have := hV.2.1; omega) hx.2.1
    have hij : i ≠ j := fun z => hx.2.2 (by rw [z])
    refine pair_read (kk := Value.int) hR0 (c_trade w0 wG hN wT wN hV i j hi hj hij) (fun u hu hRu => ?_) (d' := 5) (by decide) (by decide)
    refine J.conseq (s_trade (hu.F33.MS hS) hI i j hi hj hij) ?_
    rintro v x ⟨rfl, hx1, hx2⟩
    exact ⟨rfl, ⟨R, C, sz, rd, fr, lp, lps, sn, ik, ik', kb, kf, kl, kn, hh, ks, sts, sof, sso, rr, cc, cn, pg, ks2, sts2, sof2, rr2, cc2, cn2, K, (hx2.CW (hu.CW hC)), (hx1), hI, h4, hsz, hpg, (Nat.le_succ_of_le hrd), hkb, hlps, hKI⟩⟩
  · have hx : inR x lp = false ∨ inR y lp = false ∨ x = y := by
      cases e1 : inR x lp with
      | false => exact Or.inl rfl
      | true => cases e2 : inR y lp with
        | false => exact Or.inr (Or.inl rfl)
        | true => exact Or.inr (Or.inr (Classical.byContradiction fun z => hx ⟨e1, e2, z⟩))
    exact pair_same hR0 (c_trade_u w0 wN hV x y hx) (m_trade_u hm hV.2.1 x y hx) (by decide) (by decide)
theorem p_peace (hR : REL b w) (x y : Int32) : PAIR mX5_peace mX6_peace [.int x, .int y] b w := by
  have hR0 := hR
  obtain ⟨R, C, sz, rd, fr, lp, lps, sn, ik, ik', kb, kf, kl, kn, hh, ks, sts, sof, sso, rr, cc, cn, pg, ks2, sts2, sof2, rr2, cc2, cn2, K, hC, hS, hI, h4, hsz, hpg, hrd, hkb, hlps, hKI⟩ := hR
  have hV := hI.2.2.1
  have hN := hI.1
  obtain ⟨w0, wP, wG, wN, wK, wTr, wT, wD⟩ := id hC
  have wN : NOW w fr lp lps sn ks sts sof sso := wN
  have hSu := hS
  obtain ⟨wh, nc, nf, nl, tl, sd, a1, a2, a3, a4, a5, a6, hm, h34, h35, h36, h37, h38, h39, h40, h41, h42, h43, h44, h45, h46, h47, h48, h49, h50, h51, h52⟩ := hSu
  by_cases hx : inR x 5 = true ∧ inR y 2 = true
  · by_cases hl : lp = 0
    · subst hl
      exact pair_same hR0 (c_peace_s w0 wN x y hx.1 hx.2) (m_peace_s hm x y hx.1 hx.2) (by decide) (by decide)
    · obtain ⟨k, hk, rfl⟩ := inR_ex (by decide) hx.1
      obtain ⟨y, hy, rfl⟩ := inR_ex (by decide) hx.2
      have h := m_peace hm hN hV.1 hV.2.1 (by omega) k y hk hy
      rw [peaceM_V hN hV.1] at h
      exact pair_same hR0 (c_peace w0 wG hN wN hV (by omega) k y hk hy) h (by decide) (by decide)
  · have hx : inR x 5 = false ∨ inR y 2 = false := by
      cases e1 : inR x 5 with
      | false => exact Or.inl rfl
      | true => cases e2 : inR y 2 with
        | false => exact Or.inr rfl
        | true => exact absurd ⟨e1, e2⟩ hx
    exact pair_same hR0 (c_peace_o w0 x y hx) (m_peace_o hm x y hx) (by decide) (by decide)
theorem p_guard (hR : REL b w) (x y : Int32) : PAIR mX5_guard mX6_guard [.int x, .int y] b w := by
  have hR0 := hR
  obtain ⟨R, C, sz, rd, fr, lp, lps, sn, ik, ik', kb, kf, kl, kn, hh, ks, sts, sof, sso, rr, cc, cn, pg, ks2, sts2, sof2, rr2, cc2, cn2, K, hC, hS, hI, h4, hsz, hpg, hrd, hkb, hlps, hKI⟩ := hR
  have hV := hI.2.2.1
  have hN := hI.1
  obtain ⟨w0, wP, wG, wN, wK, wTr, wT, wD⟩ := id hC
  have wN : NOW w fr lp lps sn ks sts sof sso := wN
  have hSu := hS
  obtain ⟨wh, nc, nf, nl, tl, sd, a1, a2, a3, a4, a5, a6, hm, h34, h35, h36, h37, h38, h39, h40, h41, h42, h43, h44, h45, h46, h47, h48, h49, h50, h51, h52⟩ := hSu
  by_cases hx : inR x 5 = true ∧ inR y 2 = true
  · by_cases hl : lp = 0
    · subst hl
      exact pair_same hR0 (c_guard_s w0 wN x y hx.1 hx.2) (m_guard_s hm x y hx.1 hx.2) (by decide) (by decide)
    · obtain ⟨k, hk, rfl⟩ := inR_ex (by decide) hx.1
      obtain ⟨y, hy, rfl⟩ := inR_ex (by decide) hx.2
      have h := m_guard hm hN hV.1 hV.2.1 (by omega) k y hk hy
      rw [guardM_V hN hV.1] at h
      exact pair_same hR0 (c_guard w0 wG hN wN hV (by omega) k y hk hy) h (by decide) (by decide)
  · have hx : inR x 5 = false ∨ inR y 2 = false := by
      cases e1 : inR x 5 with
      | false => exact Or.inl rfl
      | true => cases e2 : inR y 2 with
        | false => exact Or.inr rfl
        | true => exact absurd ⟨e1, e2⟩ hx
    exact pair_same hR0 (c_guard_o w0 x y hx) (m_guard_o hm x y hx) (by decide) (by decide)
theorem p_parts (hR : REL b w) (x y : Int32) : PAIR mX5_parts mX6_parts [.int x, .int y] b w := by
  have hR0 := hR
  obtain ⟨R, C, sz, rd, fr, lp, lps, sn, ik, ik', kb, kf, kl, kn, hh, ks, sts, sof, sso, rr, cc, cn, pg, ks2, sts2, sof2, rr2, cc2, cn2, K, hC, hS, hI, h4, hsz, hpg, hrd, hkb, hlps, hKI⟩ := hR
  have hV := hI.2.2.1
  have hN := hI.1
  obtain ⟨w0, wP, wG, wN, wK, wTr, wT, wD⟩ := id hC
  have wN : NOW w fr lp lps sn ks sts sof sso := wN
  have hSu := hS
  obtain ⟨wh, nc, nf, nl, tl, sd, a1, a2, a3, a4, a5, a6, hm, h34, h35, h36, h37, h38, h39, h40, h41, h42, h43, h44, h45, h46, h47, h48, h49, h50, h51, h52⟩ := hSu
  by_cases hx : inR x 5 = true ∧ inR y 2 = true
  · by_cases hl : lp = 0
    · subst hl
      exact pair_same hR0 (c_parts_s w0 wN x y hx.1 hx.2) (m_parts_s hm x y hx.1 hx.2) (by decide) (by decide)
    · obtain ⟨k, hk, rfl⟩ := inR_ex (by decide) hx.1
      obtain ⟨y, hy, rfl⟩ := inR_ex (by decide) hx.2
      have h := m_parts hm hN hV.1 hV.2.1 (by omega) k y hk hy
      rw [partsM_V hN hI.2.1] at h
      exact pair_same hR0 (c_parts w0 wG hN wN hV (by omega) k y hk hy) h (by decide) (by decide)
  · have hx : inR x 5 = false ∨ inR y 2 = false := by
      cases e1 : inR x 5 with
      | false => exact Or.inl rfl
      | true => cases e2 : inR y 2 with
        | false => exact Or.inr rfl
        | true => exact absurd ⟨e1, e2⟩ hx
    exact pair_same hR0 (c_parts_o w0 x y hx) (m_parts_o hm x y hx) (by decide) (by decide)
theorem p_chance (hR : REL b w) (x y z : Int32) : PAIR mX5_chance mX6_chance [.int x, .int y, .int z] b w := by
  have hR0 := hR
  obtain ⟨R, C, sz, rd, fr, lp, lps, sn, ik, ik', kb, kf, kl, kn, hh, ks, sts, sof, sso, rr, cc, cn, pg, ks2, sts2, sof2, rr2, cc2, cn2, K, hC, hS, hI, h4, hsz, hpg, hrd, hkb, hlps, hKI⟩ := hR
  have hV := hI.2.2.1
  have hN := hI.1
  obtain ⟨w0, wP, wG, wN, wK, wTr, wT, wD⟩ := id hC
  have wN : NOW w fr lp lps sn ks sts sof sso := wN
  have hSu := hS
  obtain ⟨wh, nc, nf, nl, tl, sd, a1, a2, a3, a4, a5, a6, hm, h34, h35, h36, h37, h38, h39, h40, h41, h42, h43, h44, h45, h46, h47, h48, h49, h50, h51, h52⟩ := hSu
  by_cases hx : inR x lp = true ∧ inR y (R * C) = true
  · by_cases hz : inR z 7 = true
    · obtain ⟨j, hj, rfl⟩ := inR_ex (by have := hV.2.1; omega) hx.1
      obtain ⟨c, hc, rfl⟩ := inR_ex (by omega) hx.2
      obtain ⟨m, hm7, rfl⟩ := inR_ex (by decide) hz
      refine pair_read (kk := Value.int) hR0 (c_chance w0 wG hN wT wN hV j c m hj hc hm7) (fun u hu hRu => ?_) (d' := 5) (by decide) (by decide)
      refine J.conseq (s_chance (hu.F33.MS hS) hI j c m hj hc hm7) ?_
      rintro v x ⟨rfl, hx1, hx2⟩
      exact ⟨rfl, ⟨R, C, sz, rd, fr, lp, lps, sn, ik, ik', kb, kf, kl, kn, hh, ks, sts, sof, sso, rr, cc, cn, pg, ks2, sts2, sof2, rr2, cc2, cn2, K, (hx2.CW (hu.CW hC)), (hx1), hI, h4, hsz, hpg, (Nat.le_succ_of_le hrd), hkb, hlps, hKI⟩⟩
    · have hz : inR z 7 = false := by simpa using hz
      exact pair_same hR0 (c_chance_o w0 wG wN hV x y z hx.1 hx.2 hz) (m_chance_o hm hN hV.2.1 x y z hx.1 hx.2 hz) (by decide) (by decide)
  · have hx : inR x lp = false ∨ inR y (R * C) = false := by
      cases e1 : inR x lp with
      | false => exact Or.inl rfl
      | true => cases e2 : inR y (R * C) with
        | false => exact Or.inr rfl
        | true => exact absurd ⟨e1, e2⟩ hx
    exact pair_same hR0 (c_chance_u w0 wG wN hV x y z hx) (m_chance_u hm hN hV.2.1 x y z hx) (by decide) (by decide)
theorem see_b (y z : Nat) (q : Bool) (hy : y < 4) (hz : z < 4) : seeS y z q < 32 := by
  unfold seeS
  split
  · exact (ask_pop ⟨0, by decide⟩ ⟨y, hy⟩ ⟨z, hz⟩).2
  · exact Nat.lt_of_le_of_lt (sub_adl 31 _).le (by decide)
theorem p_see (hR : REL b w) (x y z : Int32) (q : Bool) : PAIR mX5_see mX6_see [.int x, .int y, .int z, .int (bI q)] b w := by
  have hR0 := hR
  obtain ⟨R, C, sz, rd, fr, lp, lps, sn, ik, ik', kb, kf, kl, kn, hh, ks, sts, sof, sso, rr, cc, cn, pg, ks2, sts2, sof2, rr2, cc2, cn2, K, hC, hS, hI, h4, hsz, hpg, hrd, hkb, hlps, hKI⟩ := hR
  have hV := hI.2.2.1
  have hI2 := hI
  obtain ⟨i1, i2, ⟨v1, v2, v3, v4, v5, v6, v7⟩, i4, i5, i6, i7, i8, i9⟩ := hI2
  have hSu := hS
  obtain ⟨wh, nc, nf, nl, tl, sd, a1, a2, a3, a4, a5, a6, hm, h34, h35, h36, h37, h38, h39, h40, h41, h42, h43, h44, h45, h46, h47, h48, h49, h50, h51, h52⟩ := hSu
  by_cases hx : inR x lp = true
  · by_cases hy : inR y 4 = true ∧ inR z 4 = true
    · obtain ⟨yy, hyy, rfl⟩ := inR_ex (by decide) hy.1
      obtain ⟨zz, hzz, rfl⟩ := inR_ex (by decide) hy.2
      by_cases h6 : sn = 6
      · subst h6
        exact pair_same hR0 (c_see_f hC hV x yy zz q hx hyy hzz rfl) (m_see_f hm v2 x yy zz q hx hyy hzz) (by decide) (by decide)
      · obtain ⟨j, hj, rfl⟩ := inR_ex (by omega) hx
        refine ⟨_, fun u => CW u R C sz pg ik rd ((fr, lp, lps, sn + 1), (ks, sts, un sof sn j, un sso sn (seeS yy zz q))) K ∧ F33 w u, (c_see hC hV j yy zz q hj hyy hzz (by omega)).mono (by decide), fun u hu => ?_⟩
        have hSu := hu.2.MS hS
        obtain ⟨wh, nc, nf, nl, tl, sd, a1, a2, a3, a4, a5, a6, hm, h34, h35, h36, h37, h38, h39, h40, h41, h42, h43, h44, h45, h46, h47, h48, h49, h50, h51, h52⟩ := hSu
        refine ⟨⟨_, hm⟩, ?_⟩
        refine J.conseq (JX.mono (m_see hm h36 h37 h38 h39 v2 j yy zz q hj hyy hzz (by omega)) (by decide)) ?_
        rintro v x ⟨rfl, rfl⟩
        have hq : q.toNat < 2 := by have := Bool.toNat_le q; omega
        have hI' : INV R C fr lp (sn + 1) ks sts (un sof sn j) (un sso sn (seeS yy zz q)) (un rr sn yy) (un cc sn zz) (un cn sn q.toNat) := by
          refine ⟨i1, i2, ⟨v1, v2, by omega, v4, v5, fun i => ?_, fun i => ?_⟩, fun i => ?_, fun i => ?_, fun i => ?_, fun i hi => ?_, i8, i9⟩
          · unfold un; split; omega; exact v6 i
          · unfold un; split; exact see_b yy zz q hyy hzz; exact v7 i
          · unfold un; split; exact hyy; exact i4 i
          · unfold un; split; exact hzz; exact i5 i
          · unfold un; split; exact hq; exact i6 i
          · by_cases e : i = sn
            · subst e
              rw [un_same, un_same, un_same, un_same]
              cases q <;> rfl
            · rw [un_ne e, un_ne e, un_ne e, un_ne e]
              exact i7 i (by omega)
        exact ⟨rfl, ⟨R, C, sz, rd, fr, lp, lps, (sn + 1), ik, ik', kb, kf, kl, kn, hh, ks, sts, (un sof sn j), (un sso sn (seeS yy zz q)), (un rr sn yy), (un cc sn zz), (un cn sn q.toNat), pg, ks2, sts2, sof2, rr2, cc2, cn2, K, (Fc.CW (((((Fc.rf.set (by decide)).set (by decide)).set (by decide)).set (by decide)).set (by decide)) hu.1), (⟨_, _, _, _, _, _, _, _, _, _, _, _, (by repeat (first | assumption | refine wset_ne (by decide) ?_ | exact wset_lt (by (try simp only [List.length_set]); exact wsome (by assumption)))), (by repeat (first | assumption | refine wset_ne (by decide) ?_ | exact wset_lt (by (try simp only [List.length_set]); exact wsome (by assumption)))), (by repeat (first | assumption | refine wset_ne (by decide) ?_ | exact wset_lt (by (try simp only [List.length_set]); exact wsome (by assumption)))), (by repeat (first | assumption | refine wset_ne (by decide) ?_ | exact wset_lt (by (try simp only [List.length_set]); exact wsome (by assumption)))), (by repeat (first | assumption | refine wset_ne (by decide) ?_ | exact wset_lt (by (try simp only [List.length_set]); exact wsome (by assumption)))), (by repeat (first | assumption | refine wset_ne (by decide) ?_ | exact wset_lt (by (try simp only [List.length_set]); exact wsome (by assumption)))), (by repeat (first | assumption | refine wset_ne (by decide) ?_ | exact wset_lt (by (try simp only [List.length_set]); exact wsome (by assumption)))), (by repeat (first | assumption | refine wset_ne (by decide) ?_ | exact wset_lt (by (try simp only [List.length_set]); exact wsome (by assumption)))), (by repeat (first | assumption | refine wset_ne (by decide) ?_ | exact wset_lt (by (try simp only [List.length_set]); exact wsome (by assumption)))), (by repeat (first | assumption | refine wset_ne (by decide) ?_ | exact wset_lt (by (try simp only [List.length_set]); exact wsome (by assumption)))), (by repeat (first | assumption | refine wset_ne (by decide) ?_ | exact wset_lt (by (try simp only [List.length_set]); exact wsome (by assumption)))), (by repeat (first | assumption | refine wset_ne (by decide) ?_ | exact wset_lt (by (try simp only [List.length_set]); exact wsome (by assumption)))), (by repeat (first | assumption | refine wset_ne (by decide) ?_ | exact wset_lt (by (try simp only [List.length_set]); exact wsome (by assumption)))), (by repeat (first | assumption | refine wset_ne (by decide) ?_ | exact wset_lt (by (try simp only [List.length_set]); exact wsome (by assumption)))), (by repeat (first | assumption | refine wset_ne (by decide) ?_ | exact wset_lt (by (try simp only [List.length_set]); exact wsome (by assumption)))), (by repeat (first | assumption | refine wset_ne (by decide) ?_ | exact wset_lt (by (try simp only [List.length_set]); exact wsome (by assumption)))), (by repeat (first | assumption | refine wset_ne (by decide) ?_ | exact wset_lt (by (try simp only [List.length_set]); exact wsome (by assumption)))), (by repeat (first | assumption | refine wset_ne (by decide) ?_ | exact wset_lt (by (try simp only [List.length_set]); exact wsome (by assumption)))), (by repeat (first | assumption | refine wset_ne (by decide) ?_ | exact wset_lt (by (try simp only [List.length_set]); exact wsome (by assumption)))), (by repeat (first | assumption | refine wset_ne (by decide) ?_ | exact wset_lt (by (try simp only [List.length_set]); exact wsome (by assumption))))⟩), (hI'), h4, hsz, hpg, (Nat.le_succ_of_le hrd), hkb, hlps, hKI⟩⟩
    · have hy : inR y 4 = false ∨ inR z 4 = false := by
        cases e1 : inR y 4 with
        | false => exact Or.inl rfl
        | true => cases e2 : inR z 4 with
          | false => exact Or.inr rfl
          | true => exact absurd ⟨e1, e2⟩ hy
      exact pair_same hR0 (c_see_o hC hV x y z q hx hy) (m_see_o hm v2 x y z q hx hy) (by decide) (by decide)
  · have hx : inR x lp = false := by simpa using hx
    exact pair_same hR0 (c_see_u hC hV x y z q hx) (m_see_u hm v2 x y z q hx) (by decide) (by decide)
theorem p_forget (hR : REL b w) : PAIR mX5_forget mX6_forget [] b w := by
  obtain ⟨R, C, sz, rd, fr, lp, lps, sn, ik, ik', kb, kf, kl, kn, hh, ks, sts, sof, sso, rr, cc, cn, pg, ks2, sts2, sof2, rr2, cc2, cn2, K, hC, hS, hI, h4, hsz, hpg, hrd, hkb, hlps, hKI⟩ := hR
  obtain ⟨i1, i2, ⟨v1, v2, v3, v4, v5, v6, v7⟩, i4, i5, i6, i7, i8, i9⟩ := hI
  refine ⟨_, fun u => CW u R C sz pg ik rd ((fr, lp, lps, 0), (ks, sts, sof, sso)) K ∧ F33 w u, (c_forget hC).mono (by decide), fun u hu => ?_⟩
  have hSu := hu.2.MS hS
  obtain ⟨wh, nc, nf, nl, tl, sd, a1, a2, a3, a4, a5, a6, hm, h34, h35, h36, h37, h38, h39, h40, h41, h42, h43, h44, h45, h46, h47, h48, h49, h50, h51, h52⟩ := hSu
  refine ⟨⟨_, hm⟩, ?_⟩
  refine J.conseq (JX.mono (m_forget hm) (by decide)) ?_
  rintro v x ⟨rfl, rfl⟩
  have hI' : INV R C fr lp 0 ks sts sof sso rr cc cn := ⟨i1, i2, ⟨v1, v2, Nat.zero_le _, v4, v5, v6, v7⟩, i4, i5, i6, fun i hi => absurd hi (Nat.not_lt_zero _), i8, i9⟩
  exact ⟨rfl, ⟨R, C, sz, rd, fr, lp, lps, (0), ik, ik', kb, kf, kl, kn, hh, ks, sts, sof, sso, rr, cc, cn, pg, ks2, sts2, sof2, rr2, cc2, cn2, K, (Fc.CW (Fc.rf.set (by decide)) hu.1), (⟨_, _, _, _, _, _, _, _, _, _, _, _, (by repeat (first | assumption | refine wset_ne (by decide) ?_ | exact wset_lt (by (try simp only [List.length_set]); exact wsome (by assumption)))), (by repeat (first | assumption | refine wset_ne (by decide) ?_ | exact wset_lt (by (try simp only [List.length_set]); exact wsome (by assumption)))), (by repeat (first | assumption | refine wset_ne (by decide) ?_ | exact wset_lt (by (try simp only [List.length_set]); exact wsome (by assumption)))), (by repeat (first | assumption | refine wset_ne (by decide) ?_ | exact wset_lt (by (try simp only [List.length_set]); exact wsome (by assumption)))), (by repeat (first | assumption | refine wset_ne (by decide) ?_ | exact wset_lt (by (try simp only [List.length_set]); exact wsome (by assumption)))), (by repeat (first | assumption | refine wset_ne (by decide) ?_ | exact wset_lt (by (try simp only [List.length_set]); exact wsome (by assumption)))), (by repeat (first | assumption | refine wset_ne (by decide) ?_ | exact wset_lt (by (try simp only [List.length_set]); exact wsome (by assumption)))), (by repeat (first | assumption | refine wset_ne (by decide) ?_ | exact wset_lt (by (try simp only [List.length_set]); exact wsome (by assumption)))), (by repeat (first | assumption | refine wset_ne (by decide) ?_ | exact wset_lt (by (try simp only [List.length_set]); exact wsome (by assumption)))), (by repeat (first | assumption | refine wset_ne (by decide) ?_ | exact wset_lt (by (try simp only [List.length_set]); exact wsome (by assumption)))), (by repeat (first | assumption | refine wset_ne (by decide) ?_ | exact wset_lt (by (try simp only [List.length_set]); exact wsome (by assumption)))), (by repeat (first | assumption | refine wset_ne (by decide) ?_ | exact wset_lt (by (try simp only [List.length_set]); exact wsome (by assumption)))), (by repeat (first | assumption | refine wset_ne (by decide) ?_ | exact wset_lt (by (try simp only [List.length_set]); exact wsome (by assumption)))), (by repeat (first | assumption | refine wset_ne (by decide) ?_ | exact wset_lt (by (try simp only [List.length_set]); exact wsome (by assumption)))), (by repeat (first | assumption | refine wset_ne (by decide) ?_ | exact wset_lt (by (try simp only [List.length_set]); exact wsome (by assumption)))), (by repeat (first | assumption | refine wset_ne (by decide) ?_ | exact wset_lt (by (try simp only [List.length_set]); exact wsome (by assumption)))), (by repeat (first | assumption | refine wset_ne (by decide) ?_ | exact wset_lt (by (try simp only [List.length_set]); exact wsome (by assumption)))), (by repeat (first | assumption | refine wset_ne (by decide) ?_ | exact wset_lt (by (try simp only [List.length_set]); exact wsome (by assumption)))), (by repeat (first | assumption | refine wset_ne (by decide) ?_ | exact wset_lt (by (try simp only [List.length_set]); exact wsome (by assumption)))), (by repeat (first | assumption | refine wset_ne (by decide) ?_ | exact wset_lt (by (try simp only [List.length_set]); exact wsome (by assumption))))⟩), (hI'), h4, hsz, hpg, (Nat.le_succ_of_le hrd), hkb, hlps, hKI⟩⟩
theorem p_walks (hR : REL b w) (x y z : Int32) : PAIR mX5_walks mX6_walks [.int x, .int y, .int z] b w := by
  have hR0 := hR
  obtain ⟨R, C, sz, rd, fr, lp, lps, sn, ik, ik', kb, kf, kl, kn, hh, ks, sts, sof, sso, rr, cc, cn, pg, ks2, sts2, sof2, rr2, cc2, cn2, K, hC, hS, hI, h4, hsz, hpg, hrd, hkb, hlps, hKI⟩ := hR
  have hV := hI.2.2.1
  have hN := hI.1
  have hsN := hI.sN
  have hSu := hS
  obtain ⟨wh, nc, nf, nl, tl, sd, a1, a2, a3, a4, a5, a6, hm, h34, h35, h36, h37, h38, h39, h40, h41, h42, h43, h44, h45, h46, h47, h48, h49, h50, h51, h52⟩ := hSu
  by_cases hx : x < 1 ∨ nI 60 < x ∨ y < 0 ∨ inR z 3 = false
  · exact pair_same hR0 (c_walks_o x y z hx) (m_walks_o x y z hx) (by decide) (by decide)
  · have h1 : ¬ x < 1 := fun q => hx (Or.inl q)
    have h2 : ¬ nI 60 < x := fun q => hx (Or.inr (Or.inl q))
    have h3 : ¬ y < 0 := fun q => hx (Or.inr (Or.inr (Or.inl q)))
    have h5 : inR z 3 = true := by
      cases e : inR z 3 with
      | true => rfl
      | false => exact absurd (Or.inr (Or.inr (Or.inr e))) hx
    have h0 : ¬ x < 0 := fun q => h1 (Int32.lt_trans q (by decide))
    obtain ⟨n, hn, rfl⟩ := nI_of h0
    obtain ⟨sd0, hsd, rfl⟩ := nI_of h3
    obtain ⟨k, hk, rfl⟩ := inR_ex (by decide) h5
    rw [show (1 : Int32) = nI 1 by decide, nI_ltI hn (by decide)] at h1
    rw [nI_ltI (by decide) hn] at h2
    by_cases hl : lp = 0
    · subst hl
      exact pair_same hR0 (c_walks_s hC n sd0 k (by omega) (by omega) hsd hk) (m_walks_s hm n sd0 k (by omega) (by omega) hsd hk) (by decide) (by decide)
    · refine ⟨_, fun u => CW u R C sz pg ik rd ((fr, lp, lps, sn), (ks, sts, sof, sso)) K ∧ F33 w u, (c_walks hC hN hV (by omega) n sd0 k (by omega) (by omega) hsd hk).mono (by decide), fun u hu => ?_⟩
      have hSu := hu.2.MS hS
      obtain ⟨wh, nc, nf, nl, tl, sd, a1, a2, a3, a4, a5, a6, hm, h34, h35, h36, h37, h38, h39, h40, h41, h42, h43, h44, h45, h46, h47, h48, h49, h50, h51, h52⟩ := hSu
      refine ⟨⟨_, hm⟩, ?_⟩
      refine J.conseq (JX.mono (m_walks hm h34 h35 h46 hN hV.1 hV.2.1 (by omega) hV.2.2.2.1 hV.2.2.2.2.1 hsN n sd0 k (by omega) (by omega) hsd hk) (by decide)) ?_
      rintro v x ⟨rfl, s', rfl⟩
      exact ⟨rfl, ⟨R, C, sz, rd, fr, lp, lps, sn, ik, ik', kb, kf, kl, kn, hh, ks, sts, sof, sso, rr, cc, cn, pg, ks2, sts2, sof2, rr2, cc2, cn2, K, (Fc.CW ((Fc.rf.set (by decide)).set (by decide)) hu.1), (⟨_, _, _, _, _, _, _, _, _, _, _, _, (by repeat (first | assumption | refine wset_ne (by decide) ?_ | exact wset_lt (by (try simp only [List.length_set]); exact wsome (by assumption)))), (by repeat (first | assumption | refine wset_ne (by decide) ?_ | exact wset_lt (by (try simp only [List.length_set]); exact wsome (by assumption)))), (by repeat (first | assumption | refine wset_ne (by decide) ?_ | exact wset_lt (by (try simp only [List.length_set]); exact wsome (by assumption)))), (by repeat (first | assumption | refine wset_ne (by decide) ?_ | exact wset_lt (by (try simp only [List.length_set]); exact wsome (by assumption)))), (by repeat (first | assumption | refine wset_ne (by decide) ?_ | exact wset_lt (by (try simp only [List.length_set]); exact wsome (by assumption)))), (by repeat (first | assumption | refine wset_ne (by decide) ?_ | exact wset_lt (by (try simp only [List.length_set]); exact wsome (by assumption)))), (by repeat (first | assumption | refine wset_ne (by decide) ?_ | exact wset_lt (by (try simp only [List.length_set]); exact wsome (by assumption)))), (by repeat (first | assumption | refine wset_ne (by decide) ?_ | exact wset_lt (by (try simp only [List.length_set]); exact wsome (by assumption)))), (by repeat (first | assumption | refine wset_ne (by decide) ?_ | exact wset_lt (by (try simp only [List.length_set]); exact wsome (by assumption)))), (by repeat (first | assumption | refine wset_ne (by decide) ?_ | exact wset_lt (by (try simp only [List.length_set]); exact wsome (by assumption)))), (by repeat (first | assumption | refine wset_ne (by decide) ?_ | exact wset_lt (by (try simp only [List.length_set]); exact wsome (by assumption)))), (by repeat (first | assumption | refine wset_ne (by decide) ?_ | exact wset_lt (by (try simp only [List.length_set]); exact wsome (by assumption)))), (by repeat (first | assumption | refine wset_ne (by decide) ?_ | exact wset_lt (by (try simp only [List.length_set]); exact wsome (by assumption)))), (by repeat (first | assumption | refine wset_ne (by decide) ?_ | exact wset_lt (by (try simp only [List.length_set]); exact wsome (by assumption)))), (by repeat (first | assumption | refine wset_ne (by decide) ?_ | exact wset_lt (by (try simp only [List.length_set]); exact wsome (by assumption)))), (by repeat (first | assumption | refine wset_ne (by decide) ?_ | exact wset_lt (by (try simp only [List.length_set]); exact wsome (by assumption)))), (by repeat (first | assumption | refine wset_ne (by decide) ?_ | exact wset_lt (by (try simp only [List.length_set]); exact wsome (by assumption)))), (by repeat (first | assumption | refine wset_ne (by decide) ?_ | exact wset_lt (by (try simp only [List.length_set]); exact wsome (by assumption)))), (by repeat (first | assumption | refine wset_ne (by decide) ?_ | exact wset_lt (by (try simp only [List.length_set]); exact wsome (by assumption)))), (by repeat (first | assumption | refine wset_ne (by decide) ?_ | exact wset_lt (by (try simp only [List.length_set]); exact wsome (by assumption))))⟩), hI, h4, hsz, hpg, (Nat.le_succ_of_le hrd), hkb, hlps, hKI⟩⟩
theorem p_image (hR : REL b w) : PAIR mX5_image mX6_image [] b w := by
  have hR0 := hR
  obtain ⟨R, C, sz, rd, fr, lp, lps, sn, ik, ik', kb, kf, kl, kn, hh, ks, sts, sof, sso, rr, cc, cn, pg, ks2, sts2, sof2, rr2, cc2, cn2, K, hC, hS, hI, h4, hsz, hpg, hrd, hkb, hlps, hKI⟩ := hR
  have hV := hI.2.2.1
  have hSu := hS
  obtain ⟨wh, nc, nf, nl, tl, sd, a1, a2, a3, a4, a5, a6, hm, h34, h35, h36, h37, h38, h39, h40, h41, h42, h43, h44, h45, h46, h47, h48, h49, h50, h51, h52⟩ := hSu
  by_cases hl : lp = 0
  · subst hl
    exact pair_same hR0 (c_image_s hC) (m_image_s hm) (by decide) (by decide)
  · refine ⟨_, fun u => CW u R C sz pg true rd ((fr, lp, lps, sn), (ks, sts, sof, sso)) ((fr, lp, lps, sn), (ks, sts, sof, sso)) ∧ F33 w u, (c_image hC (by omega) hV.2.1).mono (by decide), fun u hu => ?_⟩
    have hSu := hu.2.MS hS
    obtain ⟨wh, nc, nf, nl, tl, sd, a1, a2, a3, a4, a5, a6, hm, h34, h35, h36, h37, h38, h39, h40, h41, h42, h43, h44, h45, h46, h47, h48, h49, h50, h51, h52⟩ := hSu
    refine ⟨⟨_, hm⟩, ?_⟩
    refine J.conseq (JX.mono (m_image hm (by omega) hV.2.1 h34 h35 h36 h37 h38 h39 h47 h48 h49 h50 h51 h52) (by decide)) ?_
    rintro v x ⟨rfl, rfl⟩
    exact ⟨rfl, ⟨R, C, sz, rd, fr, lp, lps, sn, (true), (true), (rd), (fr), (lps), (sn), hh, ks, sts, sof, sso, rr, cc, cn, pg, (ks), (sts), (sof), (rr), (cc), (cn), (((fr, lp, lps, sn), (ks, sts, sof, sso))), (Fc.CW (((((((Fc.rf.set (by decide)).set (by decide)).set (by decide)).set (by decide)).set (by decide)).set (by decide)).set (by decide)) hu.1), (⟨_, _, _, _, _, _, _, _, _, _, _, _, (by repeat (first | assumption | refine wset_ne (by decide) ?_ | exact wset_lt (by (try simp only [List.length_set]); exact wsome (by assumption)))), (by repeat (first | assumption | refine wset_ne (by decide) ?_ | exact wset_lt (by (try simp only [List.length_set]); exact wsome (by assumption)))), (by repeat (first | assumption | refine wset_ne (by decide) ?_ | exact wset_lt (by (try simp only [List.length_set]); exact wsome (by assumption)))), (by repeat (first | assumption | refine wset_ne (by decide) ?_ | exact wset_lt (by (try simp only [List.length_set]); exact wsome (by assumption)))), (by repeat (first | assumption | refine wset_ne (by decide) ?_ | exact wset_lt (by (try simp only [List.length_set]); exact wsome (by assumption)))), (by repeat (first | assumption | refine wset_ne (by decide) ?_ | exact wset_lt (by (try simp only [List.length_set]); exact wsome (by assumption)))), (by repeat (first | assumption | refine wset_ne (by decide) ?_ | exact wset_lt (by (try simp only [List.length_set]); exact wsome (by assumption)))), (by repeat (first | assumption | refine wset_ne (by decide) ?_ | exact wset_lt (by (try simp only [List.length_set]); exact wsome (by assumption)))), (by repeat (first | assumption | refine wset_ne (by decide) ?_ | exact wset_lt (by (try simp only [List.length_set]); exact wsome (by assumption)))), (by repeat (first | assumption | refine wset_ne (by decide) ?_ | exact wset_lt (by (try simp only [List.length_set]); exact wsome (by assumption)))), (by repeat (first | assumption | refine wset_ne (by decide) ?_ | exact wset_lt (by (try simp only [List.length_set]); exact wsome (by assumption)))), (by repeat (first | assumption | refine wset_ne (by decide) ?_ | exact wset_lt (by (try simp only [List.length_set]); exact wsome (by assumption)))), (by repeat (first | assumption | refine wset_ne (by decide) ?_ | exact wset_lt (by (try simp only [List.length_set]); exact wsome (by assumption)))), (by repeat (first | assumption | refine wset_ne (by decide) ?_ | exact wset_lt (by (try simp only [List.length_set]); exact wsome (by assumption)))), (by repeat (first | assumption | refine wset_ne (by decide) ?_ | exact wset_lt (by (try simp only [List.length_set]); exact wsome (by assumption)))), (by repeat (first | assumption | refine wset_ne (by decide) ?_ | exact wset_lt (by (try simp only [List.length_set]); exact wsome (by assumption)))), (by repeat (first | assumption | refine wset_ne (by decide) ?_ | exact wset_lt (by (try simp only [List.length_set]); exact wsome (by assumption)))), (by repeat (first | assumption | refine wset_ne (by decide) ?_ | exact wset_lt (by (try simp only [List.length_set]); exact wsome (by assumption)))), (by repeat (first | assumption | refine wset_ne (by decide) ?_ | exact wset_lt (by (try simp only [List.length_set]); exact wsome (by assumption)))), (by repeat (first | assumption | refine wset_ne (by decide) ?_ | exact wset_lt (by (try simp only [List.length_set]); exact wsome (by assumption))))⟩), hI, h4, hsz, hpg, (Nat.le_succ_of_le hrd), (Nat.le_refl _), hlps, (⟨fun _ => ⟨rfl, rfl, hlps, sso, rfl, hI⟩, fun z => Bool.noConfusion z⟩)⟩⟩
theorem p_restore (hR : REL b w) (hb : b < 2 ^ 30) : PAIR mX5_restore mX6_restore [] b w := by
  have hR0 := hR
  obtain ⟨R, C, sz, rd, fr, lp, lps, sn, ik, ik', kb, kf, kl, kn, hh, ks, sts, sof, sso, rr, cc, cn, pg, ks2, sts2, sof2, rr2, cc2, cn2, K, hC, hS, hI, h4, hsz, hpg, hrd, hkb, hlps, hKI⟩ := hR
  have hV := hI.2.2.1
  have hSu := hS
  obtain ⟨wh, nc, nf, nl, tl, sd, a1, a2, a3, a4, a5, a6, hm, h34, h35, h36, h37, h38, h39, h40, h41, h42, h43, h44, h45, h46, h47, h48, h49, h50, h51, h52⟩ := hSu
  cases ik with
  | false => exact pair_same hR0 (c_restore_s hC) (m_restore_s hm (hKI.2 rfl) (by omega) (by omega)) (by decide) (by decide)
  | true =>
    obtain ⟨e1, e2, e3, sso2, e4, e5⟩ := hKI.1 rfl
    subst e1; subst e2; subst e4
    refine ⟨_, fun u => CW u R C sz pg true kb ((kf, lp, kl, kn), (ks2, sts2, sof2, sso2)) ((kf, lp, kl, kn), (ks2, sts2, sof2, sso2)) ∧ F33 w u, (c_restore hC).mono (by decide), fun u hu => ?_⟩
    have hSu := hu.2.MS hS
    obtain ⟨wh, nc, nf, nl, tl, sd, a1, a2, a3, a4, a5, a6, hm, h34, h35, h36, h37, h38, h39, h40, h41, h42, h43, h44, h45, h46, h47, h48, h49, h50, h51, h52⟩ := hSu
    refine ⟨⟨_, hm⟩, ?_⟩
    refine J.conseq (JX.mono (m_restore hm (by omega) h34 h35 h36 h37 h38 h39 h47 h48 h49 h50 h51 h52) (by decide)) ?_
    rintro v x ⟨rfl, rfl⟩
    exact ⟨rfl, ⟨R, C, sz, (kb), (kf), lp, (kl), (kn), (true), (true), kb, kf, kl, kn, hh, (ks2), (sts2), (sof2), (sso2), (rr2), (cc2), (cn2), pg, ks2, sts2, sof2, rr2, cc2, cn2, (((kf, lp, kl, kn), (ks2, sts2, sof2, sso2))), (Fc.CW (((((((Fc.rf.set (by decide)).set (by decide)).set (by decide)).set (by decide)).set (by decide)).set (by decide)).set (by decide)) hu.1), (⟨_, _, _, _, _, _, _, _, _, _, _, _, (by repeat (first | assumption | refine wset_ne (by decide) ?_ | exact wset_lt (by (try simp only [List.length_set]); exact wsome (by assumption)))), (by repeat (first | assumption | refine wset_ne (by decide) ?_ | exact wset_lt (by (try simp only [List.length_set]); exact wsome (by assumption)))), (by repeat (first | assumption | refine wset_ne (by decide) ?_ | exact wset_lt (by (try simp only [List.length_set]); exact wsome (by assumption)))), (by repeat (first | assumption | refine wset_ne (by decide) ?_ | exact wset_lt (by (try simp only [List.length_set]); exact wsome (by assumption)))), (by repeat (first | assumption | refine wset_ne (by decide) ?_ | exact wset_lt (by (try simp only [List.length_set]); exact wsome (by assumption)))), (by repeat (first | assumption | refine wset_ne (by decide) ?_ | exact wset_lt (by (try simp only [List.length_set]); exact wsome (by assumption)))), (by repeat (first | assumption | refine wset_ne (by decide) ?_ | exact wset_lt (by (try simp only [List.length_set]); exact wsome (by assumption)))), (by repeat (first | assumption | refine wset_ne (by decide) ?_ | exact wset_lt (by (try simp only [List.length_set]); exact wsome (by assumption)))), (by repeat (first | assumption | refine wset_ne (by decide) ?_ | exact wset_lt (by (try simp only [List.length_set]); exact wsome (by assumption)))), (by repeat (first | assumption | refine wset_ne (by decide) ?_ | exact wset_lt (by (try simp only [List.length_set]); exact wsome (by assumption)))), (by repeat (first | assumption | refine wset_ne (by decide) ?_ | exact wset_lt (by (try simp only [List.length_set]); exact wsome (by assumption)))), (by repeat (first | assumption | refine wset_ne (by decide) ?_ | exact wset_lt (by (try simp only [List.length_set]); exact wsome (by assumption)))), (by repeat (first | assumption | refine wset_ne (by decide) ?_ | exact wset_lt (by (try simp only [List.length_set]); exact wsome (by assumption)))), (by repeat (first | assumption | refine wset_ne (by decide) ?_ | exact wset_lt (by (try simp only [List.length_set]); exact wsome (by assumption)))), (by repeat (first | assumption | refine wset_ne (by decide) ?_ | exact wset_lt (by (try simp only [List.length_set]); exact wsome (by assumption)))), (by repeat (first | assumption | refine wset_ne (by decide) ?_ | exact wset_lt (by (try simp only [List.length_set]); exact wsome (by assumption)))), (by repeat (first | assumption | refine wset_ne (by decide) ?_ | exact wset_lt (by (try simp only [List.length_set]); exact wsome (by assumption)))), (by repeat (first | assumption | refine wset_ne (by decide) ?_ | exact wset_lt (by (try simp only [List.length_set]); exact wsome (by assumption)))), (by repeat (first | assumption | refine wset_ne (by decide) ?_ | exact wset_lt (by (try simp only [List.length_set]); exact wsome (by assumption)))), (by repeat (first | assumption | refine wset_ne (by decide) ?_ | exact wset_lt (by (try simp only [List.length_set]); exact wsome (by assumption))))⟩), (e5), h4, hsz, hpg, (Nat.le_succ_of_le hrd), hkb, (e3), (⟨fun _ => ⟨rfl, rfl, e3, sso2, rfl, e5⟩, fun z => Bool.noConfusion z⟩)⟩⟩
theorem p_count (hR : REL b w) (y : Int32) : PAIR mX5_count mX6_count [.int y] b w := by
  have hR0 := hR
  obtain ⟨R, C, sz, rd, fr, lp, lps, sn, ik, ik', kb, kf, kl, kn, hh, ks, sts, sof, sso, rr, cc, cn, pg, ks2, sts2, sof2, rr2, cc2, cn2, K, hC, hS, hI, h4, hsz, hpg, hrd, hkb, hlps, hKI⟩ := hR
  have hV := hI.2.2.1
  obtain ⟨w0, wP, wG, wN, wK, wTr, wT, wD⟩ := id hC
  have wN : NOW w fr lp lps sn ks sts sof sso := wN
  have hSu := hS
  obtain ⟨wh, nc, nf, nl, tl, sd, a1, a2, a3, a4, a5, a6, hm, h34, h35, h36, h37, h38, h39, h40, h41, h42, h43, h44, h45, h46, h47, h48, h49, h50, h51, h52⟩ := hSu
  by_cases hy : inR y 9 = true
  · obtain ⟨k, hk, rfl⟩ := inR_ex (by decide) hy
    exact pair_same hR0 (c_count w0 wG hI.1 wP.1 wN hV k hk) (m_count hm h34 h35 hI.1 hV.1 hV.2.1 hV.2.2.2.1 hV.2.2.2.2.1 hI.sN k hk) (by decide) (by decide)
  · have hy : inR y 9 = false := by simpa using hy
    exact pair_same hR0 (c_count_o y hy) (m_count_o hm y hy) (by decide) (by decide)
theorem p_digest (hR : REL b w) : PAIRV Value.long mX5_digest mX6_digest [] b w := by
  have hR0 := hR
  obtain ⟨R, C, sz, rd, fr, lp, lps, sn, ik, ik', kb, kf, kl, kn, hh, ks, sts, sof, sso, rr, cc, cn, pg, ks2, sts2, sof2, rr2, cc2, cn2, K, hC, hS, hI, h4, hsz, hpg, hrd, hkb, hlps, hKI⟩ := hR
  have hV := hI.2.2.1
  refine pair_read (kk := Value.long) hR0 (c_digest hC hI.1 hI.2.1 hV hI.sN h4 hsz) (fun u hu hRu => ?_) (d' := 8) (by decide) (by decide)
  refine J.conseq (s_digest (hu.F33.MS hS) hI h4 hsz hpg) ?_
  rintro v x ⟨rfl, ⟨hh', hx1⟩, hx2⟩
  exact ⟨rfl, ⟨R, C, sz, rd, fr, lp, lps, sn, ik, ik', kb, kf, kl, kn, (hh'), ks, sts, sof, sso, rr, cc, cn, pg, ks2, sts2, sof2, rr2, cc2, cn2, K, (hx2.CW (hu.CW hC)), (hx1), hI, h4, hsz, hpg, (Nat.le_succ_of_le hrd), hkb, hlps, hKI⟩⟩
end
