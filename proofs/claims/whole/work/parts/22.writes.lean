/-! ===== the class: its whole world, and what changes it ===== -/
def KEP (w : mW) (fr lp lps sn : Nat) (ks sts sof sso : Nat → Nat) : Prop := w[4]? = some (oS fr lp lps sn 19 20 21 22) ∧ w[19]? = some (nA 4 ks) ∧ w[20]? = some (nA 4 sts) ∧ w[21]? = some (nA 6 sof) ∧ w[22]? = some (nA 6 sso)
def TRI (w : mW) : Prop := ∃ (fr lp lps sn : Nat) (ks sts sof sso : Nat → Nat), w[5]? = some (oS fr lp lps sn 23 24 25 26) ∧ w[23]? = some (nA 4 ks) ∧ w[24]? = some (nA 4 sts) ∧ w[25]? = some (nA 6 sof) ∧ w[26]? = some (nA 6 sso)
def DRW (w : mW) : Prop := ∃ s : Nat, s < 2 ^ 31 ∧ w[7]? = some (oD s)
def PW (w : mW) (sz : Nat) (pg : Nat → Nat) : Prop := w[1]? = some (oP sz (if sz < 2 then nI 0 else clF pg sz)) ∧ w[8]? = some (nA 30 pg)
theorem GW.set {w : mW} {R C : Nat} (h : GW w R C) {i : Nat} {e : mE} (hi : i ≠ 2 ∧ i ≠ 9 ∧ i ≠ 10 ∧ i ≠ 11 ∧ i ≠ 12 ∧ i ≠ 13 ∧ i ≠ 14) : GW (w.set i e) R C := ⟨wset_ne (hi.1) (h.1), wset_ne (hi.2.1) (h.2.1), wset_ne (hi.2.2.1) (h.2.2.1), wset_ne (hi.2.2.2.1) (h.2.2.2.1), wset_ne (hi.2.2.2.2.1) (h.2.2.2.2.1), wset_ne (hi.2.2.2.2.2.1) (h.2.2.2.2.2.1), wset_ne (hi.2.2.2.2.2.2) (h.2.2.2.2.2.2)⟩
theorem NOW.set {w : mW} {fr lp lps sn : Nat} {ks sts sof sso : Nat → Nat} (h : NOW w fr lp lps sn ks sts sof sso) {i : Nat} {e : mE} (hi : i ≠ 3 ∧ i ≠ 15 ∧ i ≠ 16 ∧ i ≠ 17 ∧ i ≠ 18) : NOW (w.set i e) fr lp lps sn ks sts sof sso := ⟨wset_ne (hi.1) (h.1), wset_ne (hi.2.1) (h.2.1), wset_ne (hi.2.2.1) (h.2.2.1), wset_ne (hi.2.2.2.1) (h.2.2.2.1), wset_ne (hi.2.2.2.2) (h.2.2.2.2)⟩
theorem KEP.set {w : mW} {fr lp lps sn : Nat} {ks sts sof sso : Nat → Nat} (h : KEP w fr lp lps sn ks sts sof sso) {i : Nat} {e : mE} (hi : i ≠ 4 ∧ i ≠ 19 ∧ i ≠ 20 ∧ i ≠ 21 ∧ i ≠ 22) : KEP (w.set i e) fr lp lps sn ks sts sof sso := ⟨wset_ne (hi.1) (h.1), wset_ne (hi.2.1) (h.2.1), wset_ne (hi.2.2.1) (h.2.2.1), wset_ne (hi.2.2.2.1) (h.2.2.2.1), wset_ne (hi.2.2.2.2) (h.2.2.2.2)⟩
theorem PW.set {w : mW} {sz : Nat} {pg : Nat → Nat} (h : PW w sz pg) {i : Nat} {e : mE} (hi : i ≠ 1 ∧ i ≠ 8) : PW (w.set i e) sz pg := ⟨wset_ne hi.1 h.1, wset_ne hi.2 h.2⟩
theorem DRW.set {w : mW} (h : DRW w) {i : Nat} {e : mE} (hi : i ≠ 7) : DRW (w.set i e) := by
  obtain ⟨s, h1, h2⟩ := h
  exact ⟨s, h1, wset_ne hi h2⟩
theorem TRI.set {w : mW} (h : TRI w) {i : Nat} {e : mE} (hi : i ≠ 5 ∧ i ≠ 23 ∧ i ≠ 24 ∧ i ≠ 25 ∧ i ≠ 26) : TRI (w.set i e) := by
  obtain ⟨a, b, c, d, f, g, h, k, h1, h2, h3, h4, h5⟩ := h
  exact ⟨a, b, c, d, f, g, h, k, wset_ne hi.1 h1, wset_ne hi.2.1 h2, wset_ne hi.2.2.1 h3, wset_ne hi.2.2.2.1 h4, wset_ne hi.2.2.2.2 h5⟩
abbrev Sc : Type := (Nat × Nat × Nat × Nat) × ((Nat → Nat) × (Nat → Nat) × (Nat → Nat) × (Nat → Nat))
def NOWs (w : mW) (N : Sc) : Prop := NOW w N.1.1 N.1.2.1 N.1.2.2.1 N.1.2.2.2 N.2.1 N.2.2.1 N.2.2.2.1 N.2.2.2.2
def KEPs (w : mW) (N : Sc) : Prop := KEP w N.1.1 N.1.2.1 N.1.2.2.1 N.1.2.2.2 N.2.1 N.2.2.1 N.2.2.2.1 N.2.2.2.2
def SVs (N : Sc) : Prop := SV N.1.1 N.1.2.1 N.1.2.2.2 N.2.1 N.2.2.1 N.2.2.2.1 N.2.2.2.2
theorem NOWs.set {w : mW} {N : Sc} (h : NOWs w N) {i : Nat} {e : mE} (hi : i ≠ 3 ∧ i ≠ 15 ∧ i ≠ 16 ∧ i ≠ 17 ∧ i ≠ 18) : NOWs (w.set i e) N := NOW.set h hi
theorem KEPs.set {w : mW} {N : Sc} (h : KEPs w N) {i : Nat} {e : mE} (hi : i ≠ 4 ∧ i ≠ 19 ∧ i ≠ 20 ∧ i ≠ 21 ∧ i ≠ 22) : KEPs (w.set i e) N := KEP.set h hi
/-- the class's whole world -/
def CW (w : mW) (R C sz : Nat) (pg : Nat → Nat) (ik : Bool) (rd : Nat) (N K : Sc) : Prop :=
  w[0]? = some (oB ik rd) ∧ PW w sz pg ∧ GW w R C ∧ NOWs w N ∧ KEPs w K ∧ TRI w ∧ TW w ∧ DRW w
def F33 (w u : mW) : Prop := ∀ i, 33 ≤ i → u[i]? = w[i]?
theorem F33.rf {w : mW} : F33 w w := fun _ _ => rfl
theorem F33.set {w u : mW} (h : F33 w u) {i : Nat} {e : mE} (hi : i < 33) : F33 w (u.set i e) := fun j hj => by rw [List.getElem?_set, if_neg (by omega)]; exact h j hj
theorem Keep.CW {w u : mW} {R C sz : Nat} {pg : Nat → Nat} {ik : Bool} {rd : Nat} {N K : Sc} (h : Keep w u) (hc : CW w R C sz pg ik rd N K) : CW u R C sz pg ik rd N K := by
  obtain ⟨h0, ⟨p1, p2⟩, hG, hN, ⟨k1, k2, k3, k4, k5⟩, ⟨a, b, c, d, e, f, g, i, t1, t2, t3, t4, t5⟩, hT, ⟨s, hs, hd⟩⟩ := hc
  exact ⟨h.get h0 (by decide), ⟨h.get p1 (by decide), h.get p2 (by decide)⟩, h.GW hG, h.NOW hN, ⟨h.get k1 (by decide), h.get k2 (by decide), h.get k3 (by decide), h.get k4 (by decide), h.get k5 (by decide)⟩, ⟨a, b, c, d, e, f, g, i, h.get t1 (by decide), h.get t2 (by decide), h.get t3 (by decide), h.get t4 (by decide), h.get t5 (by decide)⟩, h.2, ⟨s, hs, h.get hd (by decide)⟩⟩
theorem Keep.F33 {w u : mW} (h : Keep w u) : F33 w u := fun i hi => h.1 i (Or.inr hi)
/-! the nth of a set -/
def nthD (S n : Nat) : Nat := (nth S n).getD 0
theorem nthFrom_spec (S n : Nat) : ∀ (k i a : Nat), a ≤ n → n < sizeFrom S k i a → ∃ j, nthFrom S n k i a = some j ∧ i ≤ j ∧ j < i + k ∧ S.testBit j = true := by
  intro k
  induction k with
  | zero => intro i a h1 h2; exact absurd h2 (Nat.not_lt.mpr h1)
  | succ k ih =>
    intro i a h1 h2
    simp only [sizeFrom] at h2
    by_cases hb : S.testBit i = true
    · by_cases he : a = n
      · exact ⟨i, by simp [nthFrom, hb, he], Nat.le_refl _, by omega, hb⟩
      · rw [hb] at h2
        obtain ⟨j, q1, q2, q3, q4⟩ := ih (i + 1) (a + 1) (by omega) h2
        exact ⟨j, by simp only [nthFrom, hb, he, if_true, if_false]; exact q1, by omega, by omega, q4⟩
    · have hf : S.testBit i = false := by simpa using hb
      rw [hf] at h2
      obtain ⟨j, q1, q2, q3, q4⟩ := ih (i + 1) a h1 h2
      exact ⟨j, by simp only [nthFrom, hf]; exact q1, by omega, by omega, q4⟩
theorem nth_spec {S n : Nat} (h : n < pop S) : nth S n = some (nthD S n) ∧ nthD S n < 12 ∧ S.testBit (nthD S n) = true := by
  obtain ⟨j, q1, q2, q3, q4⟩ := nthFrom_spec S n 12 0 0 (Nat.zero_le _) h
  have e : nth S n = some j := q1
  have e2 : nthD S n = j := by unfold nthD; rw [e]; rfl
  rw [e2]
  exact ⟨e, by omega, q4⟩
theorem pop_pos {S : Nat} (hS : S < 4096) (h0 : S ≠ 0) : 0 < pop S := by
  have hl := low_spec hS h0
  have : ∀ (k i m : Nat), m ≤ sizeFrom S k i m ∧ (∀ j, i ≤ j → j < i + k → S.testBit j = true → m < sizeFrom S k i m) := by
    intro k
    induction k with
    | zero => intro i m; exact ⟨Nat.le_refl _, fun j h1 h2 => by omega⟩
    | succ k ih =>
      intro i m
      obtain ⟨a1, a2⟩ := ih (i + 1) (m + (S.testBit i).toNat)
      simp only [sizeFrom]
      refine ⟨by omega, fun j h1 h2 h3 => ?_⟩
      by_cases e : j = i
      · subst e; rw [h3] at a1 ⊢; simp only [Bool.toNat_true] at a1 ⊢; omega
      · have := a2 j (by omega) (by omega) h3; omega
  exact (this 12 0 0).2 (low S) (Nat.zero_le _) (by omega) hl.2.2.1
theorem c_nthD {w : mW} (S n : Nat) (hS : S < 4096) (h : n < pop S) : JR 1 mX5_nthOf [.int (nI S), .int (nI n)] w (.int (nI (nthD S n))) w := by
  have hp := pop_le S
  have h2 := c_nthOf (w := w) S n (by omega) (by omega)
  rw [(nth_spec h).1] at h2
  exact h2
section
variable {w : mW} {R C sz rd : Nat} {pg : Nat → Nat} {ik : Bool} {N K : Sc}
theorem c_letter_o (x : Int32) (hx : x < 32 ∨ 126 < x) : JR 3 mX5_letter [.ref 0, .int x] w (.int (-102)) w := by
  refine j_start (ls := [.ref 0, .int x]) rfl ?_
  refine j_iload_n iX5_letter_0 rfl ?_
  refine j_bipush (v := nI 32) iX5_letter_1 (by decide) ?_
  refine j_icmp_lt (tgt := 12) iX5_letter_3 (by decide) (fun h3 => ?_) (fun h3 => ?_)
  · refine j_bipush (v := (-102)) iX5_letter_12 (by decide) ?_
    refine j_iret iX5_letter_14 rfl (by first | rfl | exact nar_bI _ | exact nar_bP) (⟨rfl, rfl⟩)
  · refine j_iload_n iX5_letter_6 rfl ?_
    refine j_bipush (v := nI 126) iX5_letter_7 (by decide) ?_
    refine j_icmp_le (tgt := 15) iX5_letter_9 (by decide) (fun hno => by first | exact absurd hno (by rcases hx with q | q; (exact absurd q h3); exact Int32.not_le.mpr q) | exact absurd (by rcases hx with q | q; (exact absurd q h3); exact Int32.not_le.mpr q) hno) (fun _ => ?_)
    refine j_bipush (v := (-102)) iX5_letter_12 (by decide) ?_
    refine j_iret iX5_letter_14 rfl (by first | rfl | exact nar_bI _ | exact nar_bP) (⟨rfl, rfl⟩)
theorem c_letter_f (hC : CW w R C 30 pg ik rd N K) (c : Nat) (h1 : 32 ≤ c) (h2 : c ≤ 126) : JR 3 mX5_letter [.ref 0, .int (nI c)] w (.int (-104)) w := by
  obtain ⟨h0, ⟨p1, p2⟩, -⟩ := hC
  refine j_start (ls := [.ref 0, .int (nI c)]) rfl ?_
  refine j_iload_n iX5_letter_0 rfl ?_
  refine j_bipush (v := nI 32) iX5_letter_1 (by decide) ?_
  refine j_icmp_ltN (tgt := 12) iX5_letter_3 (by decide) (by omega) (by omega) (fun hno => by exfalso; omega) (fun _ => ?_)
  refine j_iload_n iX5_letter_6 rfl ?_
  refine j_bipush (v := nI 126) iX5_letter_7 (by decide) ?_
  refine j_icmp_leN (tgt := 15) iX5_letter_9 (by decide) (by omega) (by omega) (fun _ => ?_) (fun hno => by exfalso; omega)
  refine j_aload_n iX5_letter_15 rfl ?_
  refine j_get fk_X5_10 iX5_letter_16 (by repeat (first | assumption | refine wset_ne (by decide) ?_ | exact wset_lt (by (try simp only [List.length_set]); exact wsome (by assumption)))) (by rfl) ?_
  refine j_iload_n iX5_letter_19 rfl ?_
  refine j_V1R okX2_put lk_X5_58 iX5_letter_20 (by omega) (by repeat (first | assumption | refine wset_ne (by decide) ?_ | exact wset_lt (by (try simp only [List.length_set]); exact wsome (by assumption)))) rfl (c_put30 p1 _) rfl (Nat.le_of_ble_eq_true rfl) (Nat.le_of_ble_eq_true rfl) ?_
  refine j_if_eqB (tgt := 36) iX5_letter_23 (by decide) (fun _ => ?_) (fun hno => Bool.noConfusion (hno.symm.trans (show _ = false from rfl)))
  refine j_bipush (v := (-104)) iX5_letter_36 (by decide) ?_
  refine j_iret iX5_letter_38 rfl (by first | rfl | exact nar_bI _ | exact nar_bP) (⟨rfl, rfl⟩)
theorem clF_ext {pg pg' : Nat → Nat} {sz sz' : Nat} (h0 : atF pg sz 0 = atF pg' sz' 0) (h1 : atF pg sz 1 = atF pg' sz' 1) : clF pg sz = clF pg' sz' := by
  unfold clF; rw [h0, h1]
theorem c_letter (hC : CW w R C sz pg ik rd N K) (hsz : sz < 30) (c : Nat) (h1 : 32 ≤ c) (h2 : c ≤ 126) : JX 3 mX5_letter [.ref 0, .int (nI c)] w (fun v u => v = some (.int (nI (sz + 1))) ∧ CW u R C (sz + 1) (un pg sz c) ik rd N K ∧ F33 w u) := by
  obtain ⟨h0, ⟨p1, p2⟩, hG, hN, hK, hTr, hT, hD⟩ := hC
  have hw1 : ((w.set 8 (nA 30 (un pg sz c))).set 1 (oP (sz + 1) (if sz + 1 = 2 then clF (un pg sz c) (sz + 1) else (if sz < 2 then nI 0 else clF pg sz))))[1]? = some (oP (sz + 1) (if sz + 1 = 2 then clF (un pg sz c) (sz + 1) else (if sz < 2 then nI 0 else clF pg sz))) := (by repeat (first | assumption | refine wset_ne (by decide) ?_ | exact wset_lt (by (try simp only [List.length_set]); exact wsome (by assumption))))
  have hw8 : ((w.set 8 (nA 30 (un pg sz c))).set 1 (oP (sz + 1) (if sz + 1 = 2 then clF (un pg sz c) (sz + 1) else (if sz < 2 then nI 0 else clF pg sz))))[8]? = some (nA 30 (un pg sz c)) := (by repeat (first | assumption | refine wset_ne (by decide) ?_ | exact wset_lt (by (try simp only [List.length_set]); exact wsome (by assumption))))
  have hw0 : ((w.set 8 (nA 30 (un pg sz c))).set 1 (oP (sz + 1) (if sz + 1 = 2 then clF (un pg sz c) (sz + 1) else (if sz < 2 then nI 0 else clF pg sz))))[0]? = some (oB ik rd) := (by repeat (first | assumption | refine wset_ne (by decide) ?_ | exact wset_lt (by (try simp only [List.length_set]); exact wsome (by assumption))))
  have e : (if sz + 1 = 2 then clF (un pg sz c) (sz + 1) else (if sz < 2 then nI 0 else clF pg sz)) = if sz + 1 < 2 then nI 0 else clF (un pg sz c) (sz + 1) := by
    by_cases a : sz + 1 = 2
    · rw [if_pos a, if_neg (by omega)]
    · rw [if_neg a]
      by_cases b : sz < 2
      · rw [if_pos b, if_pos (by omega)]
      · rw [if_neg b, if_neg (by omega)]
        exact clF_ext (by unfold atF; rw [if_pos (by omega), if_pos (by omega), un_ne (by omega)]) (by unfold atF; rw [if_pos (by omega), if_pos (by omega), un_ne (by omega)])
  refine j_start (ls := [.ref 0, .int (nI c)]) rfl ?_
  refine j_iload_n iX5_letter_0 rfl ?_
  refine j_bipush (v := nI 32) iX5_letter_1 (by decide) ?_
  refine j_icmp_ltN (tgt := 12) iX5_letter_3 (by decide) (by omega) (by omega) (fun hno => by exfalso; omega) (fun _ => ?_)
  refine j_iload_n iX5_letter_6 rfl ?_
  refine j_bipush (v := nI 126) iX5_letter_7 (by decide) ?_
  refine j_icmp_leN (tgt := 15) iX5_letter_9 (by decide) (by omega) (by omega) (fun _ => ?_) (fun hno => by exfalso; omega)
  refine j_aload_n iX5_letter_15 rfl ?_
  refine j_get fk_X5_10 iX5_letter_16 (by repeat (first | assumption | refine wset_ne (by decide) ?_ | exact wset_lt (by (try simp only [List.length_set]); exact wsome (by assumption)))) (by rfl) ?_
  refine j_iload_n iX5_letter_19 rfl ?_
  refine j_V1R okX2_put lk_X5_58 iX5_letter_20 (by omega) (by repeat (first | assumption | refine wset_ne (by decide) ?_ | exact wset_lt (by (try simp only [List.length_set]); exact wsome (by assumption)))) rfl (c_put p1 p2 hsz c) rfl (Nat.le_of_ble_eq_true rfl) (Nat.le_of_ble_eq_true rfl) ?_
  refine j_if_eqB (tgt := 36) iX5_letter_23 (by decide) (fun hno => Bool.noConfusion (hno.symm.trans (show _ = true from rfl))) (fun _ => ?_)
  refine j_aload_n iX5_letter_26 rfl ?_
  refine j_get fk_X5_10 iX5_letter_27 (by repeat (first | assumption | refine wset_ne (by decide) ?_ | exact wset_lt (by (try simp only [List.length_set]); exact wsome (by assumption)))) (by rfl) ?_
  refine j_get fk_X5_62 iX5_letter_30 (by repeat (first | assumption | refine wset_ne (by decide) ?_ | exact wset_lt (by (try simp only [List.length_set]); exact wsome (by assumption)))) (by rfl) ?_
  refine j_goto (tgt := 38) iX5_letter_33 (by decide) ?_
  refine j_iret iX5_letter_38 rfl (by first | rfl | exact nar_bI _ | exact nar_bP) (⟨rfl, ⟨hw0, ⟨by rw [hw1, e], hw8⟩, (hG.set (by decide)).set (by decide), (hN.set (by decide)).set (by decide), (hK.set (by decide)).set (by decide), (hTr.set (by decide)).set (by decide), (hT.set (by decide)).set (by decide), (hD.set (by decide)).set (by decide)⟩, (F33.rf.set (by decide)).set (by decide)⟩)
theorem c_blank (hC : CW w R C sz pg ik rd N K) : JX 1 mX5_blank [.ref 0] w (fun v u => v = some (.int (nI sz)) ∧ CW u R C 0 pg ik rd N K ∧ F33 w u) := by
  obtain ⟨h0, ⟨p1, p2⟩, hG, hN, hK, hTr, hT, hD⟩ := hC
  refine j_start (ls := [.ref 0]) rfl ?_
  refine j_aload_n iX5_blank_0 rfl ?_
  refine j_get fk_X5_10 iX5_blank_1 (by repeat (first | assumption | refine wset_ne (by decide) ?_ | exact wset_lt (by (try simp only [List.length_set]); exact wsome (by assumption)))) (by rfl) ?_
  refine j_V0R okX2_clear lk_X5_65 iX5_blank_4 (by omega) (by repeat (first | assumption | refine wset_ne (by decide) ?_ | exact wset_lt (by (try simp only [List.length_set]); exact wsome (by assumption)))) rfl (c_clear p1) rfl (Nat.le_of_ble_eq_true rfl) (Nat.le_of_ble_eq_true rfl) ?_
  refine j_iret iX5_blank_7 rfl (by first | rfl | exact nar_bI _ | exact nar_bP) (⟨rfl, ⟨(by repeat (first | assumption | refine wset_ne (by decide) ?_ | exact wset_lt (by (try simp only [List.length_set]); exact wsome (by assumption)))), ⟨(by repeat (first | assumption | refine wset_ne (by decide) ?_ | exact wset_lt (by (try simp only [List.length_set]); exact wsome (by assumption)))), (by repeat (first | assumption | refine wset_ne (by decide) ?_ | exact wset_lt (by (try simp only [List.length_set]); exact wsome (by assumption))))⟩, hG.set (by decide), hN.set (by decide), hK.set (by decide), hTr.set (by decide), hT.set (by decide), hD.set (by decide)⟩, F33.rf.set (by decide)⟩)
theorem c_fault (hC : CW w R C sz pg ik rd N K) (hsz : sz ≤ 30) (hpg : ∀ i, pg i < 127) : JR 7 mX5_fault [.ref 0] w (.int (nI (faultF pg sz))) w := by
  obtain ⟨h0, ⟨p1, p2⟩, -⟩ := hC
  refine j_start (ls := [.ref 0]) rfl ?_
  refine j_aload_n iX5_fault_0 rfl ?_
  refine j_get fk_X5_10 iX5_fault_1 (by repeat (first | assumption | refine wset_ne (by decide) ?_ | exact wset_lt (by (try simp only [List.length_set]); exact wsome (by assumption)))) (by rfl) ?_
  refine j_V0R okX2_firstFault lk_X5_69 iX5_fault_4 (by omega) (by repeat (first | assumption | refine wset_ne (by decide) ?_ | exact wset_lt (by (try simp only [List.length_set]); exact wsome (by assumption)))) rfl (c_firstFault p1 p2 hsz hpg (fun h => if_neg (by omega))) rfl (Nat.le_of_ble_eq_true rfl) (Nat.le_of_ble_eq_true rfl) ?_
  refine j_iret iX5_fault_7 rfl (by first | rfl | exact nar_bI _ | exact nar_bP) (⟨rfl, rfl⟩)
theorem c_board_s (hC : CW w R C sz pg ik rd N K) (hsz : sz ≤ 30) (hpg : ∀ i, pg i < 127) (hw : wholeF pg sz = false) : JR 8 mX5_board [.ref 0] w (.int (-103)) w := by
  obtain ⟨h0, ⟨p1, p2⟩, -⟩ := hC
  refine j_start (ls := [.ref 0, .null]) rfl ?_
  refine j_aload_n iX5_board_0 rfl ?_
  refine j_get fk_X5_10 iX5_board_1 (by repeat (first | assumption | refine wset_ne (by decide) ?_ | exact wset_lt (by (try simp only [List.length_set]); exact wsome (by assumption)))) (by rfl) ?_
  refine j_V0R okX2_isWhole lk_X5_72 iX5_board_4 (by omega) (by repeat (first | assumption | refine wset_ne (by decide) ?_ | exact wset_lt (by (try simp only [List.length_set]); exact wsome (by assumption)))) rfl (c_isWhole p1 p2 hsz hpg rfl) rfl (Nat.le_of_ble_eq_true rfl) (Nat.le_of_ble_eq_true rfl) ?_
  refine j_if_neB (tgt := 13) iX5_board_7 (by decide) (fun hno => Bool.noConfusion (hno.symm.trans (show _ = false from hw))) (fun _ => ?_)
  refine j_bipush (v := (-103)) iX5_board_10 (by decide) ?_
  refine j_iret iX5_board_12 rfl (by first | rfl | exact nar_bI _ | exact nar_bP) (⟨rfl, rfl⟩)
def kdF (pg : Nat → Nat) (l : Nat) : Nat := (kindIx (pg (4 + nF pg + 3 * l))).getD 0
def stF (pg : Nat → Nat) (l : Nat) : Nat := pg (4 + nF pg + 3 * l + 1) - 97
def lpF (pg : Nat → Nat) (sz : Nat) : Nat := (sz - (4 + nF pg) + 1) / 3
theorem whole_spec {pg : Nat → Nat} {sz : Nat} (h : wholeF pg sz = true) : 48 ≤ pg 0 ∧ 48 ≤ pg 1 ∧ 2 ≤ pg 0 - 48 ∧ pg 0 - 48 ≤ 3 ∧ 2 ≤ pg 1 - 48 ∧ pg 1 - 48 ≤ 4 ∧ 4 ≤ nF pg ∧ nF pg ≤ 12 ∧ 2 ≤ sz ∧ 1 ≤ lpF pg sz ∧ lpF pg sz ≤ 4 ∧ 4 + nF pg + 3 * lpF pg sz = sz + 1 ∧
    ∀ l, l < lpF pg sz → kindIx (pg (4 + nF pg + 3 * l)) = some (kdF pg l) ∧ kdF pg l < 5 ∧ 97 ≤ pg (4 + nF pg + 3 * l + 1) ∧ stF pg l < nF pg ∧ openF pg (nF pg) l = true := by
  simp only [wholeF, decide_eq_true_eq] at h
  obtain ⟨h1, h2, h3, h4⟩ := h
  have hn := fault_N h1 h2
  have hall := ftFrom_all sz 0 (by rw [Nat.zero_add]; exact h1)
  have hfit : ∀ q, 4 + nF pg ≤ q → q < sz → fitsF pg (nF pg) q = if (q - (4 + nF pg)) % 3 = 0 then (kindIx (pg q)).isSome else if (q - (4 + nF pg)) % 3 = 1 then openF pg (nF pg) ((q - (4 + nF pg)) / 3) else decide (pg q = 44 ∧ (q - (4 + nF pg)) / 3 < 3) := by
    intro q q1 q2
    unfold fitsF
    rw [if_neg (by omega), if_neg (by omega), if_neg (by omega), if_neg (by omega)]
  have hL : 4 + nF pg + 3 * lpF pg sz = sz + 1 := by unfold lpF; omega
  have hL4 : lpF pg sz ≤ 4 := by
    apply Nat.le_of_not_lt
    intro z
    have e := hall (4 + nF pg + 11) (Nat.zero_le _) (by omega)
    rw [hfit _ (by omega) (by omega), if_neg (by omega), if_neg (by omega)] at e
    have := of_decide_eq_true e
    omega
  refine ⟨hn.1, hn.2.1, hn.2.2.2.2.1, hn.2.2.2.2.2.1, hn.2.2.2.2.2.2.1, hn.2.2.2.2.2.2.2, hn.2.2.1, hn.2.2.2.1, h2, by omega, hL4, hL, fun l hl => ?_⟩
  have e1 := hall (4 + nF pg + 3 * l) (Nat.zero_le _) (by omega)
  rw [hfit _ (by omega) (by omega), if_pos (by omega)] at e1
  have e2 := hall (4 + nF pg + 3 * l + 1) (Nat.zero_le _) (by omega)
  rw [hfit _ (by omega) (by omega), if_neg (by omega), if_pos (by omega), show (4 + nF pg + 3 * l + 1 - (4 + nF pg)) / 3 = l by omega] at e2
  have e3 : kindIx (pg (4 + nF pg + 3 * l)) = some (kdF pg l) := by
    unfold kdF
    cases hk : kindIx (pg (4 + nF pg + 3 * l)) with
    | none => rw [hk] at e1; cases e1
    | some k => rfl
  have e4 := e2
  unfold openF at e4
  split at e4
  · rename_i hq
    exact ⟨e3, kindIx_lt e3, hq.1, by unfold stF; omega, e2⟩
  · cases e4
theorem lay_eq {R C : Nat} {w : mW} : layW R C w = (((((w.set 2 (oG R C (R * C) 9)).set 10 (nA 12 (fanF C (R * C) 0))).set 11 (nA 12 (fanF C (R * C) 1))).set 12 (nA 12 (fanF C (R * C) 2))).set 13 (nA 12 (fanF C (R * C) 3))).set 14 (nA 12 (fanF C (R * C) 4)) := rfl
/-- f's first n, else g -/
def upto (n : Nat) (f g : Nat → Nat) : Nat → Nat := fun j => if j < n then f j else g j
theorem upto_0 (f g : Nat → Nat) : upto 0 f g = g := by funext j; exact if_neg (Nat.not_lt_zero _)
theorem upto_s (n : Nat) (f g : Nat → Nat) : un (upto n f g) n (f n) = upto (n + 1) f g := by
  funext j
  unfold un upto
  by_cases h : j = n
  · subst h; rw [if_pos rfl, if_pos (by omega)]
  · rw [if_neg h]
    by_cases h2 : j < n
    · rw [if_pos h2, if_pos (by omega)]
    · rw [if_neg h2, if_neg (by omega)]
theorem c_board (hC : CW w R C sz pg ik rd N K) (hsz : sz ≤ 30) (hpg : ∀ i, pg i < 127) (hw : wholeF pg sz = true) :
    JX 8 mX5_board [.ref 0] w (fun v u => v = some (.int (nI (nF pg))) ∧ CW u (pg 0 - 48) (pg 1 - 48) 0 pg false (rd + 1) ((freeF pg (nF pg), lpF pg sz, 0, 0), (upto (lpF pg sz) (kdF pg) N.2.1, upto (lpF pg sz) (stF pg) N.2.2.1, N.2.2.2.1, N.2.2.2.2)) K ∧ F33 w u) := by
  obtain ⟨h0, ⟨p1, p2⟩, hG, hN, hK, hTr, hT, hD⟩ := hC
  obtain ⟨q1, q2, q3, q4, q5, q6, q7, q8, q9, q10, q11, q12, q13⟩ := whole_spec hw
  obtain ⟨⟨fr, lp, lps, sn⟩, ks, sts, sof, sso⟩ := N
  obtain ⟨s3, s15, s16, s17, s18⟩ := id hN
  obtain ⟨g2, g9, g10, g11, g12, g13, g14⟩ := id hG
  have hcl : (if sz < 2 then nI 0 else clF pg sz) = nI (nF pg) := by rw [if_neg (by omega)]; exact clF_N q9 q1 q2
  rw [hcl] at p1
  have hR : atF pg sz 0 - nI 48 = nI (pg 0 - 48) := by unfold atF; rw [if_pos (by omega), pk_sub q1]
  have hCc : atF pg sz 1 - nI 48 = nI (pg 1 - 48) := by unfold atF; rw [if_pos (by omega), pk_sub q2]
  have hRC : (pg 0 - 48) * (pg 1 - 48) = nF pg := rfl
  have L : ∀ (V : mW), V[0]? = some (oB ik rd) → V[1]? = some (oP sz (nI (nF pg))) → V[8]? = some (nA 30 pg) → V[3]? = some (oS (freeF pg (nF pg)) (lpF pg sz) lps sn 15 16 17 18) → V[15]? = some (nA 4 ks) → V[16]? = some (nA 4 sts) → V[17]? = some (nA 6 sof) → V[18]? = some (nA 6 sso) → GW V (pg 0 - 48) (pg 1 - 48) → KEPs V K → TRI V → TW V → DRW V → F33 w V →
      ∀ (n i : Nat), i + n = lpF pg sz → J 8 mX5_board 64 [.ref 0, .int (nI i)] [] ((V.set 15 (nA 4 (upto i (kdF pg) ks))).set 16 (nA 4 (upto i (stF pg) sts))) (fun v u => v = some (.int (nI (nF pg))) ∧ CW u (pg 0 - 48) (pg 1 - 48) 0 pg false (rd + 1) ((freeF pg (nF pg), lpF pg sz, 0, 0), (upto (lpF pg sz) (kdF pg) ks, upto (lpF pg sz) (stF pg) sts, sof, sso)) K ∧ F33 w u) := by
    intro V e0 e1 e8 e3 e15 e16 e17 e18 eG eK eT eTW eD eF n
    induction n with
    | zero =>
      intro i hi
      have ei : i = lpF pg sz := by omega
      subst ei
      obtain ⟨eg2, -⟩ := id eG
      refine j_iload_n iX5_board_64 rfl ?_
      refine j_aload_n iX5_board_65 rfl ?_
      refine j_get fk_X5_26 iX5_board_66 (by repeat (first | assumption | refine wset_ne (by decide) ?_ | exact wset_lt (by (try simp only [List.length_set]); exact wsome (by assumption)))) (by rfl) ?_
      refine j_get fk_X5_95 iX5_board_69 (by repeat (first | assumption | refine wset_ne (by decide) ?_ | exact wset_lt (by (try simp only [List.length_set]); exact wsome (by assumption)))) (by rfl) ?_
      refine j_icmp_geN (tgt := 120) iX5_board_72 (by decide) (by omega) (by omega) (fun _ => ?_) (fun hno => by exfalso; omega)
      refine j_aload_n iX5_board_120 rfl ?_
      refine j_get fk_X5_26 iX5_board_121 (by repeat (first | assumption | refine wset_ne (by decide) ?_ | exact wset_lt (by (try simp only [List.length_set]); exact wsome (by assumption)))) (by rfl) ?_
      refine j_iconst (v := nI 0) iX5_board_124 (by decide) ?_
      refine j_put fk_X5_111 iX5_board_125 (by repeat (first | assumption | refine wset_ne (by decide) ?_ | exact wset_lt (by (try simp only [List.length_set]); exact wsome (by assumption)))) (by intro; rfl) (by intro; rfl) (Nat.le_of_ble_eq_true rfl) ?_
      dsimp only [List.set]
      refine j_aload_n iX5_board_128 rfl ?_
      refine j_get fk_X5_26 iX5_board_129 (by repeat (first | assumption | refine wset_ne (by decide) ?_ | exact wset_lt (by (try simp only [List.length_set]); exact wsome (by assumption)))) (by rfl) ?_
      refine j_iconst (v := nI 0) iX5_board_132 (by decide) ?_
      refine j_put fk_X5_114 iX5_board_133 (by repeat (first | assumption | refine wset_ne (by decide) ?_ | exact wset_lt (by (try simp only [List.length_set]); exact wsome (by assumption)))) (by intro; rfl) (by intro; rfl) (Nat.le_of_ble_eq_true rfl) ?_
      dsimp only [List.set]
      refine j_aload_n iX5_board_136 rfl ?_
      refine j_iconst (v := nI 0) iX5_board_137 (by decide) ?_
      refine j_put fk_X5_50 iX5_board_138 (by repeat (first | assumption | refine wset_ne (by decide) ?_ | exact wset_lt (by (try simp only [List.length_set]); exact wsome (by assumption)))) (by intro; rfl) (by intro; rfl) (Nat.le_of_ble_eq_true rfl) ?_
      dsimp only [List.set]
      refine j_aload_n iX5_board_141 rfl ?_
      refine j_dup iX5_board_142 rfl ?_
      refine j_get fk_X5_54 iX5_board_143 (by repeat (first | assumption | refine wset_ne (by decide) ?_ | exact wset_lt (by (try simp only [List.length_set]); exact wsome (by assumption)))) (by rfl) ?_
      refine j_iconst (v := nI 1) iX5_board_146 (by decide) ?_
      refine j_iaddN iX5_board_147  ?_
      refine j_put fk_X5_54 iX5_board_148 (by repeat (first | assumption | refine wset_ne (by decide) ?_ | exact wset_lt (by (try simp only [List.length_set]); exact wsome (by assumption)))) (by intro; rfl) (by intro; rfl) (Nat.le_of_ble_eq_true rfl) ?_
      dsimp only [List.set]
      refine j_aload_n iX5_board_151 rfl ?_
      refine j_get fk_X5_10 iX5_board_152 (by repeat (first | assumption | refine wset_ne (by decide) ?_ | exact wset_lt (by (try simp only [List.length_set]); exact wsome (by assumption)))) (by rfl) ?_
      refine j_V0R okX2_clear lk_X5_65 iX5_board_155 (by omega) (by repeat (first | assumption | refine wset_ne (by decide) ?_ | exact wset_lt (by (try simp only [List.length_set]); exact wsome (by assumption)))) rfl (c_clear (by repeat (first | assumption | refine wset_ne (by decide) ?_ | exact wset_lt (by (try simp only [List.length_set]); exact wsome (by assumption))))) rfl (Nat.le_of_ble_eq_true rfl) (Nat.le_of_ble_eq_true rfl) ?_
      refine j_pop iX5_board_158 rfl ?_
      refine j_aload_n iX5_board_159 rfl ?_
      refine j_get fk_X5_19 iX5_board_160 (by repeat (first | assumption | refine wset_ne (by decide) ?_ | exact wset_lt (by (try simp only [List.length_set]); exact wsome (by assumption)))) (by rfl) ?_
      refine j_get fk_X5_117 iX5_board_163 (by repeat (first | assumption | refine wset_ne (by decide) ?_ | exact wset_lt (by (try simp only [List.length_set]); exact wsome (by assumption)))) (by rfl) ?_
      refine j_iret iX5_board_166 rfl (by first | rfl | exact nar_bI _ | exact nar_bP) (⟨rfl, ⟨(by repeat (first | assumption | refine wset_ne (by decide) ?_ | exact wset_lt (by (try simp only [List.length_set]); exact wsome (by assumption)))), ⟨(by repeat (first | assumption | refine wset_ne (by decide) ?_ | exact wset_lt (by (try simp only [List.length_set]); exact wsome (by assumption)))), (by repeat (first | assumption | refine wset_ne (by decide) ?_ | exact wset_lt (by (try simp only [List.length_set]); exact wsome (by assumption))))⟩, (by repeat (first | assumption | refine GW.set ?_ (by decide))), ⟨(by repeat (first | assumption | refine wset_ne (by decide) ?_ | exact wset_lt (by (try simp only [List.length_set]); exact wsome (by assumption)))), (by repeat (first | assumption | refine wset_ne (by decide) ?_ | exact wset_lt (by (try simp only [List.length_set]); exact wsome (by assumption)))), (by repeat (first | assumption | refine wset_ne (by decide) ?_ | exact wset_lt (by (try simp only [List.length_set]); exact wsome (by assumption)))), (by repeat (first | assumption | refine wset_ne (by decide) ?_ | exact wset_lt (by (try simp only [List.length_set]); exact wsome (by assumption)))), (by repeat (first | assumption | refine wset_ne (by decide) ?_ | exact wset_lt (by (try simp only [List.length_set]); exact wsome (by assumption))))⟩, (by repeat (first | assumption | refine KEPs.set ?_ (by decide))), (by repeat (first | assumption | refine TRI.set ?_ (by decide))), (by repeat (first | assumption | refine TW.set ?_ (by decide))), (by repeat (first | assumption | refine DRW.set ?_ (by decide)))⟩, (by repeat (first | assumption | refine F33.set ?_ (by decide)))⟩)
    | succ n ih =>
      intro i hi
      have hq := q13 i (by omega)
      have ih2 := ih (i + 1) (by omega)
      rw [← upto_s i (kdF pg), ← upto_s i (stF pg)] at ih2
      refine j_iload_n iX5_board_64 rfl ?_
      refine j_aload_n iX5_board_65 rfl ?_
      refine j_get fk_X5_26 iX5_board_66 (by repeat (first | assumption | refine wset_ne (by decide) ?_ | exact wset_lt (by (try simp only [List.length_set]); exact wsome (by assumption)))) (by rfl) ?_
      refine j_get fk_X5_95 iX5_board_69 (by repeat (first | assumption | refine wset_ne (by decide) ?_ | exact wset_lt (by (try simp only [List.length_set]); exact wsome (by assumption)))) (by rfl) ?_
      refine j_icmp_geN (tgt := 120) iX5_board_72 (by decide) (by omega) (by omega) (fun hno => by exfalso; omega) (fun _ => ?_)
      refine j_iload_n iX5_board_75 rfl ?_
      refine j_iconst (v := nI 4) iX5_board_76 (by decide) ?_
      refine j_icmp_geN (tgt := 120) iX5_board_77 (by decide) (by omega) (by omega) (fun hno => by exfalso; omega) (fun _ => ?_)
      refine j_aload_n iX5_board_80 rfl ?_
      refine j_get fk_X5_26 iX5_board_81 (by repeat (first | assumption | refine wset_ne (by decide) ?_ | exact wset_lt (by (try simp only [List.length_set]); exact wsome (by assumption)))) (by rfl) ?_
      refine j_get fk_X5_97 iX5_board_84 (by repeat (first | assumption | refine wset_ne (by decide) ?_ | exact wset_lt (by (try simp only [List.length_set]); exact wsome (by assumption)))) (by rfl) ?_
      refine j_iload_n iX5_board_87 rfl ?_
      refine j_aload_n iX5_board_88 rfl ?_
      refine j_get fk_X5_10 iX5_board_89 (by repeat (first | assumption | refine wset_ne (by decide) ?_ | exact wset_lt (by (try simp only [List.length_set]); exact wsome (by assumption)))) (by rfl) ?_
      refine j_iload_n iX5_board_92 rfl ?_
      refine j_V1R okX2_kindOf lk_X5_101 iX5_board_93 (by omega) (by repeat (first | assumption | refine wset_ne (by decide) ?_ | exact wset_lt (by (try simp only [List.length_set]); exact wsome (by assumption)))) rfl (c_kindOfP (by repeat (first | assumption | refine wset_ne (by decide) ?_ | exact wset_lt (by (try simp only [List.length_set]); exact wsome (by assumption)))) (by repeat (first | assumption | refine wset_ne (by decide) ?_ | exact wset_lt (by (try simp only [List.length_set]); exact wsome (by assumption)))) hsz q8 hpg i (by omega)) rfl (Nat.le_of_ble_eq_true rfl) (Nat.le_of_ble_eq_true rfl) ?_
      refine j_top (y := nI (kdF pg i)) (by rw [hq.1]; rfl) ?_
      refine j_iastN iX5_board_96 (by repeat (first | assumption | refine wset_ne (by decide) ?_ | exact wset_lt (by (try simp only [List.length_set]); exact wsome (by assumption)))) (by omega) ?_
      refine j_aload_n iX5_board_97 rfl ?_
      refine j_get fk_X5_26 iX5_board_98 (by repeat (first | assumption | refine wset_ne (by decide) ?_ | exact wset_lt (by (try simp only [List.length_set]); exact wsome (by assumption)))) (by rfl) ?_
      refine j_get fk_X5_105 iX5_board_101 (by repeat (first | assumption | refine wset_ne (by decide) ?_ | exact wset_lt (by (try simp only [List.length_set]); exact wsome (by assumption)))) (by rfl) ?_
      refine j_iload_n iX5_board_104 rfl ?_
      refine j_aload_n iX5_board_105 rfl ?_
      refine j_get fk_X5_10 iX5_board_106 (by repeat (first | assumption | refine wset_ne (by decide) ?_ | exact wset_lt (by (try simp only [List.length_set]); exact wsome (by assumption)))) (by rfl) ?_
      refine j_iload_n iX5_board_109 rfl ?_
      refine j_V1R okX2_standOf lk_X5_108 iX5_board_110 (by omega) (by repeat (first | assumption | refine wset_ne (by decide) ?_ | exact wset_lt (by (try simp only [List.length_set]); exact wsome (by assumption)))) rfl (c_standOfP (by repeat (first | assumption | refine wset_ne (by decide) ?_ | exact wset_lt (by (try simp only [List.length_set]); exact wsome (by assumption)))) (by repeat (first | assumption | refine wset_ne (by decide) ?_ | exact wset_lt (by (try simp only [List.length_set]); exact wsome (by assumption)))) hsz q8 i (by omega)) rfl (Nat.le_of_ble_eq_true rfl) (Nat.le_of_ble_eq_true rfl) ?_
      refine j_top (y := nI (stF pg i)) (by unfold atF; rw [if_pos (by omega), pk_sub hq.2.2.1]; rfl) ?_
      refine j_iastN iX5_board_113 (by repeat (first | assumption | refine wset_ne (by decide) ?_ | exact wset_lt (by (try simp only [List.length_set]); exact wsome (by assumption)))) (by omega) ?_
      refine j_iincN iX5_board_114 rfl (by decide) rfl ?_
      dsimp only [List.set]
      refine j_goto (tgt := 64) iX5_board_117 (by decide) ?_
      rw [List.set_comm _ _ (show (16 : Nat) ≠ 15 by decide), wset2, wset2]; exact ih2
  refine j_start (ls := [.ref 0, .null]) rfl ?_
  refine j_aload_n iX5_board_0 rfl ?_
  refine j_get fk_X5_10 iX5_board_1 (by repeat (first | assumption | refine wset_ne (by decide) ?_ | exact wset_lt (by (try simp only [List.length_set]); exact wsome (by assumption)))) (by rfl) ?_
  refine j_V0R okX2_isWhole lk_X5_72 iX5_board_4 (by omega) (by repeat (first | assumption | refine wset_ne (by decide) ?_ | exact wset_lt (by (try simp only [List.length_set]); exact wsome (by assumption)))) rfl (c_isWhole p1 p2 hsz hpg hcl.symm) rfl (Nat.le_of_ble_eq_true rfl) (Nat.le_of_ble_eq_true rfl) ?_
  refine j_if_neB (tgt := 13) iX5_board_7 (by decide) (fun _ => ?_) (fun hno => Bool.noConfusion (hno.symm.trans (show _ = true from hw)))
  refine j_aload_n iX5_board_13 rfl ?_
  refine j_get fk_X5_19 iX5_board_14 (by repeat (first | assumption | refine wset_ne (by decide) ?_ | exact wset_lt (by (try simp only [List.length_set]); exact wsome (by assumption)))) (by rfl) ?_
  refine j_aload_n iX5_board_17 rfl ?_
  refine j_get fk_X5_10 iX5_board_18 (by repeat (first | assumption | refine wset_ne (by decide) ?_ | exact wset_lt (by (try simp only [List.length_set]); exact wsome (by assumption)))) (by rfl) ?_
  refine j_V0R okX2_rows lk_X5_76 iX5_board_21 (by omega) (by repeat (first | assumption | refine wset_ne (by decide) ?_ | exact wset_lt (by (try simp only [List.length_set]); exact wsome (by assumption)))) rfl (c_rows p1 p2 hsz) rfl (Nat.le_of_ble_eq_true rfl) (Nat.le_of_ble_eq_true rfl) ?_
  refine j_top (y := nI (pg 0 - 48)) (by exact hR) ?_
  refine j_aload_n iX5_board_24 rfl ?_
  refine j_get fk_X5_10 iX5_board_25 (by repeat (first | assumption | refine wset_ne (by decide) ?_ | exact wset_lt (by (try simp only [List.length_set]); exact wsome (by assumption)))) (by rfl) ?_
  refine j_V0R okX2_columns lk_X5_79 iX5_board_28 (by omega) (by repeat (first | assumption | refine wset_ne (by decide) ?_ | exact wset_lt (by (try simp only [List.length_set]); exact wsome (by assumption)))) rfl (c_columns p1 p2 hsz) rfl (Nat.le_of_ble_eq_true rfl) (Nat.le_of_ble_eq_true rfl) ?_
  refine j_top (y := nI (pg 1 - 48)) (by exact hCc) ?_
  refine j_V2U (r := .null) okX1_lay lk_X5_82 iX5_board_31 (by omega) (by repeat (first | assumption | refine wset_ne (by decide) ?_ | exact wset_lt (by (try simp only [List.length_set]); exact wsome (by assumption)))) rfl (c_lay g2 g9 g10 g11 g12 g13 g14 (pg 0 - 48) (pg 1 - 48) (by omega) (by omega) (by rw [hRC]; exact q8)) rfl (Nat.le_of_ble_eq_true rfl) (Nat.le_of_ble_eq_true rfl) ?_
  rw [lay_eq]
  refine j_aload_n iX5_board_34 rfl ?_
  refine j_get fk_X5_26 iX5_board_35 (by repeat (first | assumption | refine wset_ne (by decide) ?_ | exact wset_lt (by (try simp only [List.length_set]); exact wsome (by assumption)))) (by rfl) ?_
  refine j_aload_n iX5_board_38 rfl ?_
  refine j_get fk_X5_10 iX5_board_39 (by repeat (first | assumption | refine wset_ne (by decide) ?_ | exact wset_lt (by (try simp only [List.length_set]); exact wsome (by assumption)))) (by rfl) ?_
  refine j_V0R okX2_freeCells lk_X5_86 iX5_board_42 (by omega) (by repeat (first | assumption | refine wset_ne (by decide) ?_ | exact wset_lt (by (try simp only [List.length_set]); exact wsome (by assumption)))) rfl (c_freeCells (by repeat (first | assumption | refine wset_ne (by decide) ?_ | exact wset_lt (by (try simp only [List.length_set]); exact wsome (by assumption)))) (by repeat (first | assumption | refine wset_ne (by decide) ?_ | exact wset_lt (by (try simp only [List.length_set]); exact wsome (by assumption)))) hsz q8 (by omega) hpg) rfl (Nat.le_of_ble_eq_true rfl) (Nat.le_of_ble_eq_true rfl) ?_
  refine j_put fk_X5_89 iX5_board_45 (by repeat (first | assumption | refine wset_ne (by decide) ?_ | exact wset_lt (by (try simp only [List.length_set]); exact wsome (by assumption)))) (by intro; rfl) (by intro; rfl) (Nat.le_of_ble_eq_true rfl) ?_
  dsimp only [List.set]
  refine j_aload_n iX5_board_48 rfl ?_
  refine j_get fk_X5_26 iX5_board_49 (by repeat (first | assumption | refine wset_ne (by decide) ?_ | exact wset_lt (by (try simp only [List.length_set]); exact wsome (by assumption)))) (by rfl) ?_
  refine j_aload_n iX5_board_52 rfl ?_
  refine j_get fk_X5_10 iX5_board_53 (by repeat (first | assumption | refine wset_ne (by decide) ?_ | exact wset_lt (by (try simp only [List.length_set]); exact wsome (by assumption)))) (by rfl) ?_
  refine j_V0R okX2_leapers lk_X5_92 iX5_board_56 (by omega) (by repeat (first | assumption | refine wset_ne (by decide) ?_ | exact wset_lt (by (try simp only [List.length_set]); exact wsome (by assumption)))) rfl (c_leapers (by repeat (first | assumption | refine wset_ne (by decide) ?_ | exact wset_lt (by (try simp only [List.length_set]); exact wsome (by assumption)))) hsz (by omega)) rfl (Nat.le_of_ble_eq_true rfl) (Nat.le_of_ble_eq_true rfl) ?_
  refine j_put fk_X5_95 iX5_board_59 (by repeat (first | assumption | refine wset_ne (by decide) ?_ | exact wset_lt (by (try simp only [List.length_set]); exact wsome (by assumption)))) (by intro; rfl) (by intro; rfl) (Nat.le_of_ble_eq_true rfl) ?_
  dsimp only [List.set]
  refine j_iconst (v := nI 0) iX5_board_62 (by decide) ?_
  refine j_istore_n iX5_board_63 (by decide) rfl ?_
  dsimp only [List.set]
  skip
  have hL := L ((layW (pg 0 - 48) (pg 1 - 48) w).set 3 (oS (freeF pg (nF pg)) (lpF pg sz) lps sn 15 16 17 18))
  rw [lay_eq] at hL
  have z15 : (((((((w.set 2 (oG (pg 0 - 48) (pg 1 - 48) ((pg 0 - 48) * (pg 1 - 48)) 9)).set 10 (nA 12 (fanF (pg 1 - 48) ((pg 0 - 48) * (pg 1 - 48)) 0))).set 11 (nA 12 (fanF (pg 1 - 48) ((pg 0 - 48) * (pg 1 - 48)) 1))).set 12 (nA 12 (fanF (pg 1 - 48) ((pg 0 - 48) * (pg 1 - 48)) 2))).set 13 (nA 12 (fanF (pg 1 - 48) ((pg 0 - 48) * (pg 1 - 48)) 3))).set 14 (nA 12 (fanF (pg 1 - 48) ((pg 0 - 48) * (pg 1 - 48)) 4))).set 3 (oS (freeF pg (nF pg)) (lpF pg sz) lps sn 15 16 17 18))[15]? = some (nA 4 ks) := (by repeat (first | assumption | refine wset_ne (by decide) ?_ | exact wset_lt (by (try simp only [List.length_set]); exact wsome (by assumption))))
  have z16 : (((((((w.set 2 (oG (pg 0 - 48) (pg 1 - 48) ((pg 0 - 48) * (pg 1 - 48)) 9)).set 10 (nA 12 (fanF (pg 1 - 48) ((pg 0 - 48) * (pg 1 - 48)) 0))).set 11 (nA 12 (fanF (pg 1 - 48) ((pg 0 - 48) * (pg 1 - 48)) 1))).set 12 (nA 12 (fanF (pg 1 - 48) ((pg 0 - 48) * (pg 1 - 48)) 2))).set 13 (nA 12 (fanF (pg 1 - 48) ((pg 0 - 48) * (pg 1 - 48)) 3))).set 14 (nA 12 (fanF (pg 1 - 48) ((pg 0 - 48) * (pg 1 - 48)) 4))).set 3 (oS (freeF pg (nF pg)) (lpF pg sz) lps sn 15 16 17 18))[16]? = some (nA 4 sts) := (by repeat (first | assumption | refine wset_ne (by decide) ?_ | exact wset_lt (by (try simp only [List.length_set]); exact wsome (by assumption))))
  have hL2 := hL (by repeat (first | assumption | refine wset_ne (by decide) ?_ | exact wset_lt (by (try simp only [List.length_set]); exact wsome (by assumption)))) (by repeat (first | assumption | refine wset_ne (by decide) ?_ | exact wset_lt (by (try simp only [List.length_set]); exact wsome (by assumption)))) (by repeat (first | assumption | refine wset_ne (by decide) ?_ | exact wset_lt (by (try simp only [List.length_set]); exact wsome (by assumption)))) (by repeat (first | assumption | refine wset_ne (by decide) ?_ | exact wset_lt (by (try simp only [List.length_set]); exact wsome (by assumption)))) z15 z16 (by repeat (first | assumption | refine wset_ne (by decide) ?_ | exact wset_lt (by (try simp only [List.length_set]); exact wsome (by assumption)))) (by repeat (first | assumption | refine wset_ne (by decide) ?_ | exact wset_lt (by (try simp only [List.length_set]); exact wsome (by assumption)))) ⟨(by repeat (first | assumption | refine wset_ne (by decide) ?_ | exact wset_lt (by (try simp only [List.length_set]); exact wsome (by assumption)))), (by repeat (first | assumption | refine wset_ne (by decide) ?_ | exact wset_lt (by (try simp only [List.length_set]); exact wsome (by assumption)))), (by repeat (first | assumption | refine wset_ne (by decide) ?_ | exact wset_lt (by (try simp only [List.length_set]); exact wsome (by assumption)))), (by repeat (first | assumption | refine wset_ne (by decide) ?_ | exact wset_lt (by (try simp only [List.length_set]); exact wsome (by assumption)))), (by repeat (first | assumption | refine wset_ne (by decide) ?_ | exact wset_lt (by (try simp only [List.length_set]); exact wsome (by assumption)))), (by repeat (first | assumption | refine wset_ne (by decide) ?_ | exact wset_lt (by (try simp only [List.length_set]); exact wsome (by assumption)))), (by repeat (first | assumption | refine wset_ne (by decide) ?_ | exact wset_lt (by (try simp only [List.length_set]); exact wsome (by assumption))))⟩ (by repeat (first | assumption | refine KEPs.set ?_ (by decide))) (by repeat (first | assumption | refine TRI.set ?_ (by decide))) (by repeat (first | assumption | refine TW.set ?_ (by decide))) (by repeat (first | assumption | refine DRW.set ?_ (by decide))) (by repeat (first | exact F33.rf | refine F33.set ?_ (by decide))) (lpF pg sz) 0 (by omega)
  rw [upto_0, upto_0, wset_eq z15, wset_eq z16] at hL2
  rw [wset2]
  exact hL2
end
