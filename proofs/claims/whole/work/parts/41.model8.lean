/-! ===== the reference: trades ===== -/
def cnt (P : Nat → Bool) : Nat → Nat
  | 0 => 0
  | n + 1 => cnt P n + (P n).toNat
theorem cnt_le (P : Nat → Bool) : ∀ n, cnt P n ≤ n := by
  intro n
  induction n with
  | zero => exact Nat.le_refl _
  | succ n ih => unfold cnt; have : (P n).toNat ≤ 1 := Bool.toNat_le _; omega
theorem cnt_0 : ∀ n, cnt (fun _ => false) n = 0 := by
  intro n
  induction n with
  | zero => rfl
  | succ n ih => unfold cnt; rw [ih]; rfl
theorem cnt_congr {P P' : Nat → Bool} : ∀ n, (∀ i, i < n → P i = P' i) → cnt P n = cnt P' n := by
  intro n
  induction n with
  | zero => intro _; rfl
  | succ n ih => intro h; unfold cnt; rw [ih (fun i hi => h i (by omega)), h n (Nat.lt_succ_self n)]
theorem cnt_set {P P' : Nat → Bool} {k : Nat} (hP : P k = false) (hP' : P' k = true) (h : ∀ i, i ≠ k → P i = P' i) : ∀ n, k < n → cnt P' n = cnt P n + 1 := by
  intro n
  induction n with
  | zero => intro hk; omega
  | succ n ih =>
    intro hk
    unfold cnt
    by_cases e : n = k
    · subst e
      rw [hP, hP', cnt_congr n (fun i hi => h i (by omega))]
      rfl
    · rw [ih (by omega), h n e]; omega
abbrev TS : Type := (Nat → Nat) × (Nat → Nat) × Nat
def ctF (pr lv : Nat) (s : TS) : TS := if s.1 pr = 268435456 then (un s.1 pr lv, un s.2.1 s.2.2 pr, s.2.2 + 1) else s
def cf1 (g1 b pr c : Nat) (s : TS) : TS := if g1.testBit c = true then ctF (12 * c + b) (s.1 pr + 1) s else s
def cf2 (g2 a pr c : Nat) (s : TS) : TS := if g2.testBit c = true then ctF (12 * a + c) (s.1 pr + 1) s else s
def cfG (f : Nat → Nat) (fr still a b : Nat) : Nat := ad (ad (f a &&& fr) still) (2 ^ b)
def cfStep (f g : Nat → Nat) (fr still pr c : Nat) (s : TS) : TS := cf2 (cfG g fr still (pr % 12) (pr / 12)) (pr / 12) pr c (cf1 (cfG f fr still (pr / 12) (pr % 12)) (pr % 12) pr c s)
def cfF (f g : Nat → Nat) (fr still N pr : Nat) (s : TS) : TS := fold (cfStep f g fr still pr) N 0 s
def tmFrom (f g : Nat → Nat) (fr still N : Nat) : Nat → Nat → TS → TS
  | 0, _, s => s
  | n + 1, k, s => if k < s.2.2 then tmFrom f g fr still N n (k + 1) (cfF f g fr still N (s.2.1 k) s) else s
theorem tmFrom_s (f g : Nat → Nat) (fr still N n k : Nat) (s : TS) : tmFrom f g fr still N (n + 1) k s = if k < s.2.2 then tmFrom f g fr still N n (k + 1) (cfF f g fr still N (s.2.1 k) s) else s := rfl
def tmF (f g : Nat → Nat) (fr still N p0 : Nat) (r0 : Nat → Nat) : TS := tmFrom f g fr still N 145 0 (ctF p0 0 (fun _ => 268435456, r0, 0))
/-- what holds of the rows: values to V, pairs of cells below N, no pair twice -/
def TI (N V : Nat) (s : TS) : Prop := (∀ p, s.1 p = 268435456 ∨ s.1 p ≤ V) ∧ (∀ i, i < s.2.2 → s.2.1 i < 144 ∧ s.2.1 i / 12 < N ∧ s.2.1 i % 12 < N ∧ s.1 (s.2.1 i) ≠ 268435456) ∧ cnt (fun p => decide (s.1 p ≠ 268435456)) 144 = s.2.2
theorem TI.le {N V : Nat} {s : TS} (h : TI N V s) : s.2.2 ≤ 144 := by rw [← h.2.2]; exact cnt_le _ _
theorem TI.mono {N V V' : Nat} {s : TS} (h : TI N V s) (hV : V ≤ V') : TI N V' s := ⟨fun p => (h.1 p).imp id (fun z => Nat.le_trans z hV), h.2.1, h.2.2⟩
theorem TI.grow {N V : Nat} {s : TS} (h : TI N V s) {pr lv : Nat} (hpr : pr < 144) (hlv : lv < 268435456) (he : s.1 pr = 268435456) : cnt (fun p => decide ((un s.1 pr lv) p ≠ 268435456)) 144 = s.2.2 + 1 := by
  rw [← h.2.2]
  exact cnt_set (k := pr) (by rw [he]; rfl) (by simp only [un_same]; exact decide_eq_true (by omega)) (fun i hi => by simp only [un_ne hi]) 144 hpr
theorem TI.lt {N V : Nat} {s : TS} (h : TI N V s) {pr : Nat} (hpr : pr < 144) (he : s.1 pr = 268435456) : s.2.2 < 144 := by
  have h1 := h.grow hpr (lv := 0) (by decide) he
  have h2 := cnt_le (fun p => decide ((un s.1 pr 0) p ≠ 268435456)) 144
  omega
theorem TI.ct {N V : Nat} {s : TS} (h : TI N V s) {pr lv : Nat} (hpr : pr < 144) (ha : pr / 12 < N) (hb : pr % 12 < N) (hlv : lv ≤ V) (hV : V < 268435456) : TI N V (ctF pr lv s) := by
  unfold ctF
  split
  · rename_i he
    refine ⟨fun p => ?_, fun i hi => ?_, h.grow hpr (by omega) he⟩
    · show un s.1 pr lv p = _ ∨ un s.1 pr lv p ≤ V
      unfold un
      split
      · exact Or.inr hlv
      · exact h.1 p
    · simp only at hi ⊢
      by_cases e : i = s.2.2
      · subst e
        rw [un_same, un_same]
        exact ⟨hpr, ha, hb, by omega⟩
      · rw [un_ne e]
        have := h.2.1 i (by omega)
        refine ⟨this.1, this.2.1, this.2.2.1, ?_⟩
        unfold un
        split
        · omega
        · exact this.2.2.2
  · exact h
theorem ct_keep {pr lv p : Nat} {s : TS} (h : s.1 p ≠ 268435456) : (ctF pr lv s).1 p = s.1 p := by
  unfold ctF
  split
  · rename_i he
    exact un_ne (fun e => h (by rw [e]; exact he))
  · rfl
section
variable {w : mW} {bd R C fr lp lps sn sz : Nat} {wh : Bool} {nc nf nl tl : Nat} {sd : Int64} {ik : Bool} {kb kf kl kn : Nat} {hh : Int64} {ks sts pg sof rr cc cn : Nat → Nat}
theorem m_comeTo {z1 z2 : Nat → Nat} (hm : w[33]? = some (oM bd R C fr lp lps sn sz wh nc nf nl tl sd ik kb kf kl kn hh)) (h41 : w[41]? = some (nA 144 z1)) (h42 : w[42]? = some (nA 144 z2)) {N V : Nat} {s : TS} (hT : TI N V s) (hV : V < 268435456) (pr lv : Nat) (hpr : pr < 144) : JV 0 mX6_comeTo [.ref 33, .int (nI pr), .int (nI lv)] (((w.set 41 (nA 144 s.1)).set 42 (nA 144 s.2.1)).set 33 (oM bd R C fr lp lps sn sz wh nc nf nl (s.2.2) sd ik kb kf kl kn hh)) (((w.set 41 (nA 144 (ctF pr lv s).1)).set 42 (nA 144 (ctF pr lv s).2.1)).set 33 (oM bd R C fr lp lps sn sz wh nc nf nl ((ctF pr lv s).2.2) sd ik kb kf kl kn hh)) := by
  refine j_start (ls := [.ref 33, .int (nI pr), .int (nI lv)]) rfl ?_
  have hb : s.1 pr < 2 ^ 31 := by rcases hT.1 pr with h | h <;> omega
  by_cases he : s.1 pr = 268435456
  · have hl := hT.lt hpr he
    have e : ctF pr lv s = (un s.1 pr lv, un s.2.1 s.2.2 pr, s.2.2 + 1) := by unfold ctF; rw [if_pos he]
    rw [e]
    refine j_aload_n iX6_comeTo_0 rfl ?_
    refine j_get fk_X6_32 iX6_comeTo_1 (by repeat (first | assumption | refine wset_ne (by decide) ?_ | exact wset_lt (by (try simp only [List.length_set]); exact wsome (by assumption)))) (by rfl) ?_
    refine j_iload_n iX6_comeTo_4 rfl ?_
    refine j_ialdN iX6_comeTo_5 (by repeat (first | assumption | refine wset_ne (by decide) ?_ | exact wset_lt (by (try simp only [List.length_set]); exact wsome (by assumption)))) (by omega) ?_
    refine j_ldc iX6_comeTo_6 kc_X6_197 ?_
    refine j_top (y := nI 268435456) (by decide) ?_
    refine j_icmp_neN (tgt := 38) iX6_comeTo_8 (by decide) (by omega) (by omega) (fun hno => by exfalso; omega) (fun _ => ?_)
    refine j_aload_n iX6_comeTo_11 rfl ?_
    refine j_get fk_X6_32 iX6_comeTo_12 (by repeat (first | assumption | refine wset_ne (by decide) ?_ | exact wset_lt (by (try simp only [List.length_set]); exact wsome (by assumption)))) (by rfl) ?_
    refine j_iload_n iX6_comeTo_15 rfl ?_
    refine j_iload_n iX6_comeTo_16 rfl ?_
    refine j_iastN iX6_comeTo_17 (by repeat (first | assumption | refine wset_ne (by decide) ?_ | exact wset_lt (by (try simp only [List.length_set]); exact wsome (by assumption)))) (by omega) ?_
    refine j_aload_n iX6_comeTo_18 rfl ?_
    refine j_get fk_X6_35 iX6_comeTo_19 (by repeat (first | assumption | refine wset_ne (by decide) ?_ | exact wset_lt (by (try simp only [List.length_set]); exact wsome (by assumption)))) (by rfl) ?_
    refine j_aload_n iX6_comeTo_22 rfl ?_
    refine j_get fk_X6_198 iX6_comeTo_23 (by repeat (first | assumption | refine wset_ne (by decide) ?_ | exact wset_lt (by (try simp only [List.length_set]); exact wsome (by assumption)))) (by rfl) ?_
    refine j_iload_n iX6_comeTo_26 rfl ?_
    refine j_iastN iX6_comeTo_27 (by repeat (first | assumption | refine wset_ne (by decide) ?_ | exact wset_lt (by (try simp only [List.length_set]); exact wsome (by assumption)))) (by omega) ?_
    refine j_aload_n iX6_comeTo_28 rfl ?_
    refine j_dup iX6_comeTo_29 rfl ?_
    refine j_get fk_X6_198 iX6_comeTo_30 (by repeat (first | assumption | refine wset_ne (by decide) ?_ | exact wset_lt (by (try simp only [List.length_set]); exact wsome (by assumption)))) (by rfl) ?_
    refine j_iconst (v := nI 1) iX6_comeTo_33 (by decide) ?_
    refine j_iaddN iX6_comeTo_34  ?_
    refine j_put fk_X6_198 iX6_comeTo_35 (by repeat (first | assumption | refine wset_ne (by decide) ?_ | exact wset_lt (by (try simp only [List.length_set]); exact wsome (by assumption)))) (by intro; rfl) (by intro; rfl) (Nat.le_of_ble_eq_true rfl) ?_
    dsimp only [List.set]
    refine j_vret iX6_comeTo_38 rfl (⟨rfl, by rw [List.set_comm _ _ (show (33 : Nat) ≠ 41 by decide), List.set_comm _ _ (show (42 : Nat) ≠ 41 by decide), wset2, List.set_comm _ _ (show (33 : Nat) ≠ 42 by decide), wset2, wset2]⟩)
  · have e : ctF pr lv s = s := by unfold ctF; rw [if_neg he]
    rw [e]
    refine j_aload_n iX6_comeTo_0 rfl ?_
    refine j_get fk_X6_32 iX6_comeTo_1 (by repeat (first | assumption | refine wset_ne (by decide) ?_ | exact wset_lt (by (try simp only [List.length_set]); exact wsome (by assumption)))) (by rfl) ?_
    refine j_iload_n iX6_comeTo_4 rfl ?_
    refine j_ialdN iX6_comeTo_5 (by repeat (first | assumption | refine wset_ne (by decide) ?_ | exact wset_lt (by (try simp only [List.length_set]); exact wsome (by assumption)))) (by omega) ?_
    refine j_ldc iX6_comeTo_6 kc_X6_197 ?_
    refine j_top (y := nI 268435456) (by decide) ?_
    refine j_icmp_neN (tgt := 38) iX6_comeTo_8 (by decide) (by omega) (by omega) (fun _ => ?_) (fun hno => by exfalso; omega)
    refine j_vret iX6_comeTo_38 rfl (⟨rfl, rfl⟩)
theorem m_comeFrom {z1 z2 : Nat → Nat} (hm : w[33]? = some (oM bd R C fr lp lps sn sz wh nc nf nl tl sd ik kb kf kl kn hh)) (h34 : w[34]? = some (nA 4 ks)) (h41 : w[41]? = some (nA 144 z1)) (h42 : w[42]? = some (nA 144 z2)) (hN : R * C ≤ 12) (hfr : fr < 4096) (hks : ∀ i, ks i < 5) {V : Nat} {s0 : TS} (hT0 : TI (R * C) V s0) (hV : V < 268435456) (pr one other still : Nat) (hpr : pr < 144) (hpa : pr / 12 < R * C) (hpb : pr % 12 < R * C) (hlv : s0.1 pr + 1 ≤ V) (h1 : one < 4) (h2 : other < 4) (hst : still < 4096) :
    JV 3 mX6_comeFrom [.ref 33, .int (nI pr), .int (nI one), .int (nI other), .int (nI still)] (((w.set 41 (nA 144 s0.1)).set 42 (nA 144 s0.2.1)).set 33 (oM bd R C fr lp lps sn sz wh nc nf nl (s0.2.2) sd ik kb kf kl kn hh)) (((w.set 41 (nA 144 (cfF (fanF C (R * C) (ks one)) (fanF C (R * C) (ks other)) fr still (R * C) pr s0).1)).set 42 (nA 144 (cfF (fanF C (R * C) (ks one)) (fanF C (R * C) (ks other)) fr still (R * C) pr s0).2.1)).set 33 (oM bd R C fr lp lps sn sz wh nc nf nl ((cfF (fanF C (R * C) (ks one)) (fanF C (R * C) (ks other)) fr still (R * C) pr s0).2.2) sd ik kb kf kl kn hh)) := by
  have hk1 := hks one
  have hk2 := hks other
  have hg1 : cfG (fanF C (R * C) (ks one)) fr still (pr / 12) (pr % 12) < 4096 := ad_b (ad_b (and_bR hfr))
  have hg2 : cfG (fanF C (R * C) (ks other)) fr still (pr % 12) (pr / 12) < 4096 := ad_b (ad_b (and_bR hfr))
  generalize hF : cfF (fanF C (R * C) (ks one)) (fanF C (R * C) (ks other)) fr still (R * C) pr s0 = F
  have L : ∀ (n c : Nat) (s : TS), c + n = R * C → TI (R * C) V s → s.1 pr + 1 ≤ V → fold (cfStep (fanF C (R * C) (ks one)) (fanF C (R * C) (ks other)) fr still pr) n c s = F →
      J 3 mX6_comeFrom 67 [.ref 33, .int (nI pr), .int (nI one), .int (nI other), .int (nI still), .int (nI (pr / 12)), .int (nI (pr % 12)), .int (nI (cfG (fanF C (R * C) (ks one)) fr still (pr / 12) (pr % 12))), .int (nI (cfG (fanF C (R * C) (ks other)) fr still (pr % 12) (pr / 12))), .int (nI c)] [] (((w.set 41 (nA 144 s.1)).set 42 (nA 144 s.2.1)).set 33 (oM bd R C fr lp lps sn sz wh nc nf nl (s.2.2) sd ik kb kf kl kn hh)) (fun v u => v = none ∧ u = ((w.set 41 (nA 144 F.1)).set 42 (nA 144 F.2.1)).set 33 (oM bd R C fr lp lps sn sz wh nc nf nl (F.2.2) sd ik kb kf kl kn hh)) := by
    intro n
    induction n with
    | zero =>
      intro c s hc hT hp he
      have e : s = F := he
      subst e
      refine j_iload iX6_comeFrom_67 rfl ?_
      refine j_aload_n iX6_comeFrom_69 rfl ?_
      refine j_V0R okX6_cells lk_X6_131 iX6_comeFrom_70 (by omega) (by repeat (first | assumption | refine wset_ne (by decide) ?_ | exact wset_lt (by (try simp only [List.length_set]); exact wsome (by assumption)))) rfl (m_cells ((by repeat (first | assumption | refine wset_ne (by decide) ?_ | exact wset_lt (by (try simp only [List.length_set]); exact wsome (by assumption)))) : _ = some (oM bd R C fr lp lps sn sz wh nc nf nl (s.2.2) sd ik kb kf kl kn hh))) rfl (Nat.le_of_ble_eq_true rfl) (Nat.le_of_ble_eq_true rfl) ?_
      refine j_icmp_geN (tgt := 142) iX6_comeFrom_73 (by decide) (by omega) (by omega) (fun _ => ?_) (fun hno => by exfalso; omega)
      refine j_vret iX6_comeFrom_142 rfl (⟨rfl, rfl⟩)
    | succ n ih =>
      intro c s hc hT hp he
      simp only [fold] at he
      have K136 : ∀ s2 : TS, TI (R * C) V s2 → s2.1 pr + 1 ≤ V → fold (cfStep (fanF C (R * C) (ks one)) (fanF C (R * C) (ks other)) fr still pr) n (c + 1) s2 = F → J 3 mX6_comeFrom 136 [.ref 33, .int (nI pr), .int (nI one), .int (nI other), .int (nI still), .int (nI (pr / 12)), .int (nI (pr % 12)), .int (nI (cfG (fanF C (R * C) (ks one)) fr still (pr / 12) (pr % 12))), .int (nI (cfG (fanF C (R * C) (ks other)) fr still (pr % 12) (pr / 12))), .int (nI c)] [] (((w.set 41 (nA 144 s2.1)).set 42 (nA 144 s2.2.1)).set 33 (oM bd R C fr lp lps sn sz wh nc nf nl (s2.2.2) sd ik kb kf kl kn hh)) (fun v u => v = none ∧ u = ((w.set 41 (nA 144 F.1)).set 42 (nA 144 F.2.1)).set 33 (oM bd R C fr lp lps sn sz wh nc nf nl (F.2.2) sd ik kb kf kl kn hh)) := by
        intro s2 hT2 hp2 he2
        have ih2 := ih (c + 1) s2 (by omega) hT2 hp2 he2
        refine j_iincN iX6_comeFrom_136 rfl (by decide) rfl ?_
        dsimp only [List.set]
        refine j_goto (tgt := 67) iX6_comeFrom_139 (by decide) ?_
        exact ih2
      have K106 : ∀ s1 : TS, TI (R * C) V s1 → s1.1 pr + 1 ≤ V → s1 = cf1 (cfG (fanF C (R * C) (ks one)) fr still (pr / 12) (pr % 12)) (pr % 12) pr c s → J 3 mX6_comeFrom 106 [.ref 33, .int (nI pr), .int (nI one), .int (nI other), .int (nI still), .int (nI (pr / 12)), .int (nI (pr % 12)), .int (nI (cfG (fanF C (R * C) (ks one)) fr still (pr / 12) (pr % 12))), .int (nI (cfG (fanF C (R * C) (ks other)) fr still (pr % 12) (pr / 12))), .int (nI c)] [] (((w.set 41 (nA 144 s1.1)).set 42 (nA 144 s1.2.1)).set 33 (oM bd R C fr lp lps sn sz wh nc nf nl (s1.2.2) sd ik kb kf kl kn hh)) (fun v u => v = none ∧ u = ((w.set 41 (nA 144 F.1)).set 42 (nA 144 F.2.1)).set 33 (oM bd R C fr lp lps sn sz wh nc nf nl (F.2.2) sd ik kb kf kl kn hh)) := by
        intro s1 hT1 hp1 he1
        have hc1 : s1.1 pr ≠ 268435456 := by omega
        refine j_iload iX6_comeFrom_106 rfl ?_
        refine j_iload iX6_comeFrom_108 rfl ?_
        refine j_S2R okX6_isIn lk_X6_92 iX6_comeFrom_110 (by omega) (m_isIn _ c (by omega) (by omega)) rfl (Nat.le_of_ble_eq_true rfl) (Nat.le_of_ble_eq_true rfl) ?_
        refine j_if_eqB (tgt := 136) iX6_comeFrom_113 (by decide) (fun h113 => ?_) (fun h113 => ?_)
        · first | exact K136 s1 hT1 hp1 (by rw [← he]; congr 1; unfold cfStep; rw [← he1]; unfold cf2; rw [if_neg (nt h113)]) | exact K136 (ctF (12 * (pr / 12) + c) (s1.1 pr + 1) s1) (hT1.ct (by omega) (by omega) (by omega) hp1 hV) (by rw [ct_keep hc1]; exact hp1) (by rw [← he]; congr 1; unfold cfStep; rw [← he1]; unfold cf2; rw [if_pos h113])
        · refine j_aload_n iX6_comeFrom_116 rfl ?_
          refine j_bipush (v := nI 12) iX6_comeFrom_117 (by decide) ?_
          refine j_iload iX6_comeFrom_119 rfl ?_
          refine j_imulN iX6_comeFrom_121  ?_
          refine j_iload iX6_comeFrom_122 rfl ?_
          refine j_iaddN iX6_comeFrom_124  ?_
          refine j_aload_n iX6_comeFrom_125 rfl ?_
          refine j_get fk_X6_32 iX6_comeFrom_126 (by repeat (first | assumption | refine wset_ne (by decide) ?_ | exact wset_lt (by (try simp only [List.length_set]); exact wsome (by assumption)))) (by rfl) ?_
          refine j_iload_n iX6_comeFrom_129 rfl ?_
          refine j_ialdN iX6_comeFrom_130 (by repeat (first | assumption | refine wset_ne (by decide) ?_ | exact wset_lt (by (try simp only [List.length_set]); exact wsome (by assumption)))) (by omega) ?_
          refine j_iconst (v := nI 1) iX6_comeFrom_131 (by decide) ?_
          refine j_iaddN iX6_comeFrom_132  ?_
          refine j_V2U (r := .null) okX6_comeTo lk_X6_201 iX6_comeFrom_133 (by omega) (by repeat (first | assumption | refine wset_ne (by decide) ?_ | exact wset_lt (by (try simp only [List.length_set]); exact wsome (by assumption)))) rfl (m_comeTo hm h41 h42 hT1 hV (12 * (pr / 12) + c) (s1.1 pr + 1) (by omega)) rfl (Nat.le_of_ble_eq_true rfl) (Nat.le_of_ble_eq_true rfl) ?_
          first | exact K136 s1 hT1 hp1 (by rw [← he]; congr 1; unfold cfStep; rw [← he1]; unfold cf2; rw [if_neg (nt h113)]) | exact K136 (ctF (12 * (pr / 12) + c) (s1.1 pr + 1) s1) (hT1.ct (by omega) (by omega) (by omega) hp1 hV) (by rw [ct_keep hc1]; exact hp1) (by rw [← he]; congr 1; unfold cfStep; rw [← he1]; unfold cf2; rw [if_pos h113])
      have hc0 : s.1 pr ≠ 268435456 := by omega
      refine j_iload iX6_comeFrom_67 rfl ?_
      refine j_aload_n iX6_comeFrom_69 rfl ?_
      refine j_V0R okX6_cells lk_X6_131 iX6_comeFrom_70 (by omega) (by repeat (first | assumption | refine wset_ne (by decide) ?_ | exact wset_lt (by (try simp only [List.length_set]); exact wsome (by assumption)))) rfl (m_cells ((by repeat (first | assumption | refine wset_ne (by decide) ?_ | exact wset_lt (by (try simp only [List.length_set]); exact wsome (by assumption)))) : _ = some (oM bd R C fr lp lps sn sz wh nc nf nl (s.2.2) sd ik kb kf kl kn hh))) rfl (Nat.le_of_ble_eq_true rfl) (Nat.le_of_ble_eq_true rfl) ?_
      refine j_icmp_geN (tgt := 142) iX6_comeFrom_73 (by decide) (by omega) (by omega) (fun hno => by exfalso; omega) (fun _ => ?_)
      refine j_iload iX6_comeFrom_76 rfl ?_
      refine j_iload iX6_comeFrom_78 rfl ?_
      refine j_S2R okX6_isIn lk_X6_92 iX6_comeFrom_80 (by omega) (m_isIn _ c (by omega) (by omega)) rfl (Nat.le_of_ble_eq_true rfl) (Nat.le_of_ble_eq_true rfl) ?_
      refine j_if_eqB (tgt := 106) iX6_comeFrom_83 (by decide) (fun h83 => ?_) (fun h83 => ?_)
      · first | exact K106 s hT hp (by unfold cf1; rw [if_neg (nt h83)]) | exact K106 (ctF (12 * c + pr % 12) (s.1 pr + 1) s) (hT.ct (by omega) (by omega) (by omega) hp hV) (by rw [ct_keep hc0]; exact hp) (by unfold cf1; rw [if_pos h83])
      · refine j_aload_n iX6_comeFrom_86 rfl ?_
        refine j_bipush (v := nI 12) iX6_comeFrom_87 (by decide) ?_
        refine j_iload iX6_comeFrom_89 rfl ?_
        refine j_imulN iX6_comeFrom_91  ?_
        refine j_iload iX6_comeFrom_92 rfl ?_
        refine j_iaddN iX6_comeFrom_94  ?_
        refine j_aload_n iX6_comeFrom_95 rfl ?_
        refine j_get fk_X6_32 iX6_comeFrom_96 (by repeat (first | assumption | refine wset_ne (by decide) ?_ | exact wset_lt (by (try simp only [List.length_set]); exact wsome (by assumption)))) (by rfl) ?_
        refine j_iload_n iX6_comeFrom_99 rfl ?_
        refine j_ialdN iX6_comeFrom_100 (by repeat (first | assumption | refine wset_ne (by decide) ?_ | exact wset_lt (by (try simp only [List.length_set]); exact wsome (by assumption)))) (by omega) ?_
        refine j_iconst (v := nI 1) iX6_comeFrom_101 (by decide) ?_
        refine j_iaddN iX6_comeFrom_102  ?_
        refine j_V2U (r := .null) okX6_comeTo lk_X6_201 iX6_comeFrom_103 (by omega) (by repeat (first | assumption | refine wset_ne (by decide) ?_ | exact wset_lt (by (try simp only [List.length_set]); exact wsome (by assumption)))) rfl (m_comeTo hm h41 h42 hT hV (12 * c + pr % 12) (s.1 pr + 1) (by omega)) rfl (Nat.le_of_ble_eq_true rfl) (Nat.le_of_ble_eq_true rfl) ?_
        first | exact K106 s hT hp (by unfold cf1; rw [if_neg (nt h83)]) | exact K106 (ctF (12 * c + pr % 12) (s.1 pr + 1) s) (hT.ct (by omega) (by omega) (by omega) hp hV) (by rw [ct_keep hc0]; exact hp) (by unfold cf1; rw [if_pos h83])
  refine j_start (ls := [.ref 33, .int (nI pr), .int (nI one), .int (nI other), .int (nI still), .null, .null, .null, .null, .null]) rfl ?_
  refine j_iload_n iX6_comeFrom_0 rfl ?_
  refine j_bipush (v := nI 12) iX6_comeFrom_1 (by decide) ?_
  refine j_idivN iX6_comeFrom_3 (by omega) (by omega) (by omega) ?_
  refine j_istore iX6_comeFrom_4 (by decide) rfl ?_
  dsimp only [List.set]
  refine j_iload_n iX6_comeFrom_6 rfl ?_
  refine j_bipush (v := nI 12) iX6_comeFrom_7 (by decide) ?_
  refine j_iremN iX6_comeFrom_9 (by omega) (by omega) (by omega) ?_
  refine j_istore iX6_comeFrom_10 (by decide) rfl ?_
  dsimp only [List.set]
  refine j_aload_n iX6_comeFrom_12 rfl ?_
  refine j_aload_n iX6_comeFrom_13 rfl ?_
  refine j_get fk_X6_7 iX6_comeFrom_14 (by repeat (first | assumption | refine wset_ne (by decide) ?_ | exact wset_lt (by (try simp only [List.length_set]); exact wsome (by assumption)))) (by rfl) ?_
  refine j_iload_n iX6_comeFrom_17 rfl ?_
  refine j_ialdN iX6_comeFrom_18 (by repeat (first | assumption | refine wset_ne (by decide) ?_ | exact wset_lt (by (try simp only [List.length_set]); exact wsome (by assumption)))) (by omega) ?_
  refine j_iload iX6_comeFrom_19 rfl ?_
  refine j_V2R okX6_around lk_X6_145 iX6_comeFrom_21 (by omega) (by repeat (first | assumption | refine wset_ne (by decide) ?_ | exact wset_lt (by (try simp only [List.length_set]); exact wsome (by assumption)))) rfl (m_around ((by repeat (first | assumption | refine wset_ne (by decide) ?_ | exact wset_lt (by (try simp only [List.length_set]); exact wsome (by assumption)))) : _ = some (oM bd R C fr lp lps sn sz wh nc nf nl (s0.2.2) sd ik kb kf kl kn hh)) hN hfr (ks one) (pr / 12) hk1 hpa) rfl (Nat.le_of_ble_eq_true rfl) (Nat.le_of_ble_eq_true rfl) ?_
  refine j_iload iX6_comeFrom_24 rfl ?_
  refine j_iconst (v := (-1)) iX6_comeFrom_26 (by decide) ?_
  refine j_ixor iX6_comeFrom_27 ?_
  refine j_iandnN iX6_comeFrom_28 ?_
  refine j_iconst (v := nI 1) iX6_comeFrom_29 (by decide) ?_
  refine j_iload iX6_comeFrom_30 rfl ?_
  refine j_ishlN iX6_comeFrom_32 (by omega) ?_
  refine j_iconst (v := (-1)) iX6_comeFrom_33 (by decide) ?_
  refine j_ixor iX6_comeFrom_34 ?_
  refine j_iandnN iX6_comeFrom_35 ?_
  refine j_istore iX6_comeFrom_36 (by decide) rfl ?_
  dsimp only [List.set]
  refine j_aload_n iX6_comeFrom_38 rfl ?_
  refine j_aload_n iX6_comeFrom_39 rfl ?_
  refine j_get fk_X6_7 iX6_comeFrom_40 (by repeat (first | assumption | refine wset_ne (by decide) ?_ | exact wset_lt (by (try simp only [List.length_set]); exact wsome (by assumption)))) (by rfl) ?_
  refine j_iload_n iX6_comeFrom_43 rfl ?_
  refine j_ialdN iX6_comeFrom_44 (by repeat (first | assumption | refine wset_ne (by decide) ?_ | exact wset_lt (by (try simp only [List.length_set]); exact wsome (by assumption)))) (by omega) ?_
  refine j_iload iX6_comeFrom_45 rfl ?_
  refine j_V2R okX6_around lk_X6_145 iX6_comeFrom_47 (by omega) (by repeat (first | assumption | refine wset_ne (by decide) ?_ | exact wset_lt (by (try simp only [List.length_set]); exact wsome (by assumption)))) rfl (m_around ((by repeat (first | assumption | refine wset_ne (by decide) ?_ | exact wset_lt (by (try simp only [List.length_set]); exact wsome (by assumption)))) : _ = some (oM bd R C fr lp lps sn sz wh nc nf nl (s0.2.2) sd ik kb kf kl kn hh)) hN hfr (ks other) (pr % 12) hk2 hpb) rfl (Nat.le_of_ble_eq_true rfl) (Nat.le_of_ble_eq_true rfl) ?_
  refine j_iload iX6_comeFrom_50 rfl ?_
  refine j_iconst (v := (-1)) iX6_comeFrom_52 (by decide) ?_
  refine j_ixor iX6_comeFrom_53 ?_
  refine j_iandnN iX6_comeFrom_54 ?_
  refine j_iconst (v := nI 1) iX6_comeFrom_55 (by decide) ?_
  refine j_iload iX6_comeFrom_56 rfl ?_
  refine j_ishlN iX6_comeFrom_58 (by omega) ?_
  refine j_iconst (v := (-1)) iX6_comeFrom_59 (by decide) ?_
  refine j_ixor iX6_comeFrom_60 ?_
  refine j_iandnN iX6_comeFrom_61 ?_
  refine j_istore iX6_comeFrom_62 (by decide) rfl ?_
  dsimp only [List.set]
  refine j_iconst (v := nI 0) iX6_comeFrom_64 (by decide) ?_
  refine j_istore iX6_comeFrom_65 (by decide) rfl ?_
  dsimp only [List.set]
  exact L (R * C) 0 s0 (by omega) hT0 hlv hF
def stilF (lp : Nat) (sts : Nat → Nat) (i j : Nat) : Nat := ad (stdF lp sts) (2 ^ sts i ||| 2 ^ sts j)
def tradeM (C N fr lp : Nat) (ks sts : Nat → Nat) (r0 : Nat → Nat) (i j : Nat) : Int32 := if (tmF (fanF C N (ks i)) (fanF C N (ks j)) fr (stilF lp sts i j) N (12 * sts i + sts j) r0).1 (12 * sts j + sts i) = 268435456 then -1 else nI ((tmF (fanF C N (ks i)) (fanF C N (ks j)) fr (stilF lp sts i j) N (12 * sts i + sts j) r0).1 (12 * sts j + sts i))
theorem cfF_keep {f g : Nat → Nat} {fr still N pr p : Nat} {s : TS} (h : s.1 p ≠ 268435456) : (cfF f g fr still N pr s).1 p = s.1 p := by
  unfold cfF
  refine fold_inv (P := fun z : TS => z.1 p = s.1 p) N 0 s rfl fun j y _ _ hy => ?_
  have h1 : (cf1 (cfG f fr still (pr / 12) (pr % 12)) (pr % 12) pr j y).1 p = s.1 p := by
    unfold cf1
    split
    · rw [ct_keep (by rw [hy]; exact h)]; exact hy
    · exact hy
  unfold cfStep
  generalize cf1 (cfG f fr still (pr / 12) (pr % 12)) (pr % 12) pr j y = y1 at h1 ⊢
  unfold cf2
  split
  · rw [ct_keep (by rw [h1]; exact h)]; exact h1
  · exact h1
theorem cfF_TI {f g : Nat → Nat} {fr still N pr V : Nat} {s : TS} (hN : N ≤ 12) (hT : TI N V s) (hV : V < 268435456) (hpr : pr < 144) (hpa : pr / 12 < N) (hpb : pr % 12 < N) (hlv : s.1 pr + 1 ≤ V) : TI N V (cfF f g fr still N pr s) := by
  unfold cfF
  refine (fold_inv (P := fun z : TS => TI N V z ∧ z.1 pr + 1 ≤ V) N 0 s ⟨hT, hlv⟩ fun j y _ hj hy => ?_).1
  have hj : j < N := by omega
  have h1 : TI N V (cf1 (cfG f fr still (pr / 12) (pr % 12)) (pr % 12) pr j y) ∧ (cf1 (cfG f fr still (pr / 12) (pr % 12)) (pr % 12) pr j y).1 pr + 1 ≤ V := by
    unfold cf1
    split
    · exact ⟨hy.1.ct (by omega) (by omega) (by omega) hy.2 hV, by rw [ct_keep (by have := hy.2; omega)]; exact hy.2⟩
    · exact hy
  unfold cfStep
  generalize cf1 (cfG f fr still (pr / 12) (pr % 12)) (pr % 12) pr j y = y1 at h1 ⊢
  unfold cf2
  split
  · exact ⟨h1.1.ct (by omega) (by omega) (by omega) h1.2 hV, by rw [ct_keep (by have := h1.2; omega)]; exact h1.2⟩
  · exact h1
theorem m_tradeNow {z1 z2 : Nat → Nat} (hm : w[33]? = some (oM bd R C fr lp lps sn sz wh nc nf nl tl sd ik kb kf kl kn hh)) (h34 : w[34]? = some (nA 4 ks)) (h35 : w[35]? = some (nA 4 sts)) (h41 : w[41]? = some (nA 144 z1)) (h42 : w[42]? = some (nA 144 z2)) (hN : R * C ≤ 12) (hfr : fr < 4096) (hlp : lp ≤ 4) (hks : ∀ i, ks i < 5) (hst : ∀ i, sts i < 12) (i j : Nat) (hi : i < 4) (hj : j < 4) (hsi : sts i < R * C) (hsj : sts j < R * C) :
    JX 4 mX6_tradeNow [.ref 33, .int (nI i), .int (nI j)] w (fun v u => v = some (.int (tradeM C (R * C) fr lp ks sts z2 i j)) ∧ ∃ x y t, u = ((w.set 41 (nA 144 x)).set 42 (nA 144 y)).set 33 (oM bd R C fr lp lps sn sz wh nc nf nl (t) sd ik kb kf kl kn hh)) := by
  have a1 := hst i
  have a2 := hst j
  have hstl : stilF lp sts i j < 4096 := ad_b (std_b hst)
  have hfar : (fun _ : Nat => 268435456) = fun _ : Nat => 268435456 := rfl
  have LK : ∀ (n k : Nat) (s : TS), 145 ≤ k + n → k ≤ 144 → TI (R * C) k s → tmFrom (fanF C (R * C) (ks i)) (fanF C (R * C) (ks j)) fr (stilF lp sts i j) (R * C) n k s = tmF (fanF C (R * C) (ks i)) (fanF C (R * C) (ks j)) fr (stilF lp sts i j) (R * C) (12 * sts i + sts j) z2 →
      J 4 mX6_tradeNow 80 [.ref 33, .int (nI i), .int (nI j), .int (nI (stilF lp sts i j)), .int (nI k)] [] (((w.set 41 (nA 144 s.1)).set 42 (nA 144 s.2.1)).set 33 (oM bd R C fr lp lps sn sz wh nc nf nl (s.2.2) sd ik kb kf kl kn hh)) (fun v u => v = some (.int (tradeM C (R * C) fr lp ks sts z2 i j)) ∧ ∃ x y t, u = ((w.set 41 (nA 144 x)).set 42 (nA 144 y)).set 33 (oM bd R C fr lp lps sn sz wh nc nf nl (t) sd ik kb kf kl kn hh)) := by
    intro n
    induction n with
    | zero => intro k s h1 h2 _ _; omega
    | succ n ih =>
      intro k s h1 h2 hT he
      rw [tmFrom_s] at he
      have hle := hT.le
      by_cases hk : k < s.2.2
      · rw [if_pos hk] at he
        have hr := hT.2.1 k hk
        have hv : s.1 (s.2.1 k) ≤ k := (hT.1 (s.2.1 k)).resolve_left hr.2.2.2
        have hT' := hT.mono (Nat.le_succ k)
        have ih2 := ih (k + 1) (cfF (fanF C (R * C) (ks i)) (fanF C (R * C) (ks j)) fr (stilF lp sts i j) (R * C) (s.2.1 k) s) (by omega) (by omega) (cfF_TI hN hT' (by omega) hr.1 hr.2.1 hr.2.2.1 (by omega)) he
        refine j_iload iX6_tradeNow_80 rfl ?_
        refine j_aload_n iX6_tradeNow_82 rfl ?_
        refine j_get fk_X6_198 iX6_tradeNow_83 (by repeat (first | assumption | refine wset_ne (by decide) ?_ | exact wset_lt (by (try simp only [List.length_set]); exact wsome (by assumption)))) (by rfl) ?_
        refine j_icmp_geN (tgt := 109) iX6_tradeNow_86 (by decide) (by omega) (by omega) (fun hno => by exfalso; omega) (fun _ => ?_)
        refine j_aload_n iX6_tradeNow_89 rfl ?_
        refine j_aload_n iX6_tradeNow_90 rfl ?_
        refine j_get fk_X6_35 iX6_tradeNow_91 (by repeat (first | assumption | refine wset_ne (by decide) ?_ | exact wset_lt (by (try simp only [List.length_set]); exact wsome (by assumption)))) (by rfl) ?_
        refine j_iload iX6_tradeNow_94 rfl ?_
        refine j_ialdN iX6_tradeNow_96 (by repeat (first | assumption | refine wset_ne (by decide) ?_ | exact wset_lt (by (try simp only [List.length_set]); exact wsome (by assumption)))) (by omega) ?_
        refine j_iload_n iX6_tradeNow_97 rfl ?_
        refine j_iload_n iX6_tradeNow_98 rfl ?_
        refine j_iload_n iX6_tradeNow_99 rfl ?_
        refine j_V4U (r := .null) okX6_comeFrom lk_X6_205 iX6_tradeNow_100 (by omega) (by repeat (first | assumption | refine wset_ne (by decide) ?_ | exact wset_lt (by (try simp only [List.length_set]); exact wsome (by assumption)))) rfl (m_comeFrom hm h34 h41 h42 hN hfr hks hT' (by omega) (s.2.1 k) i j _ hr.1 hr.2.1 hr.2.2.1 (by omega) hi hj hstl) rfl (Nat.le_of_ble_eq_true rfl) (Nat.le_of_ble_eq_true rfl) ?_
        refine j_iincN iX6_tradeNow_103 rfl (by decide) rfl ?_
        dsimp only [List.set]
        refine j_goto (tgt := 80) iX6_tradeNow_106 (by decide) ?_
        exact ih2
      · rw [if_neg hk] at he
        have hb : s.1 (12 * sts j + sts i) < 2 ^ 31 := by rcases hT.1 (12 * sts j + sts i) with h | h <;> omega
        refine j_iload iX6_tradeNow_80 rfl ?_
        refine j_aload_n iX6_tradeNow_82 rfl ?_
        refine j_get fk_X6_198 iX6_tradeNow_83 (by repeat (first | assumption | refine wset_ne (by decide) ?_ | exact wset_lt (by (try simp only [List.length_set]); exact wsome (by assumption)))) (by rfl) ?_
        refine j_icmp_geN (tgt := 109) iX6_tradeNow_86 (by decide) (by omega) (by omega) (fun _ => ?_) (fun hno => by exfalso; omega)
        refine j_aload_n iX6_tradeNow_109 rfl ?_
        refine j_get fk_X6_32 iX6_tradeNow_110 (by repeat (first | assumption | refine wset_ne (by decide) ?_ | exact wset_lt (by (try simp only [List.length_set]); exact wsome (by assumption)))) (by rfl) ?_
        refine j_bipush (v := nI 12) iX6_tradeNow_113 (by decide) ?_
        refine j_aload_n iX6_tradeNow_115 rfl ?_
        refine j_get fk_X6_13 iX6_tradeNow_116 (by repeat (first | assumption | refine wset_ne (by decide) ?_ | exact wset_lt (by (try simp only [List.length_set]); exact wsome (by assumption)))) (by rfl) ?_
        refine j_iload_n iX6_tradeNow_119 rfl ?_
        refine j_ialdN iX6_tradeNow_120 (by repeat (first | assumption | refine wset_ne (by decide) ?_ | exact wset_lt (by (try simp only [List.length_set]); exact wsome (by assumption)))) (by omega) ?_
        refine j_imulN iX6_tradeNow_121  ?_
        refine j_aload_n iX6_tradeNow_122 rfl ?_
        refine j_get fk_X6_13 iX6_tradeNow_123 (by repeat (first | assumption | refine wset_ne (by decide) ?_ | exact wset_lt (by (try simp only [List.length_set]); exact wsome (by assumption)))) (by rfl) ?_
        refine j_iload_n iX6_tradeNow_126 rfl ?_
        refine j_ialdN iX6_tradeNow_127 (by repeat (first | assumption | refine wset_ne (by decide) ?_ | exact wset_lt (by (try simp only [List.length_set]); exact wsome (by assumption)))) (by omega) ?_
        refine j_iaddN iX6_tradeNow_128  ?_
        refine j_ialdN iX6_tradeNow_129 (by repeat (first | assumption | refine wset_ne (by decide) ?_ | exact wset_lt (by (try simp only [List.length_set]); exact wsome (by assumption)))) (by omega) ?_
        refine j_istore iX6_tradeNow_130 (by decide) rfl ?_
        dsimp only [List.set]
        refine j_iload iX6_tradeNow_132 rfl ?_
        refine j_ldc iX6_tradeNow_134 kc_X6_197 ?_
        refine j_top (y := nI 268435456) (by decide) ?_
        refine j_icmp_neN (tgt := 143) iX6_tradeNow_136 (by decide) (by omega) (by omega) (fun h136 => ?_) (fun h136 => ?_)
        · refine j_iload iX6_tradeNow_143 rfl ?_
          refine j_iret iX6_tradeNow_145 rfl (by first | rfl | exact nar_bI _ | exact nar_bP) (⟨by unfold tradeM; rw [← he]; first | rw [if_pos h136]; done | rw [if_neg h136], s.1, s.2.1, s.2.2, rfl⟩)
        · refine j_iconst (v := (-1)) iX6_tradeNow_139 (by decide) ?_
          refine j_goto (tgt := 145) iX6_tradeNow_140 (by decide) ?_
          refine j_iret iX6_tradeNow_145 rfl (by first | rfl | exact nar_bI _ | exact nar_bP) (⟨by unfold tradeM; rw [← he]; first | rw [if_pos h136]; done | rw [if_neg h136], s.1, s.2.1, s.2.2, rfl⟩)
  have L1 : ∀ (n k : Nat) (g : Nat → Nat), k + n = 144 → (∀ q, q < k → g q = 268435456) → J 4 mX6_tradeNow 28 [.ref 33, .int (nI i), .int (nI j), .int (nI (stilF lp sts i j)), .int (nI k)] [] (w.set 41 (nA 144 g)) (fun v u => v = some (.int (tradeM C (R * C) fr lp ks sts z2 i j)) ∧ ∃ x y t, u = ((w.set 41 (nA 144 x)).set 42 (nA 144 y)).set 33 (oM bd R C fr lp lps sn sz wh nc nf nl (t) sd ik kb kf kl kn hh)) := by
    intro n
    induction n with
    | zero =>
      intro k g hk hg
      have e41 : (w.set 41 (nA 144 g))[41]? = some (nA 144 g) := (by repeat (first | assumption | refine wset_ne (by decide) ?_ | exact wset_lt (by (try simp only [List.length_set]); exact wsome (by assumption))))
      refine j_arrN (g := fun _ => 268435456) (fun q hq => hg q (by omega)) e41 ?_
      rw [wset2]
      have e42 : (w.set 41 (nA 144 (fun _ => 268435456)))[42]? = some (nA 144 z2) := (by repeat (first | assumption | refine wset_ne (by decide) ?_ | exact wset_lt (by (try simp only [List.length_set]); exact wsome (by assumption))))
      have hT0 : TI (R * C) 0 ((fun _ => 268435456, z2, 0) : TS) := ⟨fun _ => Or.inl rfl, fun q hq => absurd hq (Nat.not_lt_zero _), (cnt_congr 144 (P' := fun _ => false) (fun _ _ => decide_eq_false (fun h => h rfl))).trans (cnt_0 144)⟩
      have hT1 := hT0.ct (pr := 12 * sts i + sts j) (lv := 0) (by omega) (by omega) (by omega) (Nat.le_refl _) (by decide)
      have hct := m_comeTo (bd := bd) (R := R) (C := C) (fr := fr) (lp := lp) (lps := lps) (sn := sn) (sz := sz) (wh := wh) (nc := nc) (nf := nf) (nl := nl) (tl := tl) (sd := sd) (ik := ik) (kb := kb) (kf := kf) (kl := kl) (kn := kn) (hh := hh) hm h41 h42 hT0 (by decide) (12 * sts i + sts j) 0 (by omega)
      have hK := LK 145 0 _ (by decide) (by decide) hT1 rfl
      simp only at hct
      rw [wset_eq e42] at hct
      refine j_iload iX6_tradeNow_28 rfl ?_
      refine j_sipush (v := nI 144) iX6_tradeNow_30 (by decide) ?_
      refine j_icmp_geN (tgt := 51) iX6_tradeNow_33 (by decide) (by omega) (by omega) (fun _ => ?_) (fun hno => by exfalso; omega)
      refine j_aload_n iX6_tradeNow_51 rfl ?_
      refine j_iconst (v := nI 0) iX6_tradeNow_52 (by decide) ?_
      refine j_put fk_X6_198 iX6_tradeNow_53 (by repeat (first | assumption | refine wset_ne (by decide) ?_ | exact wset_lt (by (try simp only [List.length_set]); exact wsome (by assumption)))) (by intro; rfl) (by intro; rfl) (Nat.le_of_ble_eq_true rfl) ?_
      dsimp only [List.set]
      refine j_aload_n iX6_tradeNow_56 rfl ?_
      refine j_bipush (v := nI 12) iX6_tradeNow_57 (by decide) ?_
      refine j_aload_n iX6_tradeNow_59 rfl ?_
      refine j_get fk_X6_13 iX6_tradeNow_60 (by repeat (first | assumption | refine wset_ne (by decide) ?_ | exact wset_lt (by (try simp only [List.length_set]); exact wsome (by assumption)))) (by rfl) ?_
      refine j_iload_n iX6_tradeNow_63 rfl ?_
      refine j_ialdN iX6_tradeNow_64 (by repeat (first | assumption | refine wset_ne (by decide) ?_ | exact wset_lt (by (try simp only [List.length_set]); exact wsome (by assumption)))) (by omega) ?_
      refine j_imulN iX6_tradeNow_65  ?_
      refine j_aload_n iX6_tradeNow_66 rfl ?_
      refine j_get fk_X6_13 iX6_tradeNow_67 (by repeat (first | assumption | refine wset_ne (by decide) ?_ | exact wset_lt (by (try simp only [List.length_set]); exact wsome (by assumption)))) (by rfl) ?_
      refine j_iload_n iX6_tradeNow_70 rfl ?_
      refine j_ialdN iX6_tradeNow_71 (by repeat (first | assumption | refine wset_ne (by decide) ?_ | exact wset_lt (by (try simp only [List.length_set]); exact wsome (by assumption)))) (by omega) ?_
      refine j_iaddN iX6_tradeNow_72  ?_
      refine j_iconst (v := nI 0) iX6_tradeNow_73 (by decide) ?_
      refine j_V2U (r := .null) okX6_comeTo lk_X6_201 iX6_tradeNow_74 (by omega) (by repeat (first | assumption | refine wset_ne (by decide) ?_ | exact wset_lt (by (try simp only [List.length_set]); exact wsome (by assumption)))) rfl (hct) rfl (Nat.le_of_ble_eq_true rfl) (Nat.le_of_ble_eq_true rfl) ?_
      refine j_iconst (v := nI 0) iX6_tradeNow_77 (by decide) ?_
      refine j_istore iX6_tradeNow_78 (by decide) rfl ?_
      dsimp only [List.set]
      exact hK
    | succ n ih =>
      intro k g hk hg
      refine j_iload iX6_tradeNow_28 rfl ?_
      refine j_sipush (v := nI 144) iX6_tradeNow_30 (by decide) ?_
      refine j_icmp_geN (tgt := 51) iX6_tradeNow_33 (by decide) (by omega) (by omega) (fun hno => by exfalso; omega) (fun _ => ?_)
      refine j_aload_n iX6_tradeNow_36 rfl ?_
      refine j_get fk_X6_32 iX6_tradeNow_37 (by repeat (first | assumption | refine wset_ne (by decide) ?_ | exact wset_lt (by (try simp only [List.length_set]); exact wsome (by assumption)))) (by rfl) ?_
      refine j_iload iX6_tradeNow_40 rfl ?_
      refine j_ldc iX6_tradeNow_42 kc_X6_197 ?_
      refine j_top (y := nI 268435456) (by decide) ?_
      refine j_iastN iX6_tradeNow_44 (by repeat (first | assumption | refine wset_ne (by decide) ?_ | exact wset_lt (by (try simp only [List.length_set]); exact wsome (by assumption)))) (by omega) ?_
      refine j_iincN iX6_tradeNow_45 rfl (by decide) rfl ?_
      dsimp only [List.set]
      refine j_goto (tgt := 28) iX6_tradeNow_48 (by decide) ?_
      rw [wset2]; exact ih (k + 1) _ (by omega) (un_upto hg rfl)
  refine j_start (ls := [.ref 33, .int (nI i), .int (nI j), .null, .null]) rfl ?_
  refine j_aload_n iX6_tradeNow_0 rfl ?_
  refine j_V0R okX6_standing lk_X6_151 iX6_tradeNow_1 (by omega) (by repeat (first | assumption | refine wset_ne (by decide) ?_ | exact wset_lt (by (try simp only [List.length_set]); exact wsome (by assumption)))) rfl (m_standing hm h35 hlp hst) rfl (Nat.le_of_ble_eq_true rfl) (Nat.le_of_ble_eq_true rfl) ?_
  refine j_iconst (v := nI 1) iX6_tradeNow_4 (by decide) ?_
  refine j_aload_n iX6_tradeNow_5 rfl ?_
  refine j_get fk_X6_13 iX6_tradeNow_6 (by repeat (first | assumption | refine wset_ne (by decide) ?_ | exact wset_lt (by (try simp only [List.length_set]); exact wsome (by assumption)))) (by rfl) ?_
  refine j_iload_n iX6_tradeNow_9 rfl ?_
  refine j_ialdN iX6_tradeNow_10 (by repeat (first | assumption | refine wset_ne (by decide) ?_ | exact wset_lt (by (try simp only [List.length_set]); exact wsome (by assumption)))) (by omega) ?_
  refine j_ishlN iX6_tradeNow_11 (by omega) ?_
  refine j_iconst (v := nI 1) iX6_tradeNow_12 (by decide) ?_
  refine j_aload_n iX6_tradeNow_13 rfl ?_
  refine j_get fk_X6_13 iX6_tradeNow_14 (by repeat (first | assumption | refine wset_ne (by decide) ?_ | exact wset_lt (by (try simp only [List.length_set]); exact wsome (by assumption)))) (by rfl) ?_
  refine j_iload_n iX6_tradeNow_17 rfl ?_
  refine j_ialdN iX6_tradeNow_18 (by repeat (first | assumption | refine wset_ne (by decide) ?_ | exact wset_lt (by (try simp only [List.length_set]); exact wsome (by assumption)))) (by omega) ?_
  refine j_ishlN iX6_tradeNow_19 (by omega) ?_
  refine j_iorN iX6_tradeNow_20  ?_
  refine j_iconst (v := (-1)) iX6_tradeNow_21 (by decide) ?_
  refine j_ixor iX6_tradeNow_22 ?_
  refine j_iandnN iX6_tradeNow_23 ?_
  refine j_istore_n iX6_tradeNow_24 (by decide) rfl ?_
  dsimp only [List.set]
  refine j_iconst (v := nI 0) iX6_tradeNow_25 (by decide) ?_
  refine j_istore iX6_tradeNow_26 (by decide) rfl ?_
  dsimp only [List.set]
  exact (by have := L1 144 0 z1 rfl (fun q hq => absurd hq (Nat.not_lt_zero _)); rw [wset_eq h41] at this; exact this)
theorem m_trade_u (hm : w[33]? = some (oM bd R C fr lp lps sn sz wh nc nf nl tl sd ik kb kf kl kn hh)) (hlp : lp ≤ 4) (x y : Int32) (hx : inR x lp = false ∨ inR y lp = false ∨ x = y) : JR 5 mX6_trade [.ref 33, .int x, .int y] w (.int (-101)) w := by
  refine j_start (ls := [.ref 33, .int x, .int y]) rfl ?_
  refine j_aload_n iX6_trade_0 rfl ?_
  refine j_iload_n iX6_trade_1 rfl ?_
  refine j_V1R okX6_isLeaper lk_X6_166 iX6_trade_2 (by omega) (by repeat (first | assumption | refine wset_ne (by decide) ?_ | exact wset_lt (by (try simp only [List.length_set]); exact wsome (by assumption)))) rfl (m_isLeaper hm hlp x) rfl (Nat.le_of_ble_eq_true rfl) (Nat.le_of_ble_eq_true rfl) ?_
  refine j_if_eqB (tgt := 30) iX6_trade_5 (by decide) (fun h5 => ?_) (fun h5 => ?_)
  · refine j_bipush (v := (-101)) iX6_trade_30 (by decide) ?_
    refine j_iret iX6_trade_32 rfl (by first | rfl | exact nar_bI _ | exact nar_bP) (⟨rfl, rfl⟩)
  · refine j_aload_n iX6_trade_8 rfl ?_
    refine j_iload_n iX6_trade_9 rfl ?_
    refine j_V1R okX6_isLeaper lk_X6_166 iX6_trade_10 (by omega) (by repeat (first | assumption | refine wset_ne (by decide) ?_ | exact wset_lt (by (try simp only [List.length_set]); exact wsome (by assumption)))) rfl (m_isLeaper hm hlp y) rfl (Nat.le_of_ble_eq_true rfl) (Nat.le_of_ble_eq_true rfl) ?_
    refine j_if_eqB (tgt := 30) iX6_trade_13 (by decide) (fun h13 => ?_) (fun h13 => ?_)
    · refine j_bipush (v := (-101)) iX6_trade_30 (by decide) ?_
      refine j_iret iX6_trade_32 rfl (by first | rfl | exact nar_bI _ | exact nar_bP) (⟨rfl, rfl⟩)
    · refine j_iload_n iX6_trade_16 rfl ?_
      refine j_iload_n iX6_trade_17 rfl ?_
      refine j_icmp_eq (tgt := 30) iX6_trade_18 (by decide) (fun _ => ?_) (fun hno => by first | exact absurd hno (by rcases hx with q | q | q; (rw [h5] at q; cases q); (rw [h13] at q; cases q); exact q) | exact absurd (by rcases hx with q | q | q; (rw [h5] at q; cases q); (rw [h13] at q; cases q); exact q) hno)
      refine j_bipush (v := (-101)) iX6_trade_30 (by decide) ?_
      refine j_iret iX6_trade_32 rfl (by first | rfl | exact nar_bI _ | exact nar_bP) (⟨rfl, rfl⟩)
theorem m_trade {z1 z2 : Nat → Nat} (hm : w[33]? = some (oM bd R C fr lp lps sn sz wh nc nf nl tl sd ik kb kf kl kn hh)) (h34 : w[34]? = some (nA 4 ks)) (h35 : w[35]? = some (nA 4 sts)) (h41 : w[41]? = some (nA 144 z1)) (h42 : w[42]? = some (nA 144 z2)) (hN : R * C ≤ 12) (hfr : fr < 4096) (hlp : lp ≤ 4) (hks : ∀ i, ks i < 5) (hst : ∀ i, sts i < 12) (hsN : ∀ i, i < lp → sts i < R * C) (i j : Nat) (hi : i < lp) (hj : j < lp) (hij : i ≠ j) :
    JX 5 mX6_trade [.ref 33, .int (nI i), .int (nI j)] w (fun v u => v = some (.int (tradeM C (R * C) fr lp ks sts z2 i j)) ∧ ∃ x y t, u = ((w.set 41 (nA 144 x)).set 42 (nA 144 y)).set 33 (oM bd R C fr lp lps sn sz wh nc nf nl (t) sd ik kb kf kl kn hh)) := by
  have hne : nI i ≠ nI j := fun z => hij ((nI_eq (by omega) (by omega)).mp z)
  refine j_start (ls := [.ref 33, .int (nI i), .int (nI j)]) rfl ?_
  refine j_aload_n iX6_trade_0 rfl ?_
  refine j_iload_n iX6_trade_1 rfl ?_
  refine j_V1R okX6_isLeaper lk_X6_166 iX6_trade_2 (by omega) (by repeat (first | assumption | refine wset_ne (by decide) ?_ | exact wset_lt (by (try simp only [List.length_set]); exact wsome (by assumption)))) rfl (m_isLeaper hm hlp _) rfl (Nat.le_of_ble_eq_true rfl) (Nat.le_of_ble_eq_true rfl) ?_
  refine j_if_eqB (tgt := 30) iX6_trade_5 (by decide) (fun hno => Bool.noConfusion (hno.symm.trans (show _ = true from by rw [inR_nI (by omega) (by omega)]; exact decide_eq_true hi))) (fun _ => ?_)
  refine j_aload_n iX6_trade_8 rfl ?_
  refine j_iload_n iX6_trade_9 rfl ?_
  refine j_V1R okX6_isLeaper lk_X6_166 iX6_trade_10 (by omega) (by repeat (first | assumption | refine wset_ne (by decide) ?_ | exact wset_lt (by (try simp only [List.length_set]); exact wsome (by assumption)))) rfl (m_isLeaper hm hlp _) rfl (Nat.le_of_ble_eq_true rfl) (Nat.le_of_ble_eq_true rfl) ?_
  refine j_if_eqB (tgt := 30) iX6_trade_13 (by decide) (fun hno => Bool.noConfusion (hno.symm.trans (show _ = true from by rw [inR_nI (by omega) (by omega)]; exact decide_eq_true hj))) (fun _ => ?_)
  refine j_iload_n iX6_trade_16 rfl ?_
  refine j_iload_n iX6_trade_17 rfl ?_
  refine j_icmp_eq (tgt := 30) iX6_trade_18 (by decide) (fun hno => by first | exact absurd hno (hne) | exact absurd (hne) hno) (fun _ => ?_)
  refine j_aload_n iX6_trade_21 rfl ?_
  refine j_iload_n iX6_trade_22 rfl ?_
  refine j_iload_n iX6_trade_23 rfl ?_
  refine j_V2X (r := .null) (w' := []) okX6_tradeNow lk_X6_209 iX6_trade_24 (by omega) (by repeat (first | assumption | refine wset_ne (by decide) ?_ | exact wset_lt (by (try simp only [List.length_set]); exact wsome (by assumption)))) rfl ((m_tradeNow hm h34 h35 h41 h42 hN hfr hlp hks hst i j (by omega) (by omega) (hsN i hi) (hsN j hj))) rfl (Nat.le_of_ble_eq_true rfl) (Nat.le_of_ble_eq_true rfl) ?_
  rintro v u ⟨rfl, x, y, t, rfl⟩
  refine j_goto (tgt := 32) iX6_trade_27 (by decide) ?_
  refine j_iret iX6_trade_32 rfl (by first | rfl | exact nar_bI _ | exact nar_bP) (⟨rfl, x, y, t, rfl⟩)
end
