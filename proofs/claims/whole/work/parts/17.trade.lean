/-! ===== the class: trades ===== -/
def prJoin (f p : Nat → Nat) (c : Nat) (n i r : Nat) : Nat := fold (fun b r => if (f c).testBit b = true then r ||| p b else r) n i r
def prNext (f g : Nat → Nat) (room : Nat) (p : Nat → Nat) (c : Nat) : Nat := if room.testBit c = true then ad (prJoin f p c 12 0 (p c ||| spread g (p c)) &&& room) (2 ^ c) else 0
def prMore (nx p : Nat → Nat) (n i : Nat) (m : Bool) : Bool := fold (fun c m => if nx c = p c then m else true) n i m
def trFrom (f g : Nat → Nat) (s t room : Nat) : Nat → Nat → (Nat → Nat) → Option Nat
  | 0, _, _ => none
  | n + 1, i, p => if (p t).testBit s = true then some i else if prMore (prNext f g room p) p 12 0 false = true then trFrom f g s t room n (i + 1) (prNext f g room p) else none
theorem trFrom_s (f g : Nat → Nat) (s t room n i : Nat) (p : Nat → Nat) : trFrom f g s t room (n + 1) i p = if (p t).testBit s = true then some i else if prMore (prNext f g room p) p 12 0 false = true then trFrom f g s t room n (i + 1) (prNext f g room p) else none := rfl
def trF (f g : Nat → Nat) (s t room : Nat) : Option Nat := trFrom f g s t room 144 0 (un (fun _ => 0) s (2 ^ t))
theorem prJoin_b {f p : Nat → Nat} (hp : ∀ i, p i < 4096) (c : Nat) : ∀ n i r, r < 4096 → prJoin f p c n i r < 4096 := by
  intro n i r h
  refine fold_inv (P := fun x => x < 4096) n i r h fun j y _ _ hy => ?_
  split
  · exact or_b hy (hp j)
  · exact hy
theorem prNext_b {f g p : Nat → Nat} {room : Nat} (hp : ∀ i, p i < 4096) (hg : ∀ i, g i < 4096) (c : Nat) : prNext f g room p c < 4096 := by
  unfold prNext
  split
  · exact ad_b (and_bL (prJoin_b hp c 12 0 _ (or_b (hp c) (spread_b hg _))))
  · decide
section
variable {w : mW} {a b : Nat} {f g : Nat → Nat}
theorem c_spreadPairs {p np : Nat → Nat} (h6 : w[6]? = some oT) (ha : w[a]? = some (nA 12 f)) (hb : w[b]? = some (nA 12 g)) (haa : a < 27) (hbb : b < 27) (hf : ∀ i, f i < 4096) (hg : ∀ i, g i < 4096) (h29 : w[29]? = some (nA 12 p)) (h30 : w[30]? = some (nA 12 np)) (hp : ∀ i, p i < 4096) (room : Nat) (hr : room < 4096) :
    JR 1 mX4_spreadPairs [.ref 6, .ref a, .ref b, .int (nI room)] w (.int (bI (prMore (prNext f g room p) p 12 0 false))) ((w.set 30 (nA 12 (prNext f g room p))).set 29 (nA 12 (prNext f g room p))) := by
  have L3 : ∀ (n i : Nat) (h : Nat → Nat) (m : Bool), i + n = 12 → (∀ j, j < i → h j = prNext f g room p j) → (∀ j, i ≤ j → h j = p j) → J 1 mX4_spreadPairs 125 [.ref 6, .ref a, .ref b, .int (nI room), .int (bI m), .int (nI i), .null, .null] [] ((w.set 30 (nA 12 (prNext f g room p))).set 29 (nA 12 h)) (fun v u => v = some (.int (bI (prMore (prNext f g room p) p n i m))) ∧ u = (w.set 30 (nA 12 (prNext f g room p))).set 29 (nA 12 (prNext f g room p))) := by
    intro n
    induction n with
    | zero =>
      intro i h m hi hh hh2
      have e29 : ((w.set 30 (nA 12 (prNext f g room p))).set 29 (nA 12 h))[29]? = some (nA 12 h) := (by repeat (first | assumption | refine wset_ne (by decide) ?_ | exact wset_lt (by (try simp only [List.length_set]); exact wsome (by assumption))))
      refine j_arrN (g := prNext f g room p) (fun j hj => hh j (by omega)) e29 ?_
      rw [wset2]
      refine j_iload iX4_spreadPairs_125 rfl ?_
      refine j_bipush (v := nI 12) iX4_spreadPairs_127 (by decide) ?_
      refine j_icmp_geN (tgt := 172) iX4_spreadPairs_129 (by decide) (by omega) (by omega) (fun _ => ?_) (fun hno => by exfalso; omega)
      refine j_iload iX4_spreadPairs_172 rfl ?_
      refine j_iret iX4_spreadPairs_174 rfl (by first | rfl | exact nar_bI _ | exact nar_bP) (⟨rfl, rfl⟩)
    | succ n ih =>
      intro i h m hi hh hh2
      have e1 := hh2 i (Nat.le_refl _)
      have q1 : prNext f g room p i < 4096 := prNext_b hp hg i
      have q2 : h i < 4096 := by rw [e1]; exact hp i
      refine j_iload iX4_spreadPairs_125 rfl ?_
      refine j_bipush (v := nI 12) iX4_spreadPairs_127 (by decide) ?_
      refine j_icmp_geN (tgt := 172) iX4_spreadPairs_129 (by decide) (by omega) (by omega) (fun hno => by exfalso; omega) (fun _ => ?_)
      refine j_aload_n iX4_spreadPairs_132 rfl ?_
      refine j_get fk_X4_21 iX4_spreadPairs_133 (by repeat (first | assumption | refine wset_ne (by decide) ?_ | exact wset_lt (by (try simp only [List.length_set]); exact wsome (by assumption)))) (by rfl) ?_
      refine j_iload iX4_spreadPairs_136 rfl ?_
      refine j_ialdN iX4_spreadPairs_138 (by repeat (first | assumption | refine wset_ne (by decide) ?_ | exact wset_lt (by (try simp only [List.length_set]); exact wsome (by assumption)))) (by omega) ?_
      refine j_aload_n iX4_spreadPairs_139 rfl ?_
      refine j_get fk_X4_18 iX4_spreadPairs_140 (by repeat (first | assumption | refine wset_ne (by decide) ?_ | exact wset_lt (by (try simp only [List.length_set]); exact wsome (by assumption)))) (by rfl) ?_
      refine j_iload iX4_spreadPairs_143 rfl ?_
      refine j_ialdN iX4_spreadPairs_145 (by repeat (first | assumption | refine wset_ne (by decide) ?_ | exact wset_lt (by (try simp only [List.length_set]); exact wsome (by assumption)))) (by omega) ?_
      refine j_icmp_eqN (tgt := 166) iX4_spreadPairs_146 (by decide) (by omega) (by omega) (fun h146 => ?_) (fun h146 => ?_)
      · refine j_iincN iX4_spreadPairs_166 rfl (by decide) rfl ?_
        dsimp only [List.set]
        refine j_goto (tgt := 125) iX4_spreadPairs_169 (by decide) ?_
        first | exact (by have e := ih (i + 1) h m (by omega) (fun j hj => by rcases Nat.lt_succ_iff_lt_or_eq.mp hj with q | q; exact hh j q; rw [q, ← h146]) (fun j hj => hh2 j (by omega)); unfold prMore at e ⊢; simp only [fold]; rw [if_pos (h146.trans e1)]; exact e) | exact (by have e := ih (i + 1) _ true (by omega) (un_upto hh rfl) (fun j hj => by rw [un_ne (by omega)]; exact hh2 j (by omega)); unfold prMore at e ⊢; simp only [fold]; rw [if_neg (fun z => h146 (z.trans e1.symm)), wset2]; exact e)
      · refine j_iconst (v := nI 1) iX4_spreadPairs_149 (by decide) ?_
        refine j_istore iX4_spreadPairs_150 (by decide) rfl ?_
        dsimp only [List.set]
        refine j_aload_n iX4_spreadPairs_152 rfl ?_
        refine j_get fk_X4_18 iX4_spreadPairs_153 (by repeat (first | assumption | refine wset_ne (by decide) ?_ | exact wset_lt (by (try simp only [List.length_set]); exact wsome (by assumption)))) (by rfl) ?_
        refine j_iload iX4_spreadPairs_156 rfl ?_
        refine j_aload_n iX4_spreadPairs_158 rfl ?_
        refine j_get fk_X4_21 iX4_spreadPairs_159 (by repeat (first | assumption | refine wset_ne (by decide) ?_ | exact wset_lt (by (try simp only [List.length_set]); exact wsome (by assumption)))) (by rfl) ?_
        refine j_iload iX4_spreadPairs_162 rfl ?_
        refine j_ialdN iX4_spreadPairs_164 (by repeat (first | assumption | refine wset_ne (by decide) ?_ | exact wset_lt (by (try simp only [List.length_set]); exact wsome (by assumption)))) (by omega) ?_
        refine j_iastN iX4_spreadPairs_165 (by repeat (first | assumption | refine wset_ne (by decide) ?_ | exact wset_lt (by (try simp only [List.length_set]); exact wsome (by assumption)))) (by omega) ?_
        refine j_iincN iX4_spreadPairs_166 rfl (by decide) rfl ?_
        dsimp only [List.set]
        refine j_goto (tgt := 125) iX4_spreadPairs_169 (by decide) ?_
        first | exact (by have e := ih (i + 1) h m (by omega) (fun j hj => by rcases Nat.lt_succ_iff_lt_or_eq.mp hj with q | q; exact hh j q; rw [q, ← h146]) (fun j hj => hh2 j (by omega)); unfold prMore at e ⊢; simp only [fold]; rw [if_pos (h146.trans e1)]; exact e) | exact (by have e := ih (i + 1) _ true (by omega) (un_upto hh rfl) (fun j hj => by rw [un_ne (by omega)]; exact hh2 j (by omega)); unfold prMore at e ⊢; simp only [fold]; rw [if_neg (fun z => h146 (z.trans e1.symm)), wset2]; exact e)
  have L2 : ∀ (Q : Option Value → mW → Prop) (i : Nat) (h : Nat → Nat), i < 12 → (∀ r', r' < 4096 → r' = prJoin f p i 12 0 (p i ||| spread g (p i)) → J 1 mX4_spreadPairs 98 [.ref 6, .ref a, .ref b, .int (nI room), .int (bI false), .int (nI i), .int (nI r'), .null] [] (w.set 30 (nA 12 h)) Q) → ∀ (n j r : Nat), j + n = 12 → r < 4096 → prJoin f p i n j r = prJoin f p i 12 0 (p i ||| spread g (p i)) → J 1 mX4_spreadPairs 61 [.ref 6, .ref a, .ref b, .int (nI room), .int (bI false), .int (nI i), .int (nI r), .int (nI j)] [] (w.set 30 (nA 12 h)) Q := by
    intro Q i h hi kk n
    have hA : (w.set 30 (nA 12 h))[a]? = some (nA 12 f) := wset_ne (by omega) ha
    have hfi := hf i
    induction n with
    | zero =>
      intro j r hj hr2 he
      refine j_iload iX4_spreadPairs_61 rfl ?_
      refine j_bipush (v := nI 12) iX4_spreadPairs_63 (by decide) ?_
      refine j_icmp_geN (tgt := 98) iX4_spreadPairs_65 (by decide) (by omega) (by omega) (fun _ => ?_) (fun hno => by exfalso; omega)
      exact J.fg (kk r hr2 he) (by first | (simp [LF]; done) | (simp [LF, bI]; done))
    | succ n ih =>
      intro j r hj hr2 he
      refine j_iload iX4_spreadPairs_61 rfl ?_
      refine j_bipush (v := nI 12) iX4_spreadPairs_63 (by decide) ?_
      refine j_icmp_geN (tgt := 98) iX4_spreadPairs_65 (by decide) (by omega) (by omega) (fun hno => by exfalso; omega) (fun _ => ?_)
      refine j_aload_n iX4_spreadPairs_68 rfl ?_
      refine j_iload iX4_spreadPairs_69 rfl ?_
      refine j_ialdN iX4_spreadPairs_71 (by repeat (first | assumption | refine wset_ne (by decide) ?_ | exact wset_lt (by (try simp only [List.length_set]); exact wsome (by assumption)))) (by omega) ?_
      refine j_iload iX4_spreadPairs_72 rfl ?_
      refine j_SN2R okX5_has nk_X4_30 iX4_spreadPairs_74 (by omega) (c_has (f i) j (by omega) (by omega)) rfl (Nat.le_of_ble_eq_true rfl) (Nat.le_of_ble_eq_true rfl) ?_
      refine j_if_eqB (tgt := 92) iX4_spreadPairs_77 (by decide) (fun h77 => ?_) (fun h77 => ?_)
      · refine j_iincN iX4_spreadPairs_92 rfl (by decide) rfl ?_
        dsimp only [List.set]
        refine j_goto (tgt := 61) iX4_spreadPairs_95 (by decide) ?_
        first | exact ih (j + 1) r (by omega) hr2 (by rw [← he]; unfold prJoin; simp only [fold]; rw [if_neg (nt h77)]) | exact ih (j + 1) _ (by omega) (or_b hr2 (hp j)) (by rw [← he]; unfold prJoin; simp only [fold]; rw [if_pos h77])
      · refine j_iload iX4_spreadPairs_80 rfl ?_
        refine j_aload_n iX4_spreadPairs_82 rfl ?_
        refine j_get fk_X4_18 iX4_spreadPairs_83 (by repeat (first | assumption | refine wset_ne (by decide) ?_ | exact wset_lt (by (try simp only [List.length_set]); exact wsome (by assumption)))) (by rfl) ?_
        refine j_iload iX4_spreadPairs_86 rfl ?_
        refine j_ialdN iX4_spreadPairs_88 (by repeat (first | assumption | refine wset_ne (by decide) ?_ | exact wset_lt (by (try simp only [List.length_set]); exact wsome (by assumption)))) (by omega) ?_
        refine j_iorN iX4_spreadPairs_89  ?_
        refine j_istore iX4_spreadPairs_90 (by decide) rfl ?_
        dsimp only [List.set]
        refine j_iincN iX4_spreadPairs_92 rfl (by decide) rfl ?_
        dsimp only [List.set]
        refine j_goto (tgt := 61) iX4_spreadPairs_95 (by decide) ?_
        first | exact ih (j + 1) r (by omega) hr2 (by rw [← he]; unfold prJoin; simp only [fold]; rw [if_neg (nt h77)]) | exact ih (j + 1) _ (by omega) (or_b hr2 (hp j)) (by rw [← he]; unfold prJoin; simp only [fold]; rw [if_pos h77])
  have L1 : ∀ (n i : Nat) (h : Nat → Nat), i + n = 12 → (∀ j, j < i → h j = prNext f g room p j) → J 1 mX4_spreadPairs 6 [.ref 6, .ref a, .ref b, .int (nI room), .int (bI false), .int (nI i), .null, .null] [] (w.set 30 (nA 12 h)) (fun v u => v = some (.int (bI (prMore (prNext f g room p) p 12 0 false))) ∧ u = (w.set 30 (nA 12 (prNext f g room p))).set 29 (nA 12 (prNext f g room p))) := by
    intro n
    induction n with
    | zero =>
      intro i h hi hh
      have e30 : (w.set 30 (nA 12 h))[30]? = some (nA 12 h) := (by repeat (first | assumption | refine wset_ne (by decide) ?_ | exact wset_lt (by (try simp only [List.length_set]); exact wsome (by assumption))))
      refine j_arrN (g := prNext f g room p) (fun j hj => hh j (by omega)) e30 ?_
      rw [wset2]
      have e29 : (w.set 30 (nA 12 (prNext f g room p)))[29]? = some (nA 12 p) := (by repeat (first | assumption | refine wset_ne (by decide) ?_ | exact wset_lt (by (try simp only [List.length_set]); exact wsome (by assumption))))
      refine j_iload iX4_spreadPairs_6 rfl ?_
      refine j_bipush (v := nI 12) iX4_spreadPairs_8 (by decide) ?_
      refine j_icmp_geN (tgt := 122) iX4_spreadPairs_10 (by decide) (by omega) (by omega) (fun _ => ?_) (fun hno => by exfalso; omega)
      refine j_iconst (v := nI 0) iX4_spreadPairs_122 (by decide) ?_
      refine j_istore iX4_spreadPairs_123 (by decide) rfl ?_
      dsimp only [List.set]
      exact (by have := L3 12 0 p false rfl (fun j hj => absurd hj (Nat.not_lt_zero _)) (fun _ _ => rfl); rw [wset_eq e29] at this; exact this)
    | succ n ih =>
      intro i h hi hh
      have hA : ∀ z, (w.set 30 (nA 12 z))[a]? = some (nA 12 f) := fun z => wset_ne (by omega) ha
      have hB : ∀ z, (w.set 30 (nA 12 z))[b]? = some (nA 12 g) := fun z => wset_ne (by omega) hb
      have hA2 := hA (un h i 0)
      have hpi := hp i
      have hq : p i ||| spread g (p i) < 4096 := or_b hpi (spread_b hg _)
      have e30 : (w.set 30 (nA 12 (un h i 0)))[30]? = some (nA 12 (un h i 0)) := (by repeat (first | assumption | refine wset_ne (by decide) ?_ | exact wset_lt (by (try simp only [List.length_set]); exact wsome (by assumption))))
      have K61 : room.testBit i = true → J 1 mX4_spreadPairs 61 [.ref 6, .ref a, .ref b, .int (nI room), .int (bI false), .int (nI i), .int (nI (p i ||| spread g (p i))), .int (nI 0)] [] (w.set 30 (nA 12 (un h i 0))) (fun v u => v = some (.int (bI (prMore (prNext f g room p) p 12 0 false))) ∧ u = (w.set 30 (nA 12 (prNext f g room p))).set 29 (nA 12 (prNext f g room p))) := by
        intro h27
        refine L2 _ i _ (by omega) (fun r' hr' he => ?_) 12 0 _ rfl hq rfl
        refine j_aload_n iX4_spreadPairs_98 rfl ?_
        refine j_get fk_X4_21 iX4_spreadPairs_99 (by repeat (first | assumption | refine wset_ne (by decide) ?_ | exact wset_lt (by (try simp only [List.length_set]); exact wsome (by assumption)))) (by rfl) ?_
        refine j_iload iX4_spreadPairs_102 rfl ?_
        refine j_iload iX4_spreadPairs_104 rfl ?_
        refine j_iload_n iX4_spreadPairs_106 rfl ?_
        refine j_iandN iX4_spreadPairs_107 ?_
        refine j_iconst (v := nI 1) iX4_spreadPairs_108 (by decide) ?_
        refine j_iload iX4_spreadPairs_109 rfl ?_
        refine j_ishlN iX4_spreadPairs_111 (by omega) ?_
        refine j_iconst (v := (-1)) iX4_spreadPairs_112 (by decide) ?_
        refine j_ixor iX4_spreadPairs_113 ?_
        refine j_iandnN iX4_spreadPairs_114 ?_
        refine j_iastN iX4_spreadPairs_115 (by repeat (first | assumption | refine wset_ne (by decide) ?_ | exact wset_lt (by (try simp only [List.length_set]); exact wsome (by assumption)))) (by omega) ?_
        refine j_iincN iX4_spreadPairs_116 rfl (by decide) rfl ?_
        dsimp only [List.set]
        refine j_goto (tgt := 6) iX4_spreadPairs_119 (by decide) ?_
        rw [wset2]; exact J.fg (ih (i + 1) _ (by omega) (fun j hj => by rcases Nat.lt_succ_iff_lt_or_eq.mp hj with q | q; (rw [un_ne (by omega), un_ne (by omega)]; exact hh j q); (rw [q, un_same]; unfold prNext; rw [if_pos h27, he]))) (by first | (simp [LF]; done) | (simp [LF, bI]; done))
      refine j_iload iX4_spreadPairs_6 rfl ?_
      refine j_bipush (v := nI 12) iX4_spreadPairs_8 (by decide) ?_
      refine j_icmp_geN (tgt := 122) iX4_spreadPairs_10 (by decide) (by omega) (by omega) (fun hno => by exfalso; omega) (fun _ => ?_)
      refine j_aload_n iX4_spreadPairs_13 rfl ?_
      refine j_get fk_X4_21 iX4_spreadPairs_14 (by repeat (first | assumption | refine wset_ne (by decide) ?_ | exact wset_lt (by (try simp only [List.length_set]); exact wsome (by assumption)))) (by rfl) ?_
      refine j_iload iX4_spreadPairs_17 rfl ?_
      refine j_iconst (v := nI 0) iX4_spreadPairs_19 (by decide) ?_
      refine j_iastN iX4_spreadPairs_20 (by repeat (first | assumption | refine wset_ne (by decide) ?_ | exact wset_lt (by (try simp only [List.length_set]); exact wsome (by assumption)))) (by omega) ?_
      rw [wset2]
      refine j_iload_n iX4_spreadPairs_21 rfl ?_
      refine j_iload iX4_spreadPairs_22 rfl ?_
      refine j_SN2R okX5_has nk_X4_30 iX4_spreadPairs_24 (by omega) (c_has room i (by omega) (by omega)) rfl (Nat.le_of_ble_eq_true rfl) (Nat.le_of_ble_eq_true rfl) ?_
      refine j_if_eqB (tgt := 116) iX4_spreadPairs_27 (by decide) (fun h27 => ?_) (fun h27 => ?_)
      · refine j_iincN iX4_spreadPairs_116 rfl (by decide) rfl ?_
        dsimp only [List.set]
        refine j_goto (tgt := 6) iX4_spreadPairs_119 (by decide) ?_
        exact ih (i + 1) _ (by omega) (un_upto hh (by unfold prNext; rw [if_neg (nt h27)]))
      · refine j_iload iX4_spreadPairs_30 rfl ?_
        refine j_aload_n iX4_spreadPairs_32 rfl ?_
        refine j_alen iX4_spreadPairs_33 (by repeat (first | assumption | refine wset_ne (by decide) ?_ | exact wset_lt (by (try simp only [List.length_set]); exact wsome (by assumption)))) (by decide) (by rfl) ?_
        refine j_icmp_geN (tgt := 116) iX4_spreadPairs_34 (by decide) (by omega) (by omega) (fun hno => by exfalso; omega) (fun _ => ?_)
        refine j_aload_n iX4_spreadPairs_37 rfl ?_
        refine j_get fk_X4_18 iX4_spreadPairs_38 (by repeat (first | assumption | refine wset_ne (by decide) ?_ | exact wset_lt (by (try simp only [List.length_set]); exact wsome (by assumption)))) (by rfl) ?_
        refine j_iload iX4_spreadPairs_41 rfl ?_
        refine j_ialdN iX4_spreadPairs_43 (by repeat (first | assumption | refine wset_ne (by decide) ?_ | exact wset_lt (by (try simp only [List.length_set]); exact wsome (by assumption)))) (by omega) ?_
        refine j_aload_n iX4_spreadPairs_44 rfl ?_
        refine j_aload_n iX4_spreadPairs_45 rfl ?_
        refine j_get fk_X4_18 iX4_spreadPairs_46 (by repeat (first | assumption | refine wset_ne (by decide) ?_ | exact wset_lt (by (try simp only [List.length_set]); exact wsome (by assumption)))) (by rfl) ?_
        refine j_iload iX4_spreadPairs_49 rfl ?_
        refine j_ialdN iX4_spreadPairs_51 (by repeat (first | assumption | refine wset_ne (by decide) ?_ | exact wset_lt (by (try simp only [List.length_set]); exact wsome (by assumption)))) (by omega) ?_
        refine j_S2R okX1_spread lk_X4_34 iX4_spreadPairs_52 (by omega) (c_spread (hB _) (p i) (by omega)) rfl (Nat.le_of_ble_eq_true rfl) (Nat.le_of_ble_eq_true rfl) ?_
        refine j_iorN iX4_spreadPairs_55  ?_
        refine j_istore iX4_spreadPairs_56 (by decide) rfl ?_
        dsimp only [List.set]
        refine j_iconst (v := nI 0) iX4_spreadPairs_58 (by decide) ?_
        refine j_istore iX4_spreadPairs_59 (by decide) rfl ?_
        dsimp only [List.set]
        exact K61 h27
  refine j_start (ls := [.ref 6, .ref a, .ref b, .int (nI room), .null, .null, .null, .null]) rfl ?_
  refine j_iconst (v := nI 0) iX4_spreadPairs_0 (by decide) ?_
  refine j_istore iX4_spreadPairs_1 (by decide) rfl ?_
  dsimp only [List.set]
  refine j_iconst (v := nI 0) iX4_spreadPairs_3 (by decide) ?_
  refine j_istore iX4_spreadPairs_4 (by decide) rfl ?_
  dsimp only [List.set]
  exact (by have := L1 12 0 np rfl (fun j hj => absurd hj (Nat.not_lt_zero _)); rw [wset_eq h30] at this; exact this)
theorem c_fewestToTrade {p0 np0 : Nat → Nat} (h6 : w[6]? = some oT) (ha : w[a]? = some (nA 12 f)) (hb : w[b]? = some (nA 12 g)) (haa : a < 27) (hbb : b < 27) (hf : ∀ i, f i < 4096) (hg : ∀ i, g i < 4096) (h29 : w[29]? = some (nA 12 p0)) (h30 : w[30]? = some (nA 12 np0)) (s t room : Nat) (hs : s < 12) (ht : t < 12) (hr : room < 4096) :
    JX 2 mX4_fewestToTrade [.ref 6, .ref a, .ref b, .int (nI s), .int (nI t), .int (nI room)] w (fun v u => v = some (.int (oN (trF f g s t room))) ∧ ∃ x y, u = (w.set 30 (nA 12 x)).set 29 (nA 12 y)) := by
  have L2 : ∀ (n i : Nat) (p np : Nat → Nat), i + n = 144 → (∀ i, p i < 4096) → trFrom f g s t room n i p = trF f g s t room → J 2 mX4_fewestToTrade 61 [.ref 6, .ref a, .ref b, .int (nI s), .int (nI t), .int (nI room), .int (nI i)] [] ((w.set 30 (nA 12 np)).set 29 (nA 12 p)) (fun v u => v = some (.int (oN (trF f g s t room))) ∧ ∃ x y, u = (w.set 30 (nA 12 x)).set 29 (nA 12 y)) := by
    intro n
    induction n with
    | zero =>
      intro i p np hi hp he
      refine j_iload iX4_fewestToTrade_61 rfl ?_
      refine j_sipush (v := nI 144) iX4_fewestToTrade_63 (by decide) ?_
      refine j_icmp_geN (tgt := 105) iX4_fewestToTrade_66 (by decide) (by omega) (by omega) (fun _ => ?_) (fun hno => by exfalso; omega)
      refine j_iconst (v := (-1)) iX4_fewestToTrade_105 (by decide) ?_
      refine j_iret iX4_fewestToTrade_106 rfl (by first | rfl | exact nar_bI _ | exact nar_bP) (⟨by rw [← he]; rfl, np, p, rfl⟩)
    | succ n ih =>
      intro i p np hi hp he
      rw [trFrom_s] at he
      have hA : ((w.set 30 (nA 12 np)).set 29 (nA 12 p))[a]? = some (nA 12 f) := wset_ne (by omega) (wset_ne (by omega) ha)
      have hB : ((w.set 30 (nA 12 np)).set 29 (nA 12 p))[b]? = some (nA 12 g) := wset_ne (by omega) (wset_ne (by omega) hb)
      have hpt := hp t
      refine j_iload iX4_fewestToTrade_61 rfl ?_
      refine j_sipush (v := nI 144) iX4_fewestToTrade_63 (by decide) ?_
      refine j_icmp_geN (tgt := 105) iX4_fewestToTrade_66 (by decide) (by omega) (by omega) (fun hno => by exfalso; omega) (fun _ => ?_)
      refine j_aload_n iX4_fewestToTrade_69 rfl ?_
      refine j_get fk_X4_18 iX4_fewestToTrade_70 (by repeat (first | assumption | refine wset_ne (by decide) ?_ | exact wset_lt (by (try simp only [List.length_set]); exact wsome (by assumption)))) (by rfl) ?_
      refine j_iload iX4_fewestToTrade_73 rfl ?_
      refine j_ialdN iX4_fewestToTrade_75 (by repeat (first | assumption | refine wset_ne (by decide) ?_ | exact wset_lt (by (try simp only [List.length_set]); exact wsome (by assumption)))) (by omega) ?_
      refine j_iload_n iX4_fewestToTrade_76 rfl ?_
      refine j_SN2R okX5_has nk_X4_30 iX4_fewestToTrade_77 (by omega) (c_has (p t) s (by omega) (by omega)) rfl (Nat.le_of_ble_eq_true rfl) (Nat.le_of_ble_eq_true rfl) ?_
      refine j_if_eqB (tgt := 86) iX4_fewestToTrade_80 (by decide) (fun h80 => ?_) (fun h80 => ?_)
      · refine j_aload_n iX4_fewestToTrade_86 rfl ?_
        refine j_aload_n iX4_fewestToTrade_87 rfl ?_
        refine j_aload_n iX4_fewestToTrade_88 rfl ?_
        refine j_iload iX4_fewestToTrade_89 rfl ?_
        refine j_V3R okX4_spreadPairs lk_X4_64 iX4_fewestToTrade_91 (by omega) (by repeat (first | assumption | refine wset_ne (by decide) ?_ | exact wset_lt (by (try simp only [List.length_set]); exact wsome (by assumption)))) rfl (c_spreadPairs (by repeat (first | assumption | refine wset_ne (by decide) ?_ | exact wset_lt (by (try simp only [List.length_set]); exact wsome (by assumption)))) hA hB haa hbb hf hg (by repeat (first | assumption | refine wset_ne (by decide) ?_ | exact wset_lt (by (try simp only [List.length_set]); exact wsome (by assumption)))) (by repeat (first | assumption | refine wset_ne (by decide) ?_ | exact wset_lt (by (try simp only [List.length_set]); exact wsome (by assumption)))) hp room hr) rfl (Nat.le_of_ble_eq_true rfl) (Nat.le_of_ble_eq_true rfl) ?_
        refine j_if_neB (tgt := 99) iX4_fewestToTrade_94 (by decide) (fun h94 => ?_) (fun h94 => ?_)
        · refine j_iincN iX4_fewestToTrade_99 rfl (by decide) rfl ?_
          dsimp only [List.set]
          refine j_goto (tgt := 61) iX4_fewestToTrade_102 (by decide) ?_
          exact (by rw [List.set_comm _ _ (show (29 : Nat) ≠ 30 by decide), wset2, wset2]; exact ih (i + 1) _ _ (by omega) (prNext_b hp hg) (by rw [← he, if_neg (nt h80), if_pos h94]))
        · rw [List.set_comm _ _ (show (29 : Nat) ≠ 30 by decide), wset2, wset2]
          refine j_iconst (v := (-1)) iX4_fewestToTrade_97 (by decide) ?_
          refine j_iret iX4_fewestToTrade_98 rfl (by first | rfl | exact nar_bI _ | exact nar_bP) (⟨by rw [← he, if_neg (nt h80), if_neg (nt h94)]; rfl, _, _, rfl⟩)
      · refine j_iload iX4_fewestToTrade_83 rfl ?_
        refine j_iret iX4_fewestToTrade_85 rfl (by first | rfl | exact nar_bI _ | exact nar_bP) (⟨by rw [← he, if_pos h80]; rfl, np, p, rfl⟩)
  have L1 : ∀ (n i : Nat) (h : Nat → Nat), i + n = 12 → (∀ j, j < i → h j = 0) → J 2 mX4_fewestToTrade 27 [.ref 6, .ref a, .ref b, .int (nI s), .int (nI t), .int (nI room), .int (nI i)] [] (w.set 29 (nA 12 h)) (fun v u => v = some (.int (oN (trF f g s t room))) ∧ ∃ x y, u = (w.set 30 (nA 12 x)).set 29 (nA 12 y)) := by
    intro n
    induction n with
    | zero =>
      intro i h hi hh
      have e29 : (w.set 29 (nA 12 h))[29]? = some (nA 12 h) := (by repeat (first | assumption | refine wset_ne (by decide) ?_ | exact wset_lt (by (try simp only [List.length_set]); exact wsome (by assumption))))
      refine j_arrN (g := fun _ => 0) (fun j hj => hh j (by omega)) e29 ?_
      rw [wset2]
      refine j_iload iX4_fewestToTrade_27 rfl ?_
      refine j_bipush (v := nI 12) iX4_fewestToTrade_29 (by decide) ?_
      refine j_icmp_geN (tgt := 48) iX4_fewestToTrade_31 (by decide) (by omega) (by omega) (fun _ => ?_) (fun hno => by exfalso; omega)
      refine j_aload_n iX4_fewestToTrade_48 rfl ?_
      refine j_get fk_X4_18 iX4_fewestToTrade_49 (by repeat (first | assumption | refine wset_ne (by decide) ?_ | exact wset_lt (by (try simp only [List.length_set]); exact wsome (by assumption)))) (by rfl) ?_
      refine j_iload_n iX4_fewestToTrade_52 rfl ?_
      refine j_iconst (v := nI 1) iX4_fewestToTrade_53 (by decide) ?_
      refine j_iload iX4_fewestToTrade_54 rfl ?_
      refine j_ishlN iX4_fewestToTrade_56 (by omega) ?_
      refine j_iastN iX4_fewestToTrade_57 (by repeat (first | assumption | refine wset_ne (by decide) ?_ | exact wset_lt (by (try simp only [List.length_set]); exact wsome (by assumption)))) (by omega) ?_
      refine j_iconst (v := nI 0) iX4_fewestToTrade_58 (by decide) ?_
      refine j_istore iX4_fewestToTrade_59 (by decide) rfl ?_
      dsimp only [List.set]
      exact (by have := L2 144 0 (un (fun _ => 0) s (2 ^ t)) np0 rfl (fun i => by unfold un; split; exact pw_b ht; exact (by decide : 0 < 4096)) rfl; rw [wset_eq h30] at this; rw [wset2]; exact this)
    | succ n ih =>
      intro i h hi hh
      refine j_iload iX4_fewestToTrade_27 rfl ?_
      refine j_bipush (v := nI 12) iX4_fewestToTrade_29 (by decide) ?_
      refine j_icmp_geN (tgt := 48) iX4_fewestToTrade_31 (by decide) (by omega) (by omega) (fun hno => by exfalso; omega) (fun _ => ?_)
      refine j_aload_n iX4_fewestToTrade_34 rfl ?_
      refine j_get fk_X4_18 iX4_fewestToTrade_35 (by repeat (first | assumption | refine wset_ne (by decide) ?_ | exact wset_lt (by (try simp only [List.length_set]); exact wsome (by assumption)))) (by rfl) ?_
      refine j_iload iX4_fewestToTrade_38 rfl ?_
      refine j_iconst (v := nI 0) iX4_fewestToTrade_40 (by decide) ?_
      refine j_iastN iX4_fewestToTrade_41 (by repeat (first | assumption | refine wset_ne (by decide) ?_ | exact wset_lt (by (try simp only [List.length_set]); exact wsome (by assumption)))) (by omega) ?_
      refine j_iincN iX4_fewestToTrade_42 rfl (by decide) rfl ?_
      dsimp only [List.set]
      refine j_goto (tgt := 27) iX4_fewestToTrade_45 (by decide) ?_
      rw [wset2]; exact ih (i + 1) _ (by omega) (un_upto hh rfl)
  refine j_start (ls := [.ref 6, .ref a, .ref b, .int (nI s), .int (nI t), .int (nI room), .null]) rfl ?_
  refine j_iload_n iX4_fewestToTrade_0 rfl ?_
  refine j_if_ltN (tgt := 22) iX4_fewestToTrade_1 (by decide) (by omega) (fun hno => by exfalso; omega) (fun _ => ?_)
  refine j_iload_n iX4_fewestToTrade_4 rfl ?_
  refine j_bipush (v := nI 12) iX4_fewestToTrade_5 (by decide) ?_
  refine j_icmp_geN (tgt := 22) iX4_fewestToTrade_7 (by decide) (by omega) (by omega) (fun hno => by exfalso; omega) (fun _ => ?_)
  refine j_iload iX4_fewestToTrade_10 rfl ?_
  refine j_if_ltN (tgt := 22) iX4_fewestToTrade_12 (by decide) (by omega) (fun hno => by exfalso; omega) (fun _ => ?_)
  refine j_iload iX4_fewestToTrade_15 rfl ?_
  refine j_bipush (v := nI 12) iX4_fewestToTrade_17 (by decide) ?_
  refine j_icmp_ltN (tgt := 24) iX4_fewestToTrade_19 (by decide) (by omega) (by omega) (fun _ => ?_) (fun hno => by exfalso; omega)
  refine j_iconst (v := nI 0) iX4_fewestToTrade_24 (by decide) ?_
  refine j_istore iX4_fewestToTrade_25 (by decide) rfl ?_
  dsimp only [List.set]
  exact (by have := L1 12 0 p0 rfl (fun j hj => absurd hj (Nat.not_lt_zero _)); rw [wset_eq h29] at this; exact this)
end
