/-! ===== the class: parts, shades, peace, guards over a fan f ===== -/
def partFrom (f : Nat → Nat) (room : Nat) : Nat → Nat → Nat
  | 0, p => p
  | n + 1, p => if p ||| (spread f p &&& room) = p then p else partFrom f room n (p ||| (spread f p &&& room))
def partF (f : Nat → Nat) (room start : Nat) : Nat := partFrom f room 12 start
theorem partFrom_b {f : Nat → Nat} (hf : ∀ i, f i < 4096) (room : Nat) : ∀ n p, p < 4096 → partFrom f room n p < 4096 := by
  intro n
  induction n with
  | zero => intro p h; exact h
  | succ n ih =>
    intro p h
    unfold partFrom
    split
    · exact h
    · exact ih _ (or_b h (and_bL (spread_b hf p)))
def pcFrom (f : Nat → Nat) (free : Nat) : Nat → Nat → Nat → Nat
  | 0, _, m => m
  | n + 1, left, m => if left = 0 then m else pcFrom f free n (ad left (partF f free (2 ^ low left))) (m + 1)
def pcF (f : Nat → Nat) (free : Nat) : Nat := pcFrom f free 12 free 0
def shStep (f : Nat → Nat) (free : Nat) (p : Nat × Nat) : Nat × Nat :=
  (p.1 ||| (spread f (p.2 ||| (spread f p.1 &&& free)) &&& free), p.2 ||| (spread f p.1 &&& free))
def shFrom (f : Nat → Nat) (free : Nat) : Nat → Nat × Nat → Nat × Nat
  | 0, p => p
  | n + 1, p => shFrom f free n (shStep f free p)
def tsFrom (f : Nat → Nat) (free : Nat) : Nat → Nat → Bool
  | 0, _ => true
  | n + 1, left => if left = 0 then true else if (shFrom f free 12 (2 ^ low left, 0)).1 &&& (shFrom f free 12 (2 ^ low left, 0)).2 = 0 then tsFrom f free n (ad left ((shFrom f free 12 (2 ^ low left, 0)).1 ||| (shFrom f free 12 (2 ^ low left, 0)).2)) else false
def tsF (f : Nat → Nat) (free : Nat) : Bool := tsFrom f free 12 free
section
variable {w : mW} {a : Nat} {f : Nat → Nat}
theorem c_partAround (ha : w[a]? = some (nA 12 f)) (hf : ∀ i, f i < 4096) (room p : Nat) (hp : p < 4096) : JR 1 mX1_partAround [.ref a, .int (nI room), .int (nI p)] w (.int (nI (partF f room p))) w := by
  have L : ∀ (n i p : Nat), i + n = 12 → p < 4096 → J 1 mX1_partAround 5 [.ref a, .int (nI room), .null, .int (nI p), .int (nI i), .null] [] w (fun v u => v = some (.int (nI (partFrom f room n p))) ∧ u = w) := by
    intro n
    induction n with
    | zero =>
      intro i p hi hp
      refine j_iload iX1_partAround_5 rfl ?_
      refine j_bipush (v := nI 12) iX1_partAround_7 (by decide) ?_
      refine j_icmp_geN (tgt := 40) iX1_partAround_9 (by decide) (by omega) (by omega) (fun _ => ?_) (fun hno => by exfalso; omega)
      refine j_iload_n iX1_partAround_40 rfl ?_
      refine j_iret iX1_partAround_41 rfl (by first | rfl | exact nar_bI _ | exact nar_bP) (⟨rfl, rfl⟩)
    | succ n ih =>
      intro i p hi hp
      have hq : p ||| (spread f p &&& room) < 4096 := or_b hp (and_bL (spread_b hf p))
      refine j_iload iX1_partAround_5 rfl ?_
      refine j_bipush (v := nI 12) iX1_partAround_7 (by decide) ?_
      refine j_icmp_geN (tgt := 40) iX1_partAround_9 (by decide) (by omega) (by omega) (fun hno => by exfalso; omega) (fun _ => ?_)
      refine j_iload_n iX1_partAround_12 rfl ?_
      refine j_aload_n iX1_partAround_13 rfl ?_
      refine j_iload_n iX1_partAround_14 rfl ?_
      refine j_S2R okX1_spread lk_X1_44 iX1_partAround_15 (by omega) (c_spread ha p (by omega)) rfl (Nat.le_of_ble_eq_true rfl) (Nat.le_of_ble_eq_true rfl) ?_
      refine j_iload_n iX1_partAround_18 rfl ?_
      refine j_iandN iX1_partAround_19 ?_
      refine j_iorN iX1_partAround_20  ?_
      refine j_istore iX1_partAround_21 (by decide) rfl ?_
      dsimp only [List.set]
      refine j_iload iX1_partAround_23 rfl ?_
      refine j_iload_n iX1_partAround_25 rfl ?_
      refine j_icmp_neN (tgt := 31) iX1_partAround_26 (by decide) (by omega) (by omega) (fun h26 => ?_) (fun h26 => ?_)
      · refine j_iload iX1_partAround_31 rfl ?_
        refine j_istore_n iX1_partAround_33 (by decide) rfl ?_
        dsimp only [List.set]
        refine j_iincN iX1_partAround_34 rfl (by decide) rfl ?_
        dsimp only [List.set]
        refine j_goto (tgt := 5) iX1_partAround_37 (by decide) ?_
        exact J.forget (by simpa only [partFrom, if_neg h26] using ih (i + 1) _ (by omega) hq) (by intro i v h1 h2; rcases i with _ | _ | _ | _ | _ | _ | i <;> simp_all)
      · refine j_iload_n iX1_partAround_29 rfl ?_
        refine j_iret iX1_partAround_30 rfl (by first | rfl | exact nar_bI _ | exact nar_bP) (⟨by unfold partFrom; rw [if_pos h26], rfl⟩)
  refine j_start (ls := [.ref a, .int (nI room), .int (nI p), .null, .null, .null]) rfl ?_
  refine j_iload_n iX1_partAround_0 rfl ?_
  refine j_istore_n iX1_partAround_1 (by decide) rfl ?_
  dsimp only [List.set]
  refine j_iconst (v := nI 0) iX1_partAround_2 (by decide) ?_
  refine j_istore iX1_partAround_3 (by decide) rfl ?_
  dsimp only [List.set]
  exact J.forget (L 12 0 p rfl hp) (by intro i v h1 h2; rcases i with _ | _ | _ | _ | _ | _ | i <;> simp_all)
theorem c_partCount (ha : w[a]? = some (nA 12 f)) (hf : ∀ i, f i < 4096) (free : Nat) (hfr : free < 4096) : JR 3 mX1_partCount [.ref a, .int (nI free)] w (.int (nI (pcF f free))) w := by
  have L : ∀ (n i left m : Nat), i + n = 12 → left < 4096 → J 3 mX1_partCount 7 [.ref a, .int (nI free), .int (nI left), .int (nI m), .int (nI i)] [] w (fun v u => v = some (.int (nI (pcFrom f free n left m))) ∧ u = w) := by
    intro n
    induction n with
    | zero =>
      intro i left m hi hp
      refine j_iload iX1_partCount_7 rfl ?_
      refine j_bipush (v := nI 12) iX1_partCount_9 (by decide) ?_
      refine j_icmp_geN (tgt := 43) iX1_partCount_11 (by decide) (by omega) (by omega) (fun _ => ?_) (fun hno => by exfalso; omega)
      refine j_iload_n iX1_partCount_43 rfl ?_
      refine j_iret iX1_partCount_44 rfl (by first | rfl | exact nar_bI _ | exact nar_bP) (⟨rfl, rfl⟩)
    | succ n ih =>
      intro i left m hi hp
      by_cases h0 : left = 0
      · refine j_iload iX1_partCount_7 rfl ?_
        refine j_bipush (v := nI 12) iX1_partCount_9 (by decide) ?_
        refine j_icmp_geN (tgt := 43) iX1_partCount_11 (by decide) (by omega) (by omega) (fun hno => by exfalso; omega) (fun _ => ?_)
        refine j_iload_n iX1_partCount_14 rfl ?_
        refine j_if_eqN (tgt := 43) iX1_partCount_15 (by decide) (by omega) (fun _ => ?_) (fun hno => by exfalso; omega)
        refine j_iload_n iX1_partCount_43 rfl ?_
        refine j_iret iX1_partCount_44 rfl (by first | rfl | exact nar_bI _ | exact nar_bP) (⟨by unfold pcFrom; rw [if_pos h0], rfl⟩)
      · have hl := low_spec hp h0
        have hl2 := pw_b hl.2.1
        refine j_iload iX1_partCount_7 rfl ?_
        refine j_bipush (v := nI 12) iX1_partCount_9 (by decide) ?_
        refine j_icmp_geN (tgt := 43) iX1_partCount_11 (by decide) (by omega) (by omega) (fun hno => by exfalso; omega) (fun _ => ?_)
        refine j_iload_n iX1_partCount_14 rfl ?_
        refine j_if_eqN (tgt := 43) iX1_partCount_15 (by decide) (by omega) (fun hno => by exfalso; omega) (fun _ => ?_)
        refine j_iload_n iX1_partCount_18 rfl ?_
        refine j_aload_n iX1_partCount_19 rfl ?_
        refine j_iload_n iX1_partCount_20 rfl ?_
        refine j_iconst (v := nI 1) iX1_partCount_21 (by decide) ?_
        refine j_iload_n iX1_partCount_22 rfl ?_
        refine j_SN1R okX5_lowestOf nk_X1_48 iX1_partCount_23 (by omega) (c_low left hp h0) rfl (Nat.le_of_ble_eq_true rfl) (Nat.le_of_ble_eq_true rfl) ?_
        refine j_ishlN iX1_partCount_26 (by omega) ?_
        refine j_S3R okX1_partAround lk_X1_51 iX1_partCount_27 (by omega) (c_partAround ha hf _ _ hl2) rfl (Nat.le_of_ble_eq_true rfl) (Nat.le_of_ble_eq_true rfl) ?_
        refine j_iconst (v := (-1)) iX1_partCount_30 (by decide) ?_
        refine j_ixor iX1_partCount_31 ?_
        refine j_iandnN iX1_partCount_32 ?_
        refine j_istore_n iX1_partCount_33 (by decide) rfl ?_
        dsimp only [List.set]
        refine j_iincN iX1_partCount_34 rfl (by decide) rfl ?_
        dsimp only [List.set]
        refine j_iincN iX1_partCount_37 rfl (by decide) rfl ?_
        dsimp only [List.set]
        refine j_goto (tgt := 7) iX1_partCount_40 (by decide) ?_
        exact (by simpa only [pcFrom, if_neg h0] using ih (i + 1) (ad left (partF f free (2 ^ low left))) (m + 1) (by omega) (ad_b hp))
  refine j_start (ls := [.ref a, .int (nI free), .null, .null, .null]) rfl ?_
  refine j_iload_n iX1_partCount_0 rfl ?_
  refine j_istore_n iX1_partCount_1 (by decide) rfl ?_
  dsimp only [List.set]
  refine j_iconst (v := nI 0) iX1_partCount_2 (by decide) ?_
  refine j_istore_n iX1_partCount_3 (by decide) rfl ?_
  dsimp only [List.set]
  refine j_iconst (v := nI 0) iX1_partCount_4 (by decide) ?_
  refine j_istore iX1_partCount_5 (by decide) rfl ?_
  dsimp only [List.set]
  exact L 12 0 free 0 rfl hfr
theorem c_isTwoShaded (ha : w[a]? = some (nA 12 f)) (hf : ∀ i, f i < 4096) (free : Nat) (hfr : free < 4096) : JR 3 mX1_isTwoShaded [.ref a, .int (nI free)] w (.int (bI (tsF f free))) w := by
  have LI : ∀ (left i0 : Nat) (Q : Option Value → mW → Prop) (n i l dk : Nat), i + n = 12 → l < 4096 → dk < 4096 →
      (∀ l' dk', l' < 4096 → dk' < 4096 → (l', dk') = shFrom f free n (l, dk) → J 3 mX1_isTwoShaded 67 [.ref a, .int (nI free), .int (nI left), .int (nI i0), .int (nI l'), .int (nI dk'), .null] [] w Q) →
      J 3 mX1_isTwoShaded 28 [.ref a, .int (nI free), .int (nI left), .int (nI i0), .int (nI l), .int (nI dk), .int (nI i)] [] w Q := by
    intro left i0 Q n
    induction n with
    | zero =>
      intro i l dk hi hl hd kk
      refine j_iload iX1_isTwoShaded_28 rfl ?_
      refine j_bipush (v := nI 12) iX1_isTwoShaded_30 (by decide) ?_
      refine j_icmp_geN (tgt := 67) iX1_isTwoShaded_32 (by decide) (by omega) (by omega) (fun _ => ?_) (fun hno => by exfalso; omega)
      exact J.forget (kk l dk hl hd rfl) (by intro i v h1 h2; rcases i with _ | _ | _ | _ | _ | _ | _ | i <;> simp_all)
    | succ n ih =>
      intro i l dk hi hl hd kk
      have hd2 : dk ||| (spread f l &&& free) < 4096 := or_b hd (and_bL (spread_b hf l))
      refine j_iload iX1_isTwoShaded_28 rfl ?_
      refine j_bipush (v := nI 12) iX1_isTwoShaded_30 (by decide) ?_
      refine j_icmp_geN (tgt := 67) iX1_isTwoShaded_32 (by decide) (by omega) (by omega) (fun hno => by exfalso; omega) (fun _ => ?_)
      refine j_iload iX1_isTwoShaded_35 rfl ?_
      refine j_aload_n iX1_isTwoShaded_37 rfl ?_
      refine j_iload iX1_isTwoShaded_38 rfl ?_
      refine j_S2R okX1_spread lk_X1_44 iX1_isTwoShaded_40 (by omega) (c_spread ha l (by omega)) rfl (Nat.le_of_ble_eq_true rfl) (Nat.le_of_ble_eq_true rfl) ?_
      refine j_iload_n iX1_isTwoShaded_43 rfl ?_
      refine j_iandN iX1_isTwoShaded_44 ?_
      refine j_iorN iX1_isTwoShaded_45  ?_
      refine j_istore iX1_isTwoShaded_46 (by decide) rfl ?_
      dsimp only [List.set]
      refine j_iload iX1_isTwoShaded_48 rfl ?_
      refine j_aload_n iX1_isTwoShaded_50 rfl ?_
      refine j_iload iX1_isTwoShaded_51 rfl ?_
      refine j_S2R okX1_spread lk_X1_44 iX1_isTwoShaded_53 (by omega) (c_spread ha (dk ||| (spread f l &&& free)) (by omega)) rfl (Nat.le_of_ble_eq_true rfl) (Nat.le_of_ble_eq_true rfl) ?_
      refine j_iload_n iX1_isTwoShaded_56 rfl ?_
      refine j_iandN iX1_isTwoShaded_57 ?_
      refine j_iorN iX1_isTwoShaded_58  ?_
      refine j_istore iX1_isTwoShaded_59 (by decide) rfl ?_
      dsimp only [List.set]
      refine j_iincN iX1_isTwoShaded_61 rfl (by decide) rfl ?_
      dsimp only [List.set]
      refine j_goto (tgt := 28) iX1_isTwoShaded_64 (by decide) ?_
      exact ih (i + 1) _ _ (by omega) (or_b hl (and_bL (spread_b hf _))) hd2 (fun l' dk' h1 h2 h3 => kk l' dk' h1 h2 h3)
  have L : ∀ (n i left : Nat), i + n = 12 → left < 4096 → J 3 mX1_isTwoShaded 4 [.ref a, .int (nI free), .int (nI left), .int (nI i), .null, .null, .null] [] w (fun v u => v = some (.int (bI (tsFrom f free n left))) ∧ u = w) := by
    intro n
    induction n with
    | zero =>
      intro i left hi hp
      refine j_iload_n iX1_isTwoShaded_4 rfl ?_
      refine j_bipush (v := nI 12) iX1_isTwoShaded_5 (by decide) ?_
      refine j_icmp_geN (tgt := 93) iX1_isTwoShaded_7 (by decide) (by omega) (by omega) (fun _ => ?_) (fun hno => by exfalso; omega)
      refine j_iconst (v := nI 1) iX1_isTwoShaded_93 (by decide) ?_
      refine j_iret iX1_isTwoShaded_94 rfl (by first | rfl | exact nar_bI _ | exact nar_bP) (⟨rfl, rfl⟩)
    | succ n ih =>
      intro i left hi hp
      by_cases h0 : left = 0
      · refine j_iload_n iX1_isTwoShaded_4 rfl ?_
        refine j_bipush (v := nI 12) iX1_isTwoShaded_5 (by decide) ?_
        refine j_icmp_geN (tgt := 93) iX1_isTwoShaded_7 (by decide) (by omega) (by omega) (fun hno => by exfalso; omega) (fun _ => ?_)
        refine j_iload_n iX1_isTwoShaded_10 rfl ?_
        refine j_if_eqN (tgt := 93) iX1_isTwoShaded_11 (by decide) (by omega) (fun _ => ?_) (fun hno => by exfalso; omega)
        refine j_iconst (v := nI 1) iX1_isTwoShaded_93 (by decide) ?_
        refine j_iret iX1_isTwoShaded_94 rfl (by first | rfl | exact nar_bI _ | exact nar_bP) (⟨by unfold tsFrom; rw [if_pos h0]; rfl, rfl⟩)
      · have hl := low_spec hp h0
        have hl2 := pw_b hl.2.1
        refine j_iload_n iX1_isTwoShaded_4 rfl ?_
        refine j_bipush (v := nI 12) iX1_isTwoShaded_5 (by decide) ?_
        refine j_icmp_geN (tgt := 93) iX1_isTwoShaded_7 (by decide) (by omega) (by omega) (fun hno => by exfalso; omega) (fun _ => ?_)
        refine j_iload_n iX1_isTwoShaded_10 rfl ?_
        refine j_if_eqN (tgt := 93) iX1_isTwoShaded_11 (by decide) (by omega) (fun hno => by exfalso; omega) (fun _ => ?_)
        refine j_iconst (v := nI 1) iX1_isTwoShaded_14 (by decide) ?_
        refine j_iload_n iX1_isTwoShaded_15 rfl ?_
        refine j_SN1R okX5_lowestOf nk_X1_48 iX1_isTwoShaded_16 (by omega) (c_low left hp h0) rfl (Nat.le_of_ble_eq_true rfl) (Nat.le_of_ble_eq_true rfl) ?_
        refine j_ishlN iX1_isTwoShaded_19 (by omega) ?_
        refine j_istore iX1_isTwoShaded_20 (by decide) rfl ?_
        dsimp only [List.set]
        refine j_iconst (v := nI 0) iX1_isTwoShaded_22 (by decide) ?_
        refine j_istore iX1_isTwoShaded_23 (by decide) rfl ?_
        dsimp only [List.set]
        refine j_iconst (v := nI 0) iX1_isTwoShaded_25 (by decide) ?_
        refine j_istore iX1_isTwoShaded_26 (by decide) rfl ?_
        dsimp only [List.set]
        refine LI left i _ 12 0 (2 ^ low left) 0 rfl hl2 (by decide) (fun l' dk' h1 h2 h3 => ?_)
        have h5 : l' &&& dk' < 4096 := and_bL h1
        refine j_iload iX1_isTwoShaded_67 rfl ?_
        refine j_iload iX1_isTwoShaded_69 rfl ?_
        refine j_iandN iX1_isTwoShaded_71 ?_
        refine j_if_eqN (tgt := 77) iX1_isTwoShaded_72 (by decide) (by omega) (fun h72 => ?_) (fun h72 => ?_)
        · refine j_iload_n iX1_isTwoShaded_77 rfl ?_
          refine j_iload iX1_isTwoShaded_78 rfl ?_
          refine j_iload iX1_isTwoShaded_80 rfl ?_
          refine j_iorN iX1_isTwoShaded_82  ?_
          refine j_iconst (v := (-1)) iX1_isTwoShaded_83 (by decide) ?_
          refine j_ixor iX1_isTwoShaded_84 ?_
          refine j_iandnN iX1_isTwoShaded_85 ?_
          refine j_istore_n iX1_isTwoShaded_86 (by decide) rfl ?_
          dsimp only [List.set]
          refine j_iincN iX1_isTwoShaded_87 rfl (by decide) rfl ?_
          dsimp only [List.set]
          refine j_goto (tgt := 4) iX1_isTwoShaded_90 (by decide) ?_
          exact J.forget (by simpa only [tsFrom, if_neg h0, ← h3, if_pos h72] using ih (i + 1) (ad left (l' ||| dk')) (by omega) (ad_b hp)) (by intro i v h1 h2; rcases i with _ | _ | _ | _ | _ | _ | _ | i <;> simp_all)
        · refine j_iconst (v := nI 0) iX1_isTwoShaded_75 (by decide) ?_
          refine j_iret iX1_isTwoShaded_76 rfl (by first | rfl | exact nar_bI _ | exact nar_bP) (⟨by unfold tsFrom; rw [if_neg h0, ← h3, if_neg h72]; rfl, rfl⟩)
  refine j_start (ls := [.ref a, .int (nI free), .null, .null, .null, .null, .null]) rfl ?_
  refine j_iload_n iX1_isTwoShaded_0 rfl ?_
  refine j_istore_n iX1_isTwoShaded_1 (by decide) rfl ?_
  dsimp only [List.set]
  refine j_iconst (v := nI 0) iX1_isTwoShaded_2 (by decide) ?_
  refine j_istore_n iX1_isTwoShaded_3 (by decide) rfl ?_
  dsimp only [List.set]
  exact L 12 0 free rfl hfr
/-! peace -/
def peaceRec (f : Nat → Nat) : Nat → Nat → Nat
  | 0, _ => 0
  | h + 1, room => if room = 0 then 0 else if room.testBit h = false then peaceRec f h room else
      if ad room (2 ^ h) &&& f h = 0 then 2 ^ h ||| peaceRec f h (ad (ad room (2 ^ h)) (f h)) else
      if pop (peaceRec f h (ad room (2 ^ h))) < pop (2 ^ h ||| peaceRec f h (ad (ad room (2 ^ h)) (f h))) then 2 ^ h ||| peaceRec f h (ad (ad room (2 ^ h)) (f h)) else peaceRec f h (ad room (2 ^ h))
theorem peaceRec_s (f : Nat → Nat) (h room : Nat) : peaceRec f (h + 1) room = (if room = 0 then 0 else if room.testBit h = false then peaceRec f h room else
      if ad room (2 ^ h) &&& f h = 0 then 2 ^ h ||| peaceRec f h (ad (ad room (2 ^ h)) (f h)) else
      if pop (peaceRec f h (ad room (2 ^ h))) < pop (2 ^ h ||| peaceRec f h (ad (ad room (2 ^ h)) (f h))) then 2 ^ h ||| peaceRec f h (ad (ad room (2 ^ h)) (f h)) else peaceRec f h (ad room (2 ^ h))) := rfl
theorem peaceRec_b {f : Nat → Nat} : ∀ h room, h ≤ 12 → peaceRec f h room < 4096 := by
  intro h
  induction h with
  | zero => intro room _; exact (by decide : 0 < 4096)
  | succ h ih =>
    intro room hh
    rw [peaceRec_s]
    have h1 := or_b (pw_b (i := h) (by omega)) (ih (ad (ad room (2 ^ h)) (f h)) (by omega))
    have h2 := ih (ad room (2 ^ h)) (by omega)
    have h3 := ih room (by omega)
    split
    · decide
    · split
      · exact h3
      · split
        · exact h1
        · split
          · exact h1
          · exact h2
def hI (h : Nat) : Int32 := nI h - nI 1
theorem hI_0 : hI 0 = -1 := by decide
theorem hI_s (h : Nat) : hI (h + 1) = nI h := by unfold hI; rw [pk_sub (by omega)]; rfl
theorem c_mostInPeace (ha : w[a]? = some (nA 12 f)) (hf : ∀ i, f i < 4096) : ∀ (h room : Nat), h ≤ 12 → room < 4096 → JR (2 + h) mX1_mostInPeace [.ref a, .int (nI room), .int (hI h)] w (.int (nI (peaceRec f h room))) w := by
  intro h
  induction h with
  | zero =>
    intro room hh hr
    refine j_start (ls := [.ref a, .int (nI room), .int (hI 0), .null, .null, .null, .null]) rfl ?_
    refine j_iload_n iX1_mostInPeace_0 rfl ?_
    refine j_if_eqN (tgt := 14) iX1_mostInPeace_1 (by decide) (by omega) (fun h1 => ?_) (fun h1 => ?_)
    · refine j_iconst (v := nI 0) iX1_mostInPeace_14 (by decide) ?_
      refine j_iret iX1_mostInPeace_15 rfl (by first | rfl | exact nar_bI _ | exact nar_bP) (⟨rfl, rfl⟩)
    · refine j_iload_n iX1_mostInPeace_4 rfl ?_
      refine j_if_lt (tgt := 14) iX1_mostInPeace_5 (by decide) (fun _ => ?_) (fun hno => by first | exact absurd hno (by rw [hI_0]; decide) | exact absurd (by rw [hI_0]; decide) hno)
      refine j_iconst (v := nI 0) iX1_mostInPeace_14 (by decide) ?_
      refine j_iret iX1_mostInPeace_15 rfl (by first | rfl | exact nar_bI _ | exact nar_bP) (⟨rfl, rfl⟩)
  | succ h ih =>
    intro room hh hr
    refine j_start (ls := [.ref a, .int (nI room), .int (hI (h + 1)), .null, .null, .null, .null]) rfl ?_
    rw [hI_s]
    have hpw := pw_b (i := h) (by omega)
    have hb : ad room (2 ^ h) < 4096 := ad_b hr
    have hb2 : ad (ad room (2 ^ h)) (f h) < 4096 := ad_b hb
    have hc : ad room (2 ^ h) &&& f h < 4096 := and_bL hb
    have h1 := or_b hpw (peaceRec_b (f := f) h (ad (ad room (2 ^ h)) (f h)) (by omega))
    have h2 := peaceRec_b (f := f) h (ad room (2 ^ h)) (by omega)
    by_cases h0 : room = 0
    · refine j_iload_n iX1_mostInPeace_0 rfl ?_
      refine j_if_eqN (tgt := 14) iX1_mostInPeace_1 (by decide) (by omega) (fun _ => ?_) (fun hno => by exfalso; omega)
      refine j_iconst (v := nI 0) iX1_mostInPeace_14 (by decide) ?_
      refine j_iret iX1_mostInPeace_15 rfl (by first | rfl | exact nar_bI _ | exact nar_bP) (⟨by rw [peaceRec_s]; rw [if_pos h0], rfl⟩)
    · refine j_iload_n iX1_mostInPeace_0 rfl ?_
      refine j_if_eqN (tgt := 14) iX1_mostInPeace_1 (by decide) (by omega) (fun hno => by exfalso; omega) (fun _ => ?_)
      refine j_iload_n iX1_mostInPeace_4 rfl ?_
      refine j_if_ltN (tgt := 14) iX1_mostInPeace_5 (by decide) (by omega) (fun hno => by exfalso; omega) (fun _ => ?_)
      refine j_iload_n iX1_mostInPeace_8 rfl ?_
      refine j_aload_n iX1_mostInPeace_9 rfl ?_
      refine j_alen iX1_mostInPeace_10 (by repeat (first | assumption | refine wset_ne (by decide) ?_ | exact wset_lt (by (try simp only [List.length_set]); exact wsome (by assumption)))) (by decide) (by rfl) ?_
      refine j_icmp_ltN (tgt := 16) iX1_mostInPeace_11 (by decide) (by omega) (by omega) (fun _ => ?_) (fun hno => by exfalso; omega)
      refine j_iload_n iX1_mostInPeace_16 rfl ?_
      refine j_iload_n iX1_mostInPeace_17 rfl ?_
      refine j_SN2R okX5_has nk_X1_55 iX1_mostInPeace_18 (by omega) (c_has room h (by omega) (by omega)) rfl (Nat.le_of_ble_eq_true rfl) (Nat.le_of_ble_eq_true rfl) ?_
      refine j_if_neB (tgt := 33) iX1_mostInPeace_21 (by decide) (fun h21 => ?_) (fun h21 => ?_)
      · refine j_iconst (v := nI 1) iX1_mostInPeace_33 (by decide) ?_
        refine j_iload_n iX1_mostInPeace_34 rfl ?_
        refine j_ishlN iX1_mostInPeace_35 (by omega) ?_
        refine j_istore_n iX1_mostInPeace_36 (by decide) rfl ?_
        dsimp only [List.set]
        refine j_iload_n iX1_mostInPeace_37 rfl ?_
        refine j_iload_n iX1_mostInPeace_38 rfl ?_
        refine j_iconst (v := (-1)) iX1_mostInPeace_39 (by decide) ?_
        refine j_ixor iX1_mostInPeace_40 ?_
        refine j_iandnN iX1_mostInPeace_41 ?_
        refine j_istore iX1_mostInPeace_42 (by decide) rfl ?_
        dsimp only [List.set]
        refine j_iload_n iX1_mostInPeace_44 rfl ?_
        refine j_aload_n iX1_mostInPeace_45 rfl ?_
        refine j_iload iX1_mostInPeace_46 rfl ?_
        refine j_aload_n iX1_mostInPeace_48 rfl ?_
        refine j_iload_n iX1_mostInPeace_49 rfl ?_
        refine j_ialdN iX1_mostInPeace_50 (by repeat (first | assumption | refine wset_ne (by decide) ?_ | exact wset_lt (by (try simp only [List.length_set]); exact wsome (by assumption)))) (by omega) ?_
        refine j_iconst (v := (-1)) iX1_mostInPeace_51 (by decide) ?_
        refine j_ixor iX1_mostInPeace_52 ?_
        refine j_iandnN iX1_mostInPeace_53 ?_
        refine j_iload_n iX1_mostInPeace_54 rfl ?_
        refine j_iconst (v := nI 1) iX1_mostInPeace_55 (by decide) ?_
        refine j_isub iX1_mostInPeace_56 ?_
        refine j_S3R okX1_mostInPeace lk_X1_59 iX1_mostInPeace_57 (by omega) (ih (ad (ad room (2 ^ h)) (f h)) (by omega) hb2) rfl (Nat.le_of_ble_eq_true rfl) (Nat.le_of_ble_eq_true rfl) ?_
        refine j_iorN iX1_mostInPeace_60  ?_
        refine j_istore iX1_mostInPeace_61 (by decide) rfl ?_
        dsimp only [List.set]
        refine j_iload iX1_mostInPeace_63 rfl ?_
        refine j_aload_n iX1_mostInPeace_65 rfl ?_
        refine j_iload_n iX1_mostInPeace_66 rfl ?_
        refine j_ialdN iX1_mostInPeace_67 (by repeat (first | assumption | refine wset_ne (by decide) ?_ | exact wset_lt (by (try simp only [List.length_set]); exact wsome (by assumption)))) (by omega) ?_
        refine j_iandN iX1_mostInPeace_68 ?_
        refine j_if_neN (tgt := 75) iX1_mostInPeace_69 (by decide) (by omega) (fun h69 => ?_) (fun h69 => ?_)
        · refine j_aload_n iX1_mostInPeace_75 rfl ?_
          refine j_iload iX1_mostInPeace_76 rfl ?_
          refine j_iload_n iX1_mostInPeace_78 rfl ?_
          refine j_iconst (v := nI 1) iX1_mostInPeace_79 (by decide) ?_
          refine j_isub iX1_mostInPeace_80 ?_
          refine j_S3R okX1_mostInPeace lk_X1_59 iX1_mostInPeace_81 (by omega) (ih (ad room (2 ^ h)) (by omega) hb) rfl (Nat.le_of_ble_eq_true rfl) (Nat.le_of_ble_eq_true rfl) ?_
          refine j_istore iX1_mostInPeace_84 (by decide) rfl ?_
          dsimp only [List.set]
          refine j_iload iX1_mostInPeace_86 rfl ?_
          refine j_iload iX1_mostInPeace_88 rfl ?_
          refine j_S2R okX1_isLarger lk_X1_62 iX1_mostInPeace_90 (by omega) (c_isLarger _ _ h1 h2) rfl (Nat.le_of_ble_eq_true rfl) (Nat.le_of_ble_eq_true rfl) ?_
          refine j_if_eqB (tgt := 101) iX1_mostInPeace_93 (by decide) (fun h93 => ?_) (fun h93 => ?_)
          · refine j_iload iX1_mostInPeace_101 rfl ?_
            refine j_iret iX1_mostInPeace_103 rfl (by first | rfl | exact nar_bI _ | exact nar_bP) (⟨by rw [peaceRec_s]; rw [if_neg h0]; first | rw [if_pos h21] | (rw [if_neg (by rw [h21]; decide)]; first | rw [if_pos h69] | (rw [if_neg h69]; first | rw [if_pos (of_decide_eq_true h93)] | rw [if_neg (of_decide_eq_false h93)])), rfl⟩)
          · refine j_iload iX1_mostInPeace_96 rfl ?_
            refine j_goto (tgt := 103) iX1_mostInPeace_98 (by decide) ?_
            refine j_iret iX1_mostInPeace_103 rfl (by first | rfl | exact nar_bI _ | exact nar_bP) (⟨by rw [peaceRec_s]; rw [if_neg h0]; first | rw [if_pos h21] | (rw [if_neg (by rw [h21]; decide)]; first | rw [if_pos h69] | (rw [if_neg h69]; first | rw [if_pos (of_decide_eq_true h93)] | rw [if_neg (of_decide_eq_false h93)])), rfl⟩)
        · refine j_iload iX1_mostInPeace_72 rfl ?_
          refine j_iret iX1_mostInPeace_74 rfl (by first | rfl | exact nar_bI _ | exact nar_bP) (⟨by rw [peaceRec_s]; rw [if_neg h0]; first | rw [if_pos h21] | (rw [if_neg (by rw [h21]; decide)]; first | rw [if_pos h69] | (rw [if_neg h69]; first | rw [if_pos (of_decide_eq_true h93)] | rw [if_neg (of_decide_eq_false h93)])), rfl⟩)
      · refine j_aload_n iX1_mostInPeace_24 rfl ?_
        refine j_iload_n iX1_mostInPeace_25 rfl ?_
        refine j_iload_n iX1_mostInPeace_26 rfl ?_
        refine j_iconst (v := nI 1) iX1_mostInPeace_27 (by decide) ?_
        refine j_isub iX1_mostInPeace_28 ?_
        refine j_S3R okX1_mostInPeace lk_X1_59 iX1_mostInPeace_29 (by omega) (ih room (by omega) hr) rfl (Nat.le_of_ble_eq_true rfl) (Nat.le_of_ble_eq_true rfl) ?_
        refine j_iret iX1_mostInPeace_32 rfl (by first | rfl | exact nar_bI _ | exact nar_bP) (⟨by rw [peaceRec_s]; rw [if_neg h0]; first | rw [if_pos h21] | (rw [if_neg (by rw [h21]; decide)]; first | rw [if_pos h69] | (rw [if_neg h69]; first | rw [if_pos (of_decide_eq_true h93)] | rw [if_neg (of_decide_eq_false h93)])), rfl⟩)
/-! guards -/
theorem nt {b : Bool} (h : b = false) : ¬ b = true := by rw [h]; decide
def guardBet (best chosen : Nat) : Bool := decide (pop chosen < pop best) || (!decide (pop best < pop chosen) && decide (chosen < best))
def guardRec (f : Nat → Nat) (free : Nat) : Nat → Nat → Nat → Nat → Nat
  | 0, chosen, covered, best => if ad free covered = 0 then (if guardBet best chosen = true then chosen else best) else best
  | n + 1, chosen, covered, best => if ad free covered = 0 then (if guardBet best chosen = true then chosen else best) else
      if pop chosen < pop best then
        fold (fun cell found => if ((2 ^ low (ad free covered) ||| spread f (2 ^ low (ad free covered))) &&& free).testBit cell = true then guardRec f free n (chosen ||| 2 ^ cell) (covered ||| f cell ||| 2 ^ cell) found else found) 12 0 best
      else best
theorem guardRec_0 (f : Nat → Nat) (free chosen covered best : Nat) : guardRec f free 0 chosen covered best = (if ad free covered = 0 then (if guardBet best chosen = true then chosen else best) else best) := rfl
theorem guardRec_s (f : Nat → Nat) (free n chosen covered best : Nat) : guardRec f free (n + 1) chosen covered best = (if ad free covered = 0 then (if guardBet best chosen = true then chosen else best) else
      if pop chosen < pop best then
        fold (fun cell found => if ((2 ^ low (ad free covered) ||| spread f (2 ^ low (ad free covered))) &&& free).testBit cell = true then guardRec f free n (chosen ||| 2 ^ cell) (covered ||| f cell ||| 2 ^ cell) found else found) 12 0 best
      else best) := rfl
theorem fold_inv {α : Type} {step : Nat → α → α} {P : α → Prop} : ∀ (k i : Nat) (x : α), P x → (∀ j y, i ≤ j → j < i + k → P y → P (step j y)) → P (fold step k i x) := by
  intro k
  induction k with
  | zero => intro i x h _; exact h
  | succ k ih =>
    intro i x h hs
    exact ih (i + 1) (step i x) (hs i x (Nat.le_refl _) (by omega) h) (fun j y h1 h2 hy => hs j y (by omega) (by omega) hy)
theorem guardRec_b {f : Nat → Nat} {free : Nat} : ∀ n chosen covered best, chosen < 4096 → best < 4096 → guardRec f free n chosen covered best < 4096 := by
  intro n
  induction n with
  | zero =>
    intro ch cv b h1 h2
    rw [guardRec_0]
    split
    · split <;> assumption
    · assumption
  | succ n ih =>
    intro ch cv b h1 h2
    rw [guardRec_s]
    split
    · split <;> assumption
    · split
      · refine fold_inv (P := fun x => x < 4096) 12 0 b h2 fun j y _ hj hy => ?_
        split
        · exact ih _ _ _ (or_b h1 (pw_b (by omega))) hy
        · exact hy
      · assumption
theorem c_fewestGuards (ha : w[a]? = some (nA 12 f)) (hf : ∀ i, f i < 4096) (free : Nat) (hfr : free < 4096) : ∀ (n chosen covered best : Nat), n ≤ 12 → chosen < 4096 → covered < 4096 → best < 4096 → JR (3 + n) mX1_fewestGuards [.ref a, .int (nI free), .int (nI chosen), .int (nI covered), .int (nI best), .int (nI (12 - n))] w (.int (nI (guardRec f free n chosen covered best))) w := by
  have H0 : ∀ (d n chosen covered best : Nat), 3 ≤ d → n ≤ 12 → chosen < 4096 → covered < 4096 → best < 4096 → ad free covered = 0 → J d mX1_fewestGuards 12 [.ref a, .int (nI free), .int (nI chosen), .int (nI covered), .int (nI best), .int (nI (12 - n)), .int (nI (ad free covered)), .null, .null, .null, .null, .null] [] w (fun v u => v = some (.int (nI (guardRec f free n chosen covered best))) ∧ u = w) := by
    intro d n ch cv b hd hn h1 h2 h3 h0
    have e : guardRec f free n ch cv b = if guardBet b ch = true then ch else b := by cases n <;> (first | rw [guardRec_0, if_pos h0] | rw [guardRec_s, if_pos h0])
    rw [e]
    have K : ∀ q : Bool, q = guardBet b ch → J d mX1_fewestGuards 41 [.ref a, .int (nI free), .int (nI ch), .int (nI cv), .int (nI b), .int (nI (12 - n)), .int (nI (ad free cv)), .null, .null, .null, .null, .null] [.int (bI q)] w (fun v u => v = some (.int (nI (if guardBet b ch = true then ch else b))) ∧ u = w) := by
      intro q hq
      refine j_istore iX1_fewestGuards_41 (by decide) rfl ?_
      dsimp only [List.set]
      refine j_iload iX1_fewestGuards_43 rfl ?_
      refine j_if_eqB (tgt := 52) iX1_fewestGuards_45 (by decide) (fun h45 => ?_) (fun h45 => ?_)
      · refine j_iload iX1_fewestGuards_52 rfl ?_
        refine j_iret iX1_fewestGuards_54 rfl (by first | rfl | exact nar_bI _ | exact nar_bP) (⟨by rw [← hq, h45]; rfl, rfl⟩)
      · refine j_iload_n iX1_fewestGuards_48 rfl ?_
        refine j_goto (tgt := 54) iX1_fewestGuards_49 (by decide) ?_
        refine j_iret iX1_fewestGuards_54 rfl (by first | rfl | exact nar_bI _ | exact nar_bP) (⟨by rw [← hq, h45]; rfl, rfl⟩)
    refine j_iload iX1_fewestGuards_12 rfl ?_
    refine j_iload_n iX1_fewestGuards_14 rfl ?_
    refine j_S2R okX1_isLarger lk_X1_62 iX1_fewestGuards_15 (by omega) (c_isLarger b ch h3 h1) rfl (Nat.le_of_ble_eq_true rfl) (Nat.le_of_ble_eq_true rfl) ?_
    refine j_if_neB (tgt := 36) iX1_fewestGuards_18 (by decide) (fun h18 => ?_) (fun h18 => ?_)
    · refine j_iconst (v := nI 1) iX1_fewestGuards_36 (by decide) ?_
      refine j_goto (tgt := 41) iX1_fewestGuards_37 (by decide) ?_
      first | exact K true (by unfold guardBet; rw [h18]; rfl) | exact K false (by unfold guardBet; rw [h18, h27]; rfl) | exact K false (by unfold guardBet; rw [h18, h27, decide_eq_false (by omega)]; rfl) | exact K true (by unfold guardBet; rw [h18, h27, decide_eq_true (by omega)]; rfl)
    · refine j_iload_n iX1_fewestGuards_21 rfl ?_
      refine j_iload iX1_fewestGuards_22 rfl ?_
      refine j_S2R okX1_isLarger lk_X1_62 iX1_fewestGuards_24 (by omega) (c_isLarger ch b h1 h3) rfl (Nat.le_of_ble_eq_true rfl) (Nat.le_of_ble_eq_true rfl) ?_
      refine j_if_neB (tgt := 40) iX1_fewestGuards_27 (by decide) (fun h27 => ?_) (fun h27 => ?_)
      · refine j_iconst (v := nI 0) iX1_fewestGuards_40 (by decide) ?_
        first | exact K true (by unfold guardBet; rw [h18]; rfl) | exact K false (by unfold guardBet; rw [h18, h27]; rfl) | exact K false (by unfold guardBet; rw [h18, h27, decide_eq_false (by omega)]; rfl) | exact K true (by unfold guardBet; rw [h18, h27, decide_eq_true (by omega)]; rfl)
      · refine j_iload_n iX1_fewestGuards_30 rfl ?_
        refine j_iload iX1_fewestGuards_31 rfl ?_
        refine j_icmp_geN (tgt := 40) iX1_fewestGuards_33 (by decide) (by omega) (by omega) (fun h33 => ?_) (fun h33 => ?_)
        · refine j_iconst (v := nI 0) iX1_fewestGuards_40 (by decide) ?_
          first | exact K true (by unfold guardBet; rw [h18]; rfl) | exact K false (by unfold guardBet; rw [h18, h27]; rfl) | exact K false (by unfold guardBet; rw [h18, h27, decide_eq_false (by omega)]; rfl) | exact K true (by unfold guardBet; rw [h18, h27, decide_eq_true (by omega)]; rfl)
        · refine j_iconst (v := nI 1) iX1_fewestGuards_36 (by decide) ?_
          refine j_goto (tgt := 41) iX1_fewestGuards_37 (by decide) ?_
          first | exact K true (by unfold guardBet; rw [h18]; rfl) | exact K false (by unfold guardBet; rw [h18, h27]; rfl) | exact K false (by unfold guardBet; rw [h18, h27, decide_eq_false (by omega)]; rfl) | exact K true (by unfold guardBet; rw [h18, h27, decide_eq_true (by omega)]; rfl)
  intro n
  induction n with
  | zero =>
    intro ch cv b hn h1 h2 h3
    have hop : ad free cv < 4096 := ad_b hfr
    refine j_start (ls := [.ref a, .int (nI free), .int (nI ch), .int (nI cv), .int (nI b), .int (nI (12 - 0)), .null, .null, .null, .null, .null, .null]) rfl ?_
    refine j_iload_n iX1_fewestGuards_0 rfl ?_
    refine j_iload_n iX1_fewestGuards_1 rfl ?_
    refine j_iconst (v := (-1)) iX1_fewestGuards_2 (by decide) ?_
    refine j_ixor iX1_fewestGuards_3 ?_
    refine j_iandnN iX1_fewestGuards_4 ?_
    refine j_istore iX1_fewestGuards_5 (by decide) rfl ?_
    dsimp only [List.set]
    refine j_iload iX1_fewestGuards_7 rfl ?_
    refine j_if_neN (tgt := 55) iX1_fewestGuards_9 (by decide) (by omega) (fun h9 => ?_) (fun h9 => ?_)
    · refine j_iload iX1_fewestGuards_55 rfl ?_
      refine j_iload_n iX1_fewestGuards_57 rfl ?_
      refine j_S2R okX1_isLarger lk_X1_62 iX1_fewestGuards_58 (by omega) (c_isLarger b ch h3 h1) rfl (Nat.le_of_ble_eq_true rfl) (Nat.le_of_ble_eq_true rfl) ?_
      refine j_if_eqB (tgt := 71) iX1_fewestGuards_61 (by decide) (fun h61 => ?_) (fun h61 => ?_)
      · refine j_iload iX1_fewestGuards_71 rfl ?_
        refine j_iret iX1_fewestGuards_73 rfl (by first | rfl | exact nar_bI _ | exact nar_bP) (⟨by rw [guardRec_0, if_neg h9], rfl⟩)
      · refine j_iload iX1_fewestGuards_64 rfl ?_
        refine j_bipush (v := nI 12) iX1_fewestGuards_66 (by decide) ?_
        refine j_icmp_ltN (tgt := 74) iX1_fewestGuards_68 (by decide) (by omega) (by omega) (fun hno => by exfalso; omega) (fun _ => ?_)
        refine j_iload iX1_fewestGuards_71 rfl ?_
        refine j_iret iX1_fewestGuards_73 rfl (by first | rfl | exact nar_bI _ | exact nar_bP) (⟨by rw [guardRec_0, if_neg h9], rfl⟩)
    · exact H0 _ 0 ch cv b (by omega) (by omega) h1 h2 h3 h9
  | succ n ih =>
    intro ch cv b hn h1 h2 h3
    have hop : ad free cv < 4096 := ad_b hfr
    refine j_start (ls := [.ref a, .int (nI free), .int (nI ch), .int (nI cv), .int (nI b), .int (nI (12 - (n + 1))), .null, .null, .null, .null, .null, .null]) rfl ?_
    by_cases h0 : ad free cv = 0
    · refine j_iload_n iX1_fewestGuards_0 rfl ?_
      refine j_iload_n iX1_fewestGuards_1 rfl ?_
      refine j_iconst (v := (-1)) iX1_fewestGuards_2 (by decide) ?_
      refine j_ixor iX1_fewestGuards_3 ?_
      refine j_iandnN iX1_fewestGuards_4 ?_
      refine j_istore iX1_fewestGuards_5 (by decide) rfl ?_
      dsimp only [List.set]
      refine j_iload iX1_fewestGuards_7 rfl ?_
      refine j_if_neN (tgt := 55) iX1_fewestGuards_9 (by decide) (by omega) (fun hno => by exfalso; omega) (fun _ => ?_)
      exact H0 _ (n + 1) ch cv b (by omega) hn h1 h2 h3 h0
    · have hl := low_spec hop h0
      have hl2 := pw_b hl.2.1
      have hcs : (2 ^ low (ad free cv) ||| spread f (2 ^ low (ad free cv))) &&& free < 4096 := and_bR hfr
      have L : ∀ (m i found : Nat), i + m = 12 → found < 4096 → J (3 + (n + 1)) mX1_fewestGuards 105 [.ref a, .int (nI free), .int (nI ch), .int (nI cv), .int (nI b), .int (nI (12 - (n + 1))), .int (nI (ad free cv)), .int (nI (low (ad free cv))), .int (nI ((2 ^ low (ad free cv) ||| spread f (2 ^ low (ad free cv))) &&& free)), .int (nI found), .int (nI i), .null] [] w (fun v u => v = some (.int (nI (fold (fun cell found => if ((2 ^ low (ad free cv) ||| spread f (2 ^ low (ad free cv))) &&& free).testBit cell = true then guardRec f free n (ch ||| 2 ^ cell) (cv ||| f cell ||| 2 ^ cell) found else found) m i found))) ∧ u = w) := by
        intro m
        induction m with
        | zero =>
          intro i found hi hfo
          refine j_iload iX1_fewestGuards_105 rfl ?_
          refine j_aload_n iX1_fewestGuards_107 rfl ?_
          refine j_alen iX1_fewestGuards_108 (by repeat (first | assumption | refine wset_ne (by decide) ?_ | exact wset_lt (by (try simp only [List.length_set]); exact wsome (by assumption)))) (by decide) (by rfl) ?_
          refine j_icmp_geN (tgt := 162) iX1_fewestGuards_109 (by decide) (by omega) (by omega) (fun _ => ?_) (fun hno => by exfalso; omega)
          refine j_iload iX1_fewestGuards_162 rfl ?_
          refine j_iret iX1_fewestGuards_164 rfl (by first | rfl | exact nar_bI _ | exact nar_bP) (⟨rfl, rfl⟩)
        | succ m ihm =>
          intro i found hi hfo
          have q1 : ch ||| 2 ^ i < 4096 := or_b h1 (pw_b (by omega))
          have q2 : cv ||| f i ||| 2 ^ i < 4096 := or_b (or_b h2 (hf i)) (pw_b (by omega))
          refine j_iload iX1_fewestGuards_105 rfl ?_
          refine j_aload_n iX1_fewestGuards_107 rfl ?_
          refine j_alen iX1_fewestGuards_108 (by repeat (first | assumption | refine wset_ne (by decide) ?_ | exact wset_lt (by (try simp only [List.length_set]); exact wsome (by assumption)))) (by decide) (by rfl) ?_
          refine j_icmp_geN (tgt := 162) iX1_fewestGuards_109 (by decide) (by omega) (by omega) (fun hno => by exfalso; omega) (fun _ => ?_)
          refine j_iload iX1_fewestGuards_112 rfl ?_
          refine j_iload iX1_fewestGuards_114 rfl ?_
          refine j_SN2R okX5_has nk_X1_55 iX1_fewestGuards_116 (by omega) (c_has _ i (by omega) (by omega)) rfl (Nat.le_of_ble_eq_true rfl) (Nat.le_of_ble_eq_true rfl) ?_
          refine j_if_eqB (tgt := 156) iX1_fewestGuards_119 (by decide) (fun h119 => ?_) (fun h119 => ?_)
          · refine j_iincN iX1_fewestGuards_156 rfl (by decide) rfl ?_
            dsimp only [List.set]
            refine j_goto (tgt := 105) iX1_fewestGuards_159 (by decide) ?_
            first | exact J.forget (by simpa only [fold, if_pos h119] using ihm (i + 1) _ (by omega) (guardRec_b (f := f) (free := free) n _ _ _ q1 hfo)) (by intro i v h1 h2; rcases i with _ | _ | _ | _ | _ | _ | _ | _ | _ | _ | _ | _ | i <;> simp_all) | exact J.forget (by simpa only [fold, if_neg (nt h119)] using ihm (i + 1) found (by omega) hfo) (by intro i v h1 h2; rcases i with _ | _ | _ | _ | _ | _ | _ | _ | _ | _ | _ | _ | i <;> simp_all)
          · refine j_iload_n iX1_fewestGuards_122 rfl ?_
            refine j_aload_n iX1_fewestGuards_123 rfl ?_
            refine j_iload iX1_fewestGuards_124 rfl ?_
            refine j_ialdN iX1_fewestGuards_126 (by repeat (first | assumption | refine wset_ne (by decide) ?_ | exact wset_lt (by (try simp only [List.length_set]); exact wsome (by assumption)))) (by omega) ?_
            refine j_iorN iX1_fewestGuards_127  ?_
            refine j_iconst (v := nI 1) iX1_fewestGuards_128 (by decide) ?_
            refine j_iload iX1_fewestGuards_129 rfl ?_
            refine j_ishlN iX1_fewestGuards_131 (by omega) ?_
            refine j_iorN iX1_fewestGuards_132  ?_
            refine j_istore iX1_fewestGuards_133 (by decide) rfl ?_
            dsimp only [List.set]
            refine j_aload_n iX1_fewestGuards_135 rfl ?_
            refine j_iload_n iX1_fewestGuards_136 rfl ?_
            refine j_iload_n iX1_fewestGuards_137 rfl ?_
            refine j_iconst (v := nI 1) iX1_fewestGuards_138 (by decide) ?_
            refine j_iload iX1_fewestGuards_139 rfl ?_
            refine j_ishlN iX1_fewestGuards_141 (by omega) ?_
            refine j_iorN iX1_fewestGuards_142  ?_
            refine j_iload iX1_fewestGuards_143 rfl ?_
            refine j_iload iX1_fewestGuards_145 rfl ?_
            refine j_iload iX1_fewestGuards_147 rfl ?_
            refine j_iconst (v := nI 1) iX1_fewestGuards_149 (by decide) ?_
            refine j_iaddN iX1_fewestGuards_150  ?_
            refine j_top (y := nI (12 - n)) (by congr 1; omega) ?_
            refine j_S6R okX1_fewestGuards lk_X1_70 iX1_fewestGuards_151 (by omega) (ih _ _ _ (by omega) q1 q2 hfo) rfl (Nat.le_of_ble_eq_true rfl) (Nat.le_of_ble_eq_true rfl) ?_
            refine j_istore iX1_fewestGuards_154 (by decide) rfl ?_
            dsimp only [List.set]
            refine j_iincN iX1_fewestGuards_156 rfl (by decide) rfl ?_
            dsimp only [List.set]
            refine j_goto (tgt := 105) iX1_fewestGuards_159 (by decide) ?_
            first | exact J.forget (by simpa only [fold, if_pos h119] using ihm (i + 1) _ (by omega) (guardRec_b (f := f) (free := free) n _ _ _ q1 hfo)) (by intro i v h1 h2; rcases i with _ | _ | _ | _ | _ | _ | _ | _ | _ | _ | _ | _ | i <;> simp_all) | exact J.forget (by simpa only [fold, if_neg (nt h119)] using ihm (i + 1) found (by omega) hfo) (by intro i v h1 h2; rcases i with _ | _ | _ | _ | _ | _ | _ | _ | _ | _ | _ | _ | i <;> simp_all)
      refine j_iload_n iX1_fewestGuards_0 rfl ?_
      refine j_iload_n iX1_fewestGuards_1 rfl ?_
      refine j_iconst (v := (-1)) iX1_fewestGuards_2 (by decide) ?_
      refine j_ixor iX1_fewestGuards_3 ?_
      refine j_iandnN iX1_fewestGuards_4 ?_
      refine j_istore iX1_fewestGuards_5 (by decide) rfl ?_
      dsimp only [List.set]
      refine j_iload iX1_fewestGuards_7 rfl ?_
      refine j_if_neN (tgt := 55) iX1_fewestGuards_9 (by decide) (by omega) (fun _ => ?_) (fun hno => by exfalso; omega)
      refine j_iload iX1_fewestGuards_55 rfl ?_
      refine j_iload_n iX1_fewestGuards_57 rfl ?_
      refine j_S2R okX1_isLarger lk_X1_62 iX1_fewestGuards_58 (by omega) (c_isLarger b ch h3 h1) rfl (Nat.le_of_ble_eq_true rfl) (Nat.le_of_ble_eq_true rfl) ?_
      refine j_if_eqB (tgt := 71) iX1_fewestGuards_61 (by decide) (fun h61 => ?_) (fun h61 => ?_)
      · refine j_iload iX1_fewestGuards_71 rfl ?_
        refine j_iret iX1_fewestGuards_73 rfl (by first | rfl | exact nar_bI _ | exact nar_bP) (⟨by rw [guardRec_s]; rw [if_neg h0, if_neg (of_decide_eq_false h61)], rfl⟩)
      · refine j_iload iX1_fewestGuards_64 rfl ?_
        refine j_bipush (v := nI 12) iX1_fewestGuards_66 (by decide) ?_
        refine j_icmp_ltN (tgt := 74) iX1_fewestGuards_68 (by decide) (by omega) (by omega) (fun _ => ?_) (fun hno => by exfalso; omega)
        refine j_iload iX1_fewestGuards_74 rfl ?_
        refine j_SN1R okX5_lowestOf nk_X1_48 iX1_fewestGuards_76 (by omega) (c_low _ hop h0) rfl (Nat.le_of_ble_eq_true rfl) (Nat.le_of_ble_eq_true rfl) ?_
        refine j_istore iX1_fewestGuards_79 (by decide) rfl ?_
        dsimp only [List.set]
        refine j_iconst (v := nI 1) iX1_fewestGuards_81 (by decide) ?_
        refine j_iload iX1_fewestGuards_82 rfl ?_
        refine j_ishlN iX1_fewestGuards_84 (by omega) ?_
        refine j_aload_n iX1_fewestGuards_85 rfl ?_
        refine j_iconst (v := nI 1) iX1_fewestGuards_86 (by decide) ?_
        refine j_iload iX1_fewestGuards_87 rfl ?_
        refine j_ishlN iX1_fewestGuards_89 (by omega) ?_
        refine j_S2R okX1_spread lk_X1_44 iX1_fewestGuards_90 (by omega) (c_spread ha _ (by omega)) rfl (Nat.le_of_ble_eq_true rfl) (Nat.le_of_ble_eq_true rfl) ?_
        refine j_iorN iX1_fewestGuards_93  ?_
        refine j_iload_n iX1_fewestGuards_94 rfl ?_
        refine j_iandN iX1_fewestGuards_95 ?_
        refine j_istore iX1_fewestGuards_96 (by decide) rfl ?_
        dsimp only [List.set]
        refine j_iload iX1_fewestGuards_98 rfl ?_
        refine j_istore iX1_fewestGuards_100 (by decide) rfl ?_
        dsimp only [List.set]
        refine j_iconst (v := nI 0) iX1_fewestGuards_102 (by decide) ?_
        refine j_istore iX1_fewestGuards_103 (by decide) rfl ?_
        dsimp only [List.set]
        exact (by rw [guardRec_s]; rw [if_neg h0, if_pos (of_decide_eq_true h61)]; exact L 12 0 b rfl h3)
end
