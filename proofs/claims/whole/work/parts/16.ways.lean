/-! ===== the class: ways ===== -/
def nextS (S M : Nat) : Nat := if S = M then 0 else ad M (M - S - 1)
theorem nI_nextS {S M : Nat} (hs : S &&& M = S) (hM : M < 4096) : (nI S - nI M) &&& nI M = nI (nextS S M) := by
  have hle : S ≤ M := by rw [← hs]; exact Nat.and_le_right
  unfold nextS
  by_cases h : S = M
  · subst h
    rw [if_pos rfl, Int32.sub_self, Int32.zero_and]
    rfl
  · rw [if_neg h]
    have hlt : S < M := by omega
    have e : nI S - nI M = nI (M - S - 1) ^^^ (-1) := by
      apply Int32.toBitVec_inj.mp
      show BitVec.ofNat 32 S - BitVec.ofNat 32 M = BitVec.ofNat 32 (M - S - 1) ^^^ (-1 : Int32).toBitVec
      have h1 : (-1 : Int32).toBitVec = BitVec.allOnes 32 := by decide +kernel
      rw [h1, BitVec.xor_allOnes]
      apply BitVec.eq_of_toNat_eq
      rw [BitVec.toNat_sub, BitVec.toNat_not, BitVec.toNat_ofNat, BitVec.toNat_ofNat, BitVec.toNat_ofNat]
      omega
    rw [e, Int32.and_comm, nI_andn]
theorem nextS_b {S M : Nat} (hM : M < 4096) : nextS S M < 4096 := by
  unfold nextS
  split
  · decide
  · exact ad_b hM
theorem nextS_sub (S M : Nat) : nextS S M &&& M = nextS S M := by
  unfold nextS
  split
  · rw [Nat.zero_and]
  · apply Nat.eq_of_testBit_eq
    intro i
    rw [Nat.testBit_and, ad_tb]
    cases M.testBit i <;> simp
def stStep (f st : Nat → Nat) (S : Nat) (c r : Nat) : Nat := if S.testBit c = true then (if ad S (2 ^ c) = 0 ∨ st (ad S (2 ^ c)) &&& f c ≠ 0 then r ||| 2 ^ c else r) else r
def stOf (f st : Nat → Nat) (S : Nat) : Nat := fold (stStep f st S) 12 0 0
theorem stOf_b (f st : Nat → Nat) (S : Nat) : stOf f st S < 4096 := by
  refine fold_inv (P := fun x => x < 4096) 12 0 0 (by decide) fun j y _ hj hy => ?_
  unfold stStep
  split
  · split
    · exact or_b hy (pw_b (by omega))
    · exact hy
  · exact hy
def ffNew (near : Nat) (fi : Nat → Nat) (S b : Nat) : Nat → Nat := if b &&& near ≠ 0 then un fi (pop S) (fi (pop S) ||| (b &&& near)) else fi
def ffLoop (f : Nat → Nat) (near M : Nat) : Nat → Nat → (Nat → Nat) → (Nat → Nat) → (Nat → Nat) × (Nat → Nat)
  | 0, _, st, fi => (st, fi)
  | n + 1, S, st, fi => if nextS S M = 0 then (st, fi) else
      ffLoop f near M n (nextS S M) (un st (nextS S M) (stOf f st (nextS S M))) (ffNew near fi (nextS S M) (stOf f st (nextS S M)))
theorem ffLoop_s (f : Nat → Nat) (near M n S : Nat) (st fi : Nat → Nat) : ffLoop f near M (n + 1) S st fi = if nextS S M = 0 then (st, fi) else
      ffLoop f near M n (nextS S M) (un st (nextS S M) (stOf f st (nextS S M))) (ffNew near fi (nextS S M) (stOf f st (nextS S M))) := rfl
theorem ffNew_b {near S b : Nat} {fi : Nat → Nat} (hb : b < 4096) (h : ∀ k, fi k < 4096) : ∀ k, ffNew near fi S b k < 4096 := by
  intro k
  unfold ffNew
  split
  · unfold un
    split
    · exact or_b (h _) (and_bL hb)
    · exact h k
  · exact h k
theorem ffLoop_b {f : Nat → Nat} {near M : Nat} : ∀ (n S : Nat) (st fi : Nat → Nat), (∀ k, fi k < 4096) → ∀ k, (ffLoop f near M n S st fi).2 k < 4096 := by
  intro n
  induction n with
  | zero => intro S st fi h; exact h
  | succ n ih =>
    intro S st fi h
    rw [ffLoop_s]
    split
    · exact h
    · exact ih _ _ _ (ffNew_b (stOf_b _ _ _) h)
def ffF (f : Nat → Nat) (s room : Nat) (st : Nat → Nat) : (Nat → Nat) × (Nat → Nat) := ffLoop f (f s) (partF f room (2 ^ s) &&& room) 4096 0 st (fun _ => 0)
theorem ffF_b {f : Nat → Nat} {s room : Nat} {st : Nat → Nat} (k : Nat) : (ffF f s room st).2 k < 4096 := ffLoop_b 4096 0 st _ (fun _ => (by decide : 0 < 4096)) k
def ffW (w : mW) (p : (Nat → Nat) × (Nat → Nat)) : mW := (w.set 27 (nA 4096 p.1)).set 28 (nA 13 p.2)
def mbF (fi : Nat → Nat) : Nat → Nat
  | 0 => 0
  | k + 1 => if fi (k + 1) ≠ 0 then k + 1 else mbF fi k
theorem mbF_le (fi : Nat → Nat) : ∀ k, mbF fi k ≤ k := by
  intro k
  induction k with
  | zero => exact Nat.le_refl _
  | succ k ih => unfold mbF; split <;> omega
section
variable {w : mW} {a : Nat} {f : Nat → Nat}
theorem c_startsOf {st : Nat → Nat} (h6 : w[6]? = some oT) (ha : w[a]? = some (nA 12 f)) (hf : ∀ i, f i < 4096) (h27 : w[27]? = some (nA 4096 st)) (S : Nat) (hS : S < 4096) : JR 1 mX4_startsOf [.ref 6, .ref a, .int (nI S)] w (.int (nI (stOf f st S))) w := by
  have L : ∀ (n c r : Nat), c + n = 12 → J 1 mX4_startsOf 5 [.ref 6, .ref a, .int (nI S), .int (nI r), .int (nI c), .null] [] w (fun v u => v = some (.int (nI (fold (stStep f st S) n c r))) ∧ u = w) := by
    intro n
    induction n with
    | zero =>
      intro c r hc
      refine j_iload iX4_startsOf_5 rfl ?_
      refine j_aload_n iX4_startsOf_7 rfl ?_
      refine j_alen iX4_startsOf_8 (by repeat (first | assumption | refine wset_ne (by decide) ?_ | exact wset_lt (by (try simp only [List.length_set]); exact wsome (by assumption)))) (by decide) (by rfl) ?_
      refine j_icmp_geN (tgt := 79) iX4_startsOf_9 (by decide) (by omega) (by omega) (fun _ => ?_) (fun hno => by exfalso; omega)
      refine j_iload_n iX4_startsOf_79 rfl ?_
      refine j_iret iX4_startsOf_80 rfl (by first | rfl | exact nar_bI _ | exact nar_bP) (⟨rfl, rfl⟩)
    | succ n ih =>
      intro c r hc
      have hre : ad S (2 ^ c) < 4096 := ad_b hS
      have hg : st (ad S (2 ^ c)) &&& f c < 4096 := and_bR (hf c)
      refine j_iload iX4_startsOf_5 rfl ?_
      refine j_aload_n iX4_startsOf_7 rfl ?_
      refine j_alen iX4_startsOf_8 (by repeat (first | assumption | refine wset_ne (by decide) ?_ | exact wset_lt (by (try simp only [List.length_set]); exact wsome (by assumption)))) (by decide) (by rfl) ?_
      refine j_icmp_geN (tgt := 79) iX4_startsOf_9 (by decide) (by omega) (by omega) (fun hno => by exfalso; omega) (fun _ => ?_)
      refine j_iload_n iX4_startsOf_12 rfl ?_
      refine j_iload iX4_startsOf_13 rfl ?_
      refine j_SN2R okX5_has nk_X4_30 iX4_startsOf_15 (by omega) (c_has S c (by omega) (by omega)) rfl (Nat.le_of_ble_eq_true rfl) (Nat.le_of_ble_eq_true rfl) ?_
      refine j_if_eqB (tgt := 73) iX4_startsOf_18 (by decide) (fun h18 => ?_) (fun h18 => ?_)
      · refine j_iincN iX4_startsOf_73 rfl (by decide) rfl ?_
        dsimp only [List.set]
        refine j_goto (tgt := 5) iX4_startsOf_76 (by decide) ?_
        first | exact J.fg (by simpa only [fold, stStep, if_neg (nt h18)] using ih (c + 1) r (by omega)) (by first | (simp [LF]; done) | (simp [LF, bI]; done)) | exact J.fg (by simpa only [fold, stStep, if_pos h18, if_pos (Or.inl h33 : ad S (2 ^ c) = 0 ∨ st (ad S (2 ^ c)) &&& f c ≠ 0)] using ih (c + 1) (r ||| 2 ^ c) (by omega)) (by first | (simp [LF]; done) | (simp [LF, bI]; done)) | exact J.fg (by simpa only [fold, stStep, if_pos h18, if_pos (Or.inr h63 : ad S (2 ^ c) = 0 ∨ st (ad S (2 ^ c)) &&& f c ≠ 0)] using ih (c + 1) (r ||| 2 ^ c) (by omega)) (by first | (simp [LF]; done) | (simp [LF, bI]; done)) | exact J.fg (by simpa only [fold, stStep, if_pos h18, if_neg (fun z => Or.elim z h33 (fun y => y h63) : ¬ (ad S (2 ^ c) = 0 ∨ st (ad S (2 ^ c)) &&& f c ≠ 0))] using ih (c + 1) r (by omega)) (by first | (simp [LF]; done) | (simp [LF, bI]; done))
      · refine j_iload_n iX4_startsOf_21 rfl ?_
        refine j_iconst (v := nI 1) iX4_startsOf_22 (by decide) ?_
        refine j_iload iX4_startsOf_23 rfl ?_
        refine j_ishlN iX4_startsOf_25 (by omega) ?_
        refine j_iconst (v := (-1)) iX4_startsOf_26 (by decide) ?_
        refine j_ixor iX4_startsOf_27 ?_
        refine j_iandnN iX4_startsOf_28 ?_
        refine j_istore iX4_startsOf_29 (by decide) rfl ?_
        dsimp only [List.set]
        refine j_iload iX4_startsOf_31 rfl ?_
        refine j_if_eqN (tgt := 66) iX4_startsOf_33 (by decide) (by omega) (fun h33 => ?_) (fun h33 => ?_)
        · refine j_iload_n iX4_startsOf_66 rfl ?_
          refine j_iconst (v := nI 1) iX4_startsOf_67 (by decide) ?_
          refine j_iload iX4_startsOf_68 rfl ?_
          refine j_ishlN iX4_startsOf_70 (by omega) ?_
          refine j_iorN iX4_startsOf_71  ?_
          refine j_istore_n iX4_startsOf_72 (by decide) rfl ?_
          dsimp only [List.set]
          refine j_iincN iX4_startsOf_73 rfl (by decide) rfl ?_
          dsimp only [List.set]
          refine j_goto (tgt := 5) iX4_startsOf_76 (by decide) ?_
          first | exact J.fg (by simpa only [fold, stStep, if_neg (nt h18)] using ih (c + 1) r (by omega)) (by first | (simp [LF]; done) | (simp [LF, bI]; done)) | exact J.fg (by simpa only [fold, stStep, if_pos h18, if_pos (Or.inl h33 : ad S (2 ^ c) = 0 ∨ st (ad S (2 ^ c)) &&& f c ≠ 0)] using ih (c + 1) (r ||| 2 ^ c) (by omega)) (by first | (simp [LF]; done) | (simp [LF, bI]; done)) | exact J.fg (by simpa only [fold, stStep, if_pos h18, if_pos (Or.inr h63 : ad S (2 ^ c) = 0 ∨ st (ad S (2 ^ c)) &&& f c ≠ 0)] using ih (c + 1) (r ||| 2 ^ c) (by omega)) (by first | (simp [LF]; done) | (simp [LF, bI]; done)) | exact J.fg (by simpa only [fold, stStep, if_pos h18, if_neg (fun z => Or.elim z h33 (fun y => y h63) : ¬ (ad S (2 ^ c) = 0 ∨ st (ad S (2 ^ c)) &&& f c ≠ 0))] using ih (c + 1) r (by omega)) (by first | (simp [LF]; done) | (simp [LF, bI]; done))
        · refine j_iload iX4_startsOf_36 rfl ?_
          refine j_if_leN (tgt := 73) iX4_startsOf_38 (by decide) (by omega) (fun hno => by exfalso; omega) (fun _ => ?_)
          refine j_iload iX4_startsOf_41 rfl ?_
          refine j_aload_n iX4_startsOf_43 rfl ?_
          refine j_get fk_X4_9 iX4_startsOf_44 (by repeat (first | assumption | refine wset_ne (by decide) ?_ | exact wset_lt (by (try simp only [List.length_set]); exact wsome (by assumption)))) (by rfl) ?_
          refine j_alen iX4_startsOf_47 (by repeat (first | assumption | refine wset_ne (by decide) ?_ | exact wset_lt (by (try simp only [List.length_set]); exact wsome (by assumption)))) (by decide) (by rfl) ?_
          refine j_icmp_geN (tgt := 73) iX4_startsOf_48 (by decide) (by omega) (by omega) (fun hno => by exfalso; omega) (fun _ => ?_)
          refine j_aload_n iX4_startsOf_51 rfl ?_
          refine j_get fk_X4_9 iX4_startsOf_52 (by repeat (first | assumption | refine wset_ne (by decide) ?_ | exact wset_lt (by (try simp only [List.length_set]); exact wsome (by assumption)))) (by rfl) ?_
          refine j_iload iX4_startsOf_55 rfl ?_
          refine j_ialdN iX4_startsOf_57 (by repeat (first | assumption | refine wset_ne (by decide) ?_ | exact wset_lt (by (try simp only [List.length_set]); exact wsome (by assumption)))) (by omega) ?_
          refine j_aload_n iX4_startsOf_58 rfl ?_
          refine j_iload iX4_startsOf_59 rfl ?_
          refine j_ialdN iX4_startsOf_61 (by repeat (first | assumption | refine wset_ne (by decide) ?_ | exact wset_lt (by (try simp only [List.length_set]); exact wsome (by assumption)))) (by omega) ?_
          refine j_iandN iX4_startsOf_62 ?_
          refine j_if_eqN (tgt := 73) iX4_startsOf_63 (by decide) (by omega) (fun h63 => ?_) (fun h63 => ?_)
          · refine j_iincN iX4_startsOf_73 rfl (by decide) rfl ?_
            dsimp only [List.set]
            refine j_goto (tgt := 5) iX4_startsOf_76 (by decide) ?_
            first | exact J.fg (by simpa only [fold, stStep, if_neg (nt h18)] using ih (c + 1) r (by omega)) (by first | (simp [LF]; done) | (simp [LF, bI]; done)) | exact J.fg (by simpa only [fold, stStep, if_pos h18, if_pos (Or.inl h33 : ad S (2 ^ c) = 0 ∨ st (ad S (2 ^ c)) &&& f c ≠ 0)] using ih (c + 1) (r ||| 2 ^ c) (by omega)) (by first | (simp [LF]; done) | (simp [LF, bI]; done)) | exact J.fg (by simpa only [fold, stStep, if_pos h18, if_pos (Or.inr h63 : ad S (2 ^ c) = 0 ∨ st (ad S (2 ^ c)) &&& f c ≠ 0)] using ih (c + 1) (r ||| 2 ^ c) (by omega)) (by first | (simp [LF]; done) | (simp [LF, bI]; done)) | exact J.fg (by simpa only [fold, stStep, if_pos h18, if_neg (fun z => Or.elim z h33 (fun y => y h63) : ¬ (ad S (2 ^ c) = 0 ∨ st (ad S (2 ^ c)) &&& f c ≠ 0))] using ih (c + 1) r (by omega)) (by first | (simp [LF]; done) | (simp [LF, bI]; done))
          · refine j_iload_n iX4_startsOf_66 rfl ?_
            refine j_iconst (v := nI 1) iX4_startsOf_67 (by decide) ?_
            refine j_iload iX4_startsOf_68 rfl ?_
            refine j_ishlN iX4_startsOf_70 (by omega) ?_
            refine j_iorN iX4_startsOf_71  ?_
            refine j_istore_n iX4_startsOf_72 (by decide) rfl ?_
            dsimp only [List.set]
            refine j_iincN iX4_startsOf_73 rfl (by decide) rfl ?_
            dsimp only [List.set]
            refine j_goto (tgt := 5) iX4_startsOf_76 (by decide) ?_
            first | exact J.fg (by simpa only [fold, stStep, if_neg (nt h18)] using ih (c + 1) r (by omega)) (by first | (simp [LF]; done) | (simp [LF, bI]; done)) | exact J.fg (by simpa only [fold, stStep, if_pos h18, if_pos (Or.inl h33 : ad S (2 ^ c) = 0 ∨ st (ad S (2 ^ c)) &&& f c ≠ 0)] using ih (c + 1) (r ||| 2 ^ c) (by omega)) (by first | (simp [LF]; done) | (simp [LF, bI]; done)) | exact J.fg (by simpa only [fold, stStep, if_pos h18, if_pos (Or.inr h63 : ad S (2 ^ c) = 0 ∨ st (ad S (2 ^ c)) &&& f c ≠ 0)] using ih (c + 1) (r ||| 2 ^ c) (by omega)) (by first | (simp [LF]; done) | (simp [LF, bI]; done)) | exact J.fg (by simpa only [fold, stStep, if_pos h18, if_neg (fun z => Or.elim z h33 (fun y => y h63) : ¬ (ad S (2 ^ c) = 0 ∨ st (ad S (2 ^ c)) &&& f c ≠ 0))] using ih (c + 1) r (by omega)) (by first | (simp [LF]; done) | (simp [LF, bI]; done))
  refine j_start (ls := [.ref 6, .ref a, .int (nI S), .null, .null, .null]) rfl ?_
  refine j_iconst (v := nI 0) iX4_startsOf_0 (by decide) ?_
  refine j_istore_n iX4_startsOf_1 (by decide) rfl ?_
  dsimp only [List.set]
  refine j_iconst (v := nI 0) iX4_startsOf_2 (by decide) ?_
  refine j_istore iX4_startsOf_3 (by decide) rfl ?_
  dsimp only [List.set]
  exact L 12 0 0 rfl
theorem c_findFirsts {st0 fi0 : Nat → Nat} (h6 : w[6]? = some oT) (ha : w[a]? = some (nA 12 f)) (haa : a < 27) (hf : ∀ i, f i < 4096) (h27 : w[27]? = some (nA 4096 st0)) (h28 : w[28]? = some (nA 13 fi0)) (s room : Nat) (hs : s < 12) (hr : room < 4096) : JV 2 mX4_findFirsts [.ref 6, .ref a, .int (nI s), .int (nI room)] w (ffW w (ffF f s room st0)) := by
  have hpr : partF f room (2 ^ s) < 4096 := partFrom_b hf room 12 _ (pw_b hs)
  have hM : partF f room (2 ^ s) &&& room < 4096 := and_bR hr
  have L2 : ∀ (n i S : Nat) (st fi : Nat → Nat), i + n = 4096 → S &&& (partF f room (2 ^ s) &&& room) = S → ffLoop f (f s) (partF f room (2 ^ s) &&& room) n S st fi = ffF f s room st0 → (∀ k, fi k < 4096) → J 2 mX4_findFirsts 61 [.ref 6, .ref a, .int (nI s), .int (nI room), .int (nI (f s)), .int (nI (partF f room (2 ^ s) &&& room)), .int (nI S), .int (nI i), .null] [] ((w.set 27 (nA 4096 st)).set 28 (nA 13 fi)) (fun v u => v = none ∧ u = ffW w (ffF f s room st0)) := by
    intro n
    induction n with
    | zero =>
      intro i S st fi hi hS he hfi
      refine j_iload iX4_findFirsts_61 rfl ?_
      refine j_aload_n iX4_findFirsts_63 rfl ?_
      refine j_get fk_X4_9 iX4_findFirsts_64 (by repeat (first | assumption | refine wset_ne (by decide) ?_ | exact wset_lt (by (try simp only [List.length_set]); exact wsome (by assumption)))) (by rfl) ?_
      refine j_alen iX4_findFirsts_67 (by repeat (first | assumption | refine wset_ne (by decide) ?_ | exact wset_lt (by (try simp only [List.length_set]); exact wsome (by assumption)))) (by decide) (by rfl) ?_
      refine j_icmp_geN (tgt := 147) iX4_findFirsts_68 (by decide) (by omega) (by omega) (fun _ => ?_) (fun hno => by exfalso; omega)
      refine j_vret iX4_findFirsts_147 rfl (⟨rfl, by rw [← he]; rfl⟩)
    | succ n ih =>
      intro i S st fi hi hS he hfi
      have hA : ((w.set 27 (nA 4096 st)).set 28 (nA 13 fi))[a]? = some (nA 12 f) := wset_ne (by omega) (wset_ne (by omega) ha)
      have hN := nextS_b (S := S) hM
      have hst := stOf_b f st (nextS S (partF f room (2 ^ s) &&& room))
      have hg : stOf f st (nextS S (partF f room (2 ^ s) &&& room)) &&& f s < 4096 := and_bL hst
      have hp := pop_le (nextS S (partF f room (2 ^ s) &&& room))
      rw [ffLoop_s] at he
      by_cases h0 : nextS S (partF f room (2 ^ s) &&& room) = 0
      · rw [if_pos h0] at he
        refine j_iload iX4_findFirsts_61 rfl ?_
        refine j_aload_n iX4_findFirsts_63 rfl ?_
        refine j_get fk_X4_9 iX4_findFirsts_64 (by repeat (first | assumption | refine wset_ne (by decide) ?_ | exact wset_lt (by (try simp only [List.length_set]); exact wsome (by assumption)))) (by rfl) ?_
        refine j_alen iX4_findFirsts_67 (by repeat (first | assumption | refine wset_ne (by decide) ?_ | exact wset_lt (by (try simp only [List.length_set]); exact wsome (by assumption)))) (by decide) (by rfl) ?_
        refine j_icmp_geN (tgt := 147) iX4_findFirsts_68 (by decide) (by omega) (by omega) (fun hno => by exfalso; omega) (fun _ => ?_)
        refine j_iload iX4_findFirsts_71 rfl ?_
        refine j_iload iX4_findFirsts_73 rfl ?_
        refine j_isub iX4_findFirsts_75 ?_
        refine j_iload iX4_findFirsts_76 rfl ?_
        refine j_iand iX4_findFirsts_78 ?_
        refine j_top (y := nI (nextS S (partF f room (2 ^ s) &&& room))) (by exact nI_nextS hS hM) ?_
        refine j_istore iX4_findFirsts_79 (by decide) rfl ?_
        dsimp only [List.set]
        refine j_iload iX4_findFirsts_81 rfl ?_
        refine j_if_leN (tgt := 96) iX4_findFirsts_83 (by decide) (by omega) (fun _ => ?_) (fun hno => by exfalso; omega)
        refine j_vret iX4_findFirsts_96 rfl (⟨rfl, by rw [← he]; rfl⟩)
      · rw [if_neg h0] at he
        refine j_iload iX4_findFirsts_61 rfl ?_
        refine j_aload_n iX4_findFirsts_63 rfl ?_
        refine j_get fk_X4_9 iX4_findFirsts_64 (by repeat (first | assumption | refine wset_ne (by decide) ?_ | exact wset_lt (by (try simp only [List.length_set]); exact wsome (by assumption)))) (by rfl) ?_
        refine j_alen iX4_findFirsts_67 (by repeat (first | assumption | refine wset_ne (by decide) ?_ | exact wset_lt (by (try simp only [List.length_set]); exact wsome (by assumption)))) (by decide) (by rfl) ?_
        refine j_icmp_geN (tgt := 147) iX4_findFirsts_68 (by decide) (by omega) (by omega) (fun hno => by exfalso; omega) (fun _ => ?_)
        refine j_iload iX4_findFirsts_71 rfl ?_
        refine j_iload iX4_findFirsts_73 rfl ?_
        refine j_isub iX4_findFirsts_75 ?_
        refine j_iload iX4_findFirsts_76 rfl ?_
        refine j_iand iX4_findFirsts_78 ?_
        refine j_top (y := nI (nextS S (partF f room (2 ^ s) &&& room))) (by exact nI_nextS hS hM) ?_
        refine j_istore iX4_findFirsts_79 (by decide) rfl ?_
        dsimp only [List.set]
        refine j_iload iX4_findFirsts_81 rfl ?_
        refine j_if_leN (tgt := 96) iX4_findFirsts_83 (by decide) (by omega) (fun hno => by exfalso; omega) (fun _ => ?_)
        refine j_iload iX4_findFirsts_86 rfl ?_
        refine j_aload_n iX4_findFirsts_88 rfl ?_
        refine j_get fk_X4_9 iX4_findFirsts_89 (by repeat (first | assumption | refine wset_ne (by decide) ?_ | exact wset_lt (by (try simp only [List.length_set]); exact wsome (by assumption)))) (by rfl) ?_
        refine j_alen iX4_findFirsts_92 (by repeat (first | assumption | refine wset_ne (by decide) ?_ | exact wset_lt (by (try simp only [List.length_set]); exact wsome (by assumption)))) (by decide) (by rfl) ?_
        refine j_icmp_ltN (tgt := 97) iX4_findFirsts_93 (by decide) (by omega) (by omega) (fun _ => ?_) (fun hno => by exfalso; omega)
        refine j_aload_n iX4_findFirsts_97 rfl ?_
        refine j_aload_n iX4_findFirsts_98 rfl ?_
        refine j_iload iX4_findFirsts_99 rfl ?_
        refine j_V2R okX4_startsOf lk_X4_56 iX4_findFirsts_101 (by omega) (by repeat (first | assumption | refine wset_ne (by decide) ?_ | exact wset_lt (by (try simp only [List.length_set]); exact wsome (by assumption)))) rfl (c_startsOf (by repeat (first | assumption | refine wset_ne (by decide) ?_ | exact wset_lt (by (try simp only [List.length_set]); exact wsome (by assumption)))) hA hf (by repeat (first | assumption | refine wset_ne (by decide) ?_ | exact wset_lt (by (try simp only [List.length_set]); exact wsome (by assumption)))) _ hN) rfl (Nat.le_of_ble_eq_true rfl) (Nat.le_of_ble_eq_true rfl) ?_
        refine j_istore iX4_findFirsts_104 (by decide) rfl ?_
        dsimp only [List.set]
        refine j_aload_n iX4_findFirsts_106 rfl ?_
        refine j_get fk_X4_9 iX4_findFirsts_107 (by repeat (first | assumption | refine wset_ne (by decide) ?_ | exact wset_lt (by (try simp only [List.length_set]); exact wsome (by assumption)))) (by rfl) ?_
        refine j_iload iX4_findFirsts_110 rfl ?_
        refine j_iload iX4_findFirsts_112 rfl ?_
        refine j_iastN iX4_findFirsts_114 (by repeat (first | assumption | refine wset_ne (by decide) ?_ | exact wset_lt (by (try simp only [List.length_set]); exact wsome (by assumption)))) (by omega) ?_
        refine j_iload iX4_findFirsts_115 rfl ?_
        refine j_iload iX4_findFirsts_117 rfl ?_
        refine j_iandN iX4_findFirsts_119 ?_
        refine j_if_eqN (tgt := 141) iX4_findFirsts_120 (by decide) (by omega) (fun h120 => ?_) (fun h120 => ?_)
        · refine j_iincN iX4_findFirsts_141 rfl (by decide) rfl ?_
          dsimp only [List.set]
          refine j_goto (tgt := 61) iX4_findFirsts_144 (by decide) ?_
          rw [show ((((w.set 27 (nA 4096 st)).set 28 (nA 13 fi)).set 27 (nA 4096 (un st (nextS S (partF f room (2 ^ s) &&& room)) (stOf f st (nextS S (partF f room (2 ^ s) &&& room))))))) = (w.set 27 (nA 4096 (un st (nextS S (partF f room (2 ^ s) &&& room)) (stOf f st (nextS S (partF f room (2 ^ s) &&& room)))))).set 28 (nA 13 fi) by rw [List.set_comm _ _ (show (28 : Nat) ≠ 27 by decide), wset2]]; first | exact J.fg (ih (i + 1) _ _ fi (by omega) (nextS_sub S _) (by rw [← he]; unfold ffNew; rw [if_neg (by omega)]) hfi) (by first | (simp [LF]; done) | (simp [LF, bI]; done)) | exact (by have e := ih (i + 1) _ _ _ (by omega) (nextS_sub S _) he (ffNew_b hst hfi); unfold ffNew at e; rw [if_pos h120] at e; rw [wset2]; exact J.fg e (by first | (simp [LF]; done) | (simp [LF, bI]; done)))
        · refine j_aload_n iX4_findFirsts_123 rfl ?_
          refine j_get fk_X4_15 iX4_findFirsts_124 (by repeat (first | assumption | refine wset_ne (by decide) ?_ | exact wset_lt (by (try simp only [List.length_set]); exact wsome (by assumption)))) (by rfl) ?_
          refine j_iload iX4_findFirsts_127 rfl ?_
          refine j_S1R okJ6_bitCount lk_X4_59 iX4_findFirsts_129 (by omega) (c_bitCount _ hN) rfl (Nat.le_of_ble_eq_true rfl) (Nat.le_of_ble_eq_true rfl) ?_
          refine j_dup2 iX4_findFirsts_132 rfl rfl ?_
          refine j_ialdN iX4_findFirsts_133 (by repeat (first | assumption | refine wset_ne (by decide) ?_ | exact wset_lt (by (try simp only [List.length_set]); exact wsome (by assumption)))) (by omega) ?_
          refine j_iload iX4_findFirsts_134 rfl ?_
          refine j_iload iX4_findFirsts_136 rfl ?_
          refine j_iandN iX4_findFirsts_138 ?_
          refine j_iorN iX4_findFirsts_139  ?_
          refine j_iastN iX4_findFirsts_140 (by repeat (first | assumption | refine wset_ne (by decide) ?_ | exact wset_lt (by (try simp only [List.length_set]); exact wsome (by assumption)))) (by omega) ?_
          refine j_iincN iX4_findFirsts_141 rfl (by decide) rfl ?_
          dsimp only [List.set]
          refine j_goto (tgt := 61) iX4_findFirsts_144 (by decide) ?_
          rw [show ((((w.set 27 (nA 4096 st)).set 28 (nA 13 fi)).set 27 (nA 4096 (un st (nextS S (partF f room (2 ^ s) &&& room)) (stOf f st (nextS S (partF f room (2 ^ s) &&& room))))))) = (w.set 27 (nA 4096 (un st (nextS S (partF f room (2 ^ s) &&& room)) (stOf f st (nextS S (partF f room (2 ^ s) &&& room)))))).set 28 (nA 13 fi) by rw [List.set_comm _ _ (show (28 : Nat) ≠ 27 by decide), wset2]]; first | exact J.fg (ih (i + 1) _ _ fi (by omega) (nextS_sub S _) (by rw [← he]; unfold ffNew; rw [if_neg (by omega)]) hfi) (by first | (simp [LF]; done) | (simp [LF, bI]; done)) | exact (by have e := ih (i + 1) _ _ _ (by omega) (nextS_sub S _) he (ffNew_b hst hfi); unfold ffNew at e; rw [if_pos h120] at e; rw [wset2]; exact J.fg e (by first | (simp [LF]; done) | (simp [LF, bI]; done)))
  have hLz : ∀ k, (fun _ : Nat => 0) k < 4096 := fun _ => (by decide : 0 < 4096)
  have L1 : ∀ (n i : Nat) (g : Nat → Nat), i + n = 13 → (∀ j, j < i → g j = 0) → J 2 mX4_findFirsts 34 [.ref 6, .ref a, .int (nI s), .int (nI room), .int (nI (f s)), .int (nI (partF f room (2 ^ s) &&& room)), .int (nI i), .null, .null] [] (w.set 28 (nA 13 g)) (fun v u => v = none ∧ u = ffW w (ffF f s room st0)) := by
    intro n
    induction n with
    | zero =>
      intro i g hi hg
      have e28 : (w.set 28 (nA 13 g))[28]? = some (nA 13 g) := (by repeat (first | assumption | refine wset_ne (by decide) ?_ | exact wset_lt (by (try simp only [List.length_set]); exact wsome (by assumption))))
      refine j_arrN (g := fun _ => 0) (fun j hj => hg j (by omega)) e28 ?_
      rw [wset2]
      refine j_iload iX4_findFirsts_34 rfl ?_
      refine j_bipush (v := nI 12) iX4_findFirsts_36 (by decide) ?_
      refine j_icmp_gtN (tgt := 55) iX4_findFirsts_38 (by decide) (by omega) (by omega) (fun _ => ?_) (fun hno => by exfalso; omega)
      refine j_iconst (v := nI 0) iX4_findFirsts_55 (by decide) ?_
      refine j_istore iX4_findFirsts_56 (by decide) rfl ?_
      dsimp only [List.set]
      refine j_iconst (v := nI 0) iX4_findFirsts_58 (by decide) ?_
      refine j_istore iX4_findFirsts_59 (by decide) rfl ?_
      dsimp only [List.set]
      exact (by have := L2 4096 0 0 st0 (fun _ => 0) rfl (Nat.zero_and _) rfl hLz; rw [wset_eq h27] at this; exact this)
    | succ n ih =>
      intro i g hi hg
      refine j_iload iX4_findFirsts_34 rfl ?_
      refine j_bipush (v := nI 12) iX4_findFirsts_36 (by decide) ?_
      refine j_icmp_gtN (tgt := 55) iX4_findFirsts_38 (by decide) (by omega) (by omega) (fun hno => by exfalso; omega) (fun _ => ?_)
      refine j_aload_n iX4_findFirsts_41 rfl ?_
      refine j_get fk_X4_15 iX4_findFirsts_42 (by repeat (first | assumption | refine wset_ne (by decide) ?_ | exact wset_lt (by (try simp only [List.length_set]); exact wsome (by assumption)))) (by rfl) ?_
      refine j_iload iX4_findFirsts_45 rfl ?_
      refine j_iconst (v := nI 0) iX4_findFirsts_47 (by decide) ?_
      refine j_iastN iX4_findFirsts_48 (by repeat (first | assumption | refine wset_ne (by decide) ?_ | exact wset_lt (by (try simp only [List.length_set]); exact wsome (by assumption)))) (by omega) ?_
      refine j_iincN iX4_findFirsts_49 rfl (by decide) rfl ?_
      dsimp only [List.set]
      refine j_goto (tgt := 34) iX4_findFirsts_52 (by decide) ?_
      rw [wset2]; exact ih (i + 1) _ (by omega) (un_upto hg rfl)
  refine j_start (ls := [.ref 6, .ref a, .int (nI s), .int (nI room), .null, .null, .null, .null, .null]) rfl ?_
  refine j_iload_n iX4_findFirsts_0 rfl ?_
  refine j_if_ltN (tgt := 16) iX4_findFirsts_1 (by decide) (by omega) (fun hno => by exfalso; omega) (fun _ => ?_)
  refine j_iload_n iX4_findFirsts_4 rfl ?_
  refine j_aload_n iX4_findFirsts_5 rfl ?_
  refine j_alen iX4_findFirsts_6 (by repeat (first | assumption | refine wset_ne (by decide) ?_ | exact wset_lt (by (try simp only [List.length_set]); exact wsome (by assumption)))) (by decide) (by rfl) ?_
  refine j_icmp_geN (tgt := 16) iX4_findFirsts_7 (by decide) (by omega) (by omega) (fun hno => by exfalso; omega) (fun _ => ?_)
  refine j_aload_n iX4_findFirsts_10 rfl ?_
  refine j_iload_n iX4_findFirsts_11 rfl ?_
  refine j_ialdN iX4_findFirsts_12 (by repeat (first | assumption | refine wset_ne (by decide) ?_ | exact wset_lt (by (try simp only [List.length_set]); exact wsome (by assumption)))) (by omega) ?_
  refine j_goto (tgt := 17) iX4_findFirsts_13 (by decide) ?_
  refine j_istore iX4_findFirsts_17 (by decide) rfl ?_
  dsimp only [List.set]
  refine j_aload_n iX4_findFirsts_19 rfl ?_
  refine j_iload_n iX4_findFirsts_20 rfl ?_
  refine j_iconst (v := nI 1) iX4_findFirsts_21 (by decide) ?_
  refine j_iload_n iX4_findFirsts_22 rfl ?_
  refine j_ishlN iX4_findFirsts_23 (by omega) ?_
  refine j_S3R okX1_partAround lk_X4_52 iX4_findFirsts_24 (by omega) (c_partAround ha hf room _ (pw_b hs)) rfl (Nat.le_of_ble_eq_true rfl) (Nat.le_of_ble_eq_true rfl) ?_
  refine j_iload_n iX4_findFirsts_27 rfl ?_
  refine j_iandN iX4_findFirsts_28 ?_
  refine j_istore iX4_findFirsts_29 (by decide) rfl ?_
  dsimp only [List.set]
  refine j_iconst (v := nI 0) iX4_findFirsts_31 (by decide) ?_
  refine j_istore iX4_findFirsts_32 (by decide) rfl ?_
  dsimp only [List.set]
  exact (by have := L1 13 0 fi0 rfl (fun j hj => absurd hj (Nat.not_lt_zero _)); rw [wset_eq h28] at this; exact this)
theorem c_mostBehind {fi : Nat → Nat} (h6 : w[6]? = some oT) (h28 : w[28]? = some (nA 13 fi)) (hfi : ∀ k, fi k < 4096) : JR 0 mX4_mostBehind [.ref 6] w (.int (nI (mbF fi 12))) w := by
  have L : ∀ (k : Nat), k ≤ 12 → J 0 mX4_mostBehind 3 [.ref 6, .int (nI k)] [] w (fun v u => v = some (.int (nI (mbF fi k))) ∧ u = w) := by
    intro k
    induction k with
    | zero =>
      intro hk
      refine j_iload_n iX4_mostBehind_3 rfl ?_
      refine j_if_leN (tgt := 24) iX4_mostBehind_4 (by decide) (by omega) (fun _ => ?_) (fun hno => by exfalso; omega)
      refine j_iconst (v := nI 0) iX4_mostBehind_24 (by decide) ?_
      refine j_iret iX4_mostBehind_25 rfl (by first | rfl | exact nar_bI _ | exact nar_bP) (⟨rfl, rfl⟩)
    | succ k ih =>
      intro hk
      have hf1 := hfi (k + 1)
      refine j_iload_n iX4_mostBehind_3 rfl ?_
      refine j_if_leN (tgt := 24) iX4_mostBehind_4 (by decide) (by omega) (fun hno => by exfalso; omega) (fun _ => ?_)
      refine j_aload_n iX4_mostBehind_7 rfl ?_
      refine j_get fk_X4_15 iX4_mostBehind_8 (by repeat (first | assumption | refine wset_ne (by decide) ?_ | exact wset_lt (by (try simp only [List.length_set]); exact wsome (by assumption)))) (by rfl) ?_
      refine j_iload_n iX4_mostBehind_11 rfl ?_
      refine j_ialdN iX4_mostBehind_12 (by repeat (first | assumption | refine wset_ne (by decide) ?_ | exact wset_lt (by (try simp only [List.length_set]); exact wsome (by assumption)))) (by omega) ?_
      refine j_if_eqN (tgt := 18) iX4_mostBehind_13 (by decide) (by omega) (fun h13 => ?_) (fun h13 => ?_)
      · refine j_iincM iX4_mostBehind_18 rfl (by decide) rfl ?_
        dsimp only [List.set]
        refine j_goto (tgt := 3) iX4_mostBehind_21 (by decide) ?_
        exact (by unfold mbF; rw [if_neg (fun z => z h13)]; exact ih (by omega))
      · refine j_iload_n iX4_mostBehind_16 rfl ?_
        refine j_iret iX4_mostBehind_17 rfl (by first | rfl | exact nar_bI _ | exact nar_bP) (⟨by unfold mbF; rw [if_pos h13], rfl⟩)
  refine j_start (ls := [.ref 6, .null]) rfl ?_
  refine j_bipush (v := nI 12) iX4_mostBehind_0 (by decide) ?_
  refine j_istore_n iX4_mostBehind_2 (by decide) rfl ?_
  dsimp only [List.set]
  exact L 12 (by omega)
theorem c_longest {st0 fi0 : Nat → Nat} (h6 : w[6]? = some oT) (ha : w[a]? = some (nA 12 f)) (haa : a < 27) (hf : ∀ i, f i < 4096) (h27 : w[27]? = some (nA 4096 st0)) (h28 : w[28]? = some (nA 13 fi0)) (s room : Nat) (hs : s < 12) (hr : room < 4096) : JR 3 mX4_longest [.ref 6, .ref a, .int (nI s), .int (nI room)] w (.int (nI (1 + mbF (ffF f s room st0).2 12))) (ffW w (ffF f s room st0)) := by
  have h6' : (ffW w (ffF f s room st0))[6]? = some oT := by unfold ffW; exact (by repeat (first | assumption | refine wset_ne (by decide) ?_ | exact wset_lt (by (try simp only [List.length_set]); exact wsome (by assumption))))
  have h28' : (ffW w (ffF f s room st0))[28]? = some (nA 13 (ffF f s room st0).2) := by unfold ffW; exact (by repeat (first | assumption | refine wset_ne (by decide) ?_ | exact wset_lt (by (try simp only [List.length_set]); exact wsome (by assumption))))
  refine j_start (ls := [.ref 6, .ref a, .int (nI s), .int (nI room)]) rfl ?_
  refine j_aload_n iX4_longest_0 rfl ?_
  refine j_aload_n iX4_longest_1 rfl ?_
  refine j_iload_n iX4_longest_2 rfl ?_
  refine j_iload_n iX4_longest_3 rfl ?_
  refine j_V3U (r := .null) okX4_findFirsts lk_X4_40 iX4_longest_4 (by omega) (by repeat (first | assumption | refine wset_ne (by decide) ?_ | exact wset_lt (by (try simp only [List.length_set]); exact wsome (by assumption)))) rfl (c_findFirsts h6 ha haa hf h27 h28 s room hs hr) rfl (Nat.le_of_ble_eq_true rfl) (Nat.le_of_ble_eq_true rfl) ?_
  refine j_iconst (v := nI 1) iX4_longest_7 (by decide) ?_
  refine j_aload_n iX4_longest_8 rfl ?_
  refine j_V0R okX4_mostBehind lk_X4_44 iX4_longest_9 (by omega) (by repeat (first | assumption | refine wset_ne (by decide) ?_ | exact wset_lt (by (try simp only [List.length_set]); exact wsome (by assumption)))) rfl (c_mostBehind h6' h28' (fun k => ffF_b k)) rfl (Nat.le_of_ble_eq_true rfl) (Nat.le_of_ble_eq_true rfl) ?_
  refine j_iaddN iX4_longest_12  ?_
  refine j_iret iX4_longest_13 rfl (by first | rfl | exact nar_bI _ | exact nar_bP) (⟨rfl, rfl⟩)
theorem c_firstOfLongest {st0 fi0 : Nat → Nat} (h6 : w[6]? = some oT) (ha : w[a]? = some (nA 12 f)) (haa : a < 27) (hf : ∀ i, f i < 4096) (h27 : w[27]? = some (nA 4096 st0)) (h28 : w[28]? = some (nA 13 fi0)) (s room : Nat) (hs : s < 12) (hr : room < 4096) : JR 3 mX4_firstOfLongest [.ref 6, .ref a, .int (nI s), .int (nI room)] w (.int (oN (nth ((ffF f s room st0).2 (mbF (ffF f s room st0).2 12)) 0))) (ffW w (ffF f s room st0)) := by
  have h6' : (ffW w (ffF f s room st0))[6]? = some oT := by unfold ffW; exact (by repeat (first | assumption | refine wset_ne (by decide) ?_ | exact wset_lt (by (try simp only [List.length_set]); exact wsome (by assumption))))
  have h28' : (ffW w (ffF f s room st0))[28]? = some (nA 13 (ffF f s room st0).2) := by unfold ffW; exact (by repeat (first | assumption | refine wset_ne (by decide) ?_ | exact wset_lt (by (try simp only [List.length_set]); exact wsome (by assumption))))
  have hm := mbF_le (ffF f s room st0).2 12
  have hb : (ffF f s room st0).2 (mbF (ffF f s room st0).2 12) < 4096 := ffF_b _
  refine j_start (ls := [.ref 6, .ref a, .int (nI s), .int (nI room)]) rfl ?_
  refine j_aload_n iX4_firstOfLongest_0 rfl ?_
  refine j_aload_n iX4_firstOfLongest_1 rfl ?_
  refine j_iload_n iX4_firstOfLongest_2 rfl ?_
  refine j_iload_n iX4_firstOfLongest_3 rfl ?_
  refine j_V3U (r := .null) okX4_findFirsts lk_X4_40 iX4_firstOfLongest_4 (by omega) (by repeat (first | assumption | refine wset_ne (by decide) ?_ | exact wset_lt (by (try simp only [List.length_set]); exact wsome (by assumption)))) rfl (c_findFirsts h6 ha haa hf h27 h28 s room hs hr) rfl (Nat.le_of_ble_eq_true rfl) (Nat.le_of_ble_eq_true rfl) ?_
  refine j_aload_n iX4_firstOfLongest_7 rfl ?_
  refine j_get fk_X4_15 iX4_firstOfLongest_8 (by repeat (first | assumption | refine wset_ne (by decide) ?_ | exact wset_lt (by (try simp only [List.length_set]); exact wsome (by assumption)))) (by rfl) ?_
  refine j_aload_n iX4_firstOfLongest_11 rfl ?_
  refine j_V0R okX4_mostBehind lk_X4_44 iX4_firstOfLongest_12 (by omega) (by repeat (first | assumption | refine wset_ne (by decide) ?_ | exact wset_lt (by (try simp only [List.length_set]); exact wsome (by assumption)))) rfl (c_mostBehind h6' h28' (fun k => ffF_b k)) rfl (Nat.le_of_ble_eq_true rfl) (Nat.le_of_ble_eq_true rfl) ?_
  refine j_ialdN iX4_firstOfLongest_15 (by repeat (first | assumption | refine wset_ne (by decide) ?_ | exact wset_lt (by (try simp only [List.length_set]); exact wsome (by assumption)))) (by omega) ?_
  refine j_SN1R okX5_lowestOf nk_X4_48 iX4_firstOfLongest_16 (by omega) (c_lowestOf _ (by omega)) rfl (Nat.le_of_ble_eq_true rfl) (Nat.le_of_ble_eq_true rfl) ?_
  refine j_iret iX4_firstOfLongest_19 rfl (by first | rfl | exact nar_bI _ | exact nar_bP) (⟨rfl, rfl⟩)
end
