/-! ===== the class: trips ===== -/
def LF : List Value → List Value → Prop
  | [], _ => True
  | _ :: _, [] => False
  | v :: vs, u :: us => (v = .null ∨ v = u) ∧ LF vs us
theorem LF.get : ∀ {vs us : List Value}, LF vs us → ∀ (i : Nat) (v : Value), vs[i]? = some v → v ≠ .null → us[i]? = some v := by
  intro vs
  induction vs with
  | nil => intro us _ i v h; simp at h
  | cons a vs ih =>
    intro us h i v h1 h2
    cases us with
    | nil => exact absurd h (by simp [LF])
    | cons u us =>
      obtain ⟨h3, h4⟩ := h
      cases i with
      | zero =>
        simp only [List.getElem?_cons_zero, Option.some.injEq] at h1 ⊢
        subst h1
        rcases h3 with h3 | h3
        · exact absurd h3 h2
        · exact h3.symm
      | succ i =>
        simp only [List.getElem?_cons_succ] at h1 ⊢
        exact ih h4 i v h1 h2
theorem J.fg {d : Nat} {mi : MI} {pc : Nat} {ls ls' st : List Value} {w : mW} {Q : Option Value → mW → Prop} (h : J d mi pc ls' st w Q) (hl : LF ls' ls) : J d mi pc ls st w Q := J.forget h (LF.get hl)
theorem j_iincM {d : Nat} {mi : MI} {pc pc' : Nat} {ls st : List Value} {w : mW} {Q : Option Value → mW → Prop} {i : Nat} {x : Nat} (h : decode mi.2.1 pc = .ok (.iinc i (-1), 3) ∧ pc + 3 = pc') (hv : ls[i]? = some (.int (nI (x + 1)))) (hn : i < mi.2.2.1) (ho : okAt ls i = true) (k : J d mi pc' (ls.set i (.int (nI x))) st w Q) : J d mi pc ls st w Q := j_iinc (v := -1) h hv (by decide) hn ho (by rw [pk_m1]; exact k)
abbrev oT : mE := .inr (4, [.ref 27, .ref 28, .ref 29, .ref 30, .ref 31, .ref 32])
def fwFrom (f : Nat → Nat) (t room : Nat) : Nat → Nat → Nat → Option Nat
  | 0, _, _ => none
  | n + 1, i, r => if r.testBit t = true then some i else fwFrom f t room n (i + 1) (r ||| (spread f r &&& room))
def fwF (f : Nat → Nat) (s t room : Nat) : Option Nat := fwFrom f t room 12 0 (2 ^ s)
theorem c_fewest {w : mW} {a : Nat} {f : Nat → Nat} (ha : w[a]? = some (nA 12 f)) (hf : ∀ i, f i < 4096) (s t room : Nat) (hs : s < 12) (ht : t < 12) : JR 1 mX4_fewest [.ref a, .int (nI s), .int (nI t), .int (nI room)] w (.int (oN (fwF f s t room))) w := by
  have L : ∀ (n i r : Nat), i + n = 12 → r < 4096 → J 1 mX4_fewest 8 [.ref a, .int (nI s), .int (nI t), .int (nI room), .int (nI r), .int (nI i)] [] w (fun v u => v = some (.int (oN (fwFrom f t room n i r))) ∧ u = w) := by
    intro n
    induction n with
    | zero =>
      intro i r hi hr
      refine j_iload iX4_fewest_8 rfl ?_
      refine j_bipush (v := nI 12) iX4_fewest_10 (by decide) ?_
      refine j_icmp_geN (tgt := 46) iX4_fewest_12 (by decide) (by omega) (by omega) (fun _ => ?_) (fun hno => by exfalso; omega)
      refine j_iconst (v := (-1)) iX4_fewest_46 (by decide) ?_
      refine j_iret iX4_fewest_47 rfl (by first | rfl | exact nar_bI _ | exact nar_bP) (⟨rfl, rfl⟩)
    | succ n ih =>
      intro i r hi hr
      refine j_iload iX4_fewest_8 rfl ?_
      refine j_bipush (v := nI 12) iX4_fewest_10 (by decide) ?_
      refine j_icmp_geN (tgt := 46) iX4_fewest_12 (by decide) (by omega) (by omega) (fun hno => by exfalso; omega) (fun _ => ?_)
      refine j_iload iX4_fewest_15 rfl ?_
      refine j_iload_n iX4_fewest_17 rfl ?_
      refine j_SN2R okX5_has nk_X4_30 iX4_fewest_18 (by omega) (c_has r t (by omega) (by omega)) rfl (Nat.le_of_ble_eq_true rfl) (Nat.le_of_ble_eq_true rfl) ?_
      refine j_if_eqB (tgt := 27) iX4_fewest_21 (by decide) (fun h21 => ?_) (fun h21 => ?_)
      · refine j_iload iX4_fewest_27 rfl ?_
        refine j_aload_n iX4_fewest_29 rfl ?_
        refine j_iload iX4_fewest_30 rfl ?_
        refine j_S2R okX1_spread lk_X4_34 iX4_fewest_32 (by omega) (c_spread ha r (by omega)) rfl (Nat.le_of_ble_eq_true rfl) (Nat.le_of_ble_eq_true rfl) ?_
        refine j_iload_n iX4_fewest_35 rfl ?_
        refine j_iandN iX4_fewest_36 ?_
        refine j_iorN iX4_fewest_37  ?_
        refine j_istore iX4_fewest_38 (by decide) rfl ?_
        dsimp only [List.set]
        refine j_iincN iX4_fewest_40 rfl (by decide) rfl ?_
        dsimp only [List.set]
        refine j_goto (tgt := 8) iX4_fewest_43 (by decide) ?_
        exact (by simpa only [fwFrom, if_neg (nt h21)] using ih (i + 1) _ (by omega) (or_b hr (and_bL (spread_b hf r))))
      · refine j_iload iX4_fewest_24 rfl ?_
        refine j_iret iX4_fewest_26 rfl (by first | rfl | exact nar_bI _ | exact nar_bP) (⟨by rw [fwFrom, if_pos h21]; rfl, rfl⟩)
  refine j_start (ls := [.ref a, .int (nI s), .int (nI t), .int (nI room), .null, .null]) rfl ?_
  refine j_iconst (v := nI 1) iX4_fewest_0 (by decide) ?_
  refine j_iload_n iX4_fewest_1 rfl ?_
  refine j_ishlN iX4_fewest_2 (by omega) ?_
  refine j_istore iX4_fewest_3 (by decide) rfl ?_
  dsimp only [List.set]
  refine j_iconst (v := nI 0) iX4_fewest_5 (by decide) ?_
  refine j_istore iX4_fewest_6 (by decide) rfl ?_
  dsimp only [List.set]
  exact L 12 0 (2 ^ s) rfl (pw_b hs)
/-! chances -/
def sumSet (ch : Nat → Nat) (S : Nat) : Nat := fold (fun c s => if S.testBit c = true then s + ch c else s) 12 0 0
theorem sum_le {ch : Nat → Nat} {S : Nat} (hch : ∀ c, ch c ≤ 1000000) : ∀ (n i s : Nat), fold (fun c s => if S.testBit c = true then s + ch c else s) n i s ≤ s + 1000000 * n := by
  intro n
  induction n with
  | zero => intro i s; exact Nat.le_refl _
  | succ n ih =>
    intro i s
    refine Nat.le_trans (ih (i + 1) _) ?_
    have := hch i
    simp only
    split <;> omega
def leapStep (f : Nat → Nat) (room : Nat) (ch : Nat → Nat) : Nat → Nat := fun c => if 0 < pop (f c &&& room) then sumSet ch (f c &&& room) / pop (f c &&& room) else ch c
def likF (f : Nat → Nat) (t room : Nat) : Nat → Nat → Nat
  | 0 => fun c => if c = t then 1000000 else 0
  | n + 1 => leapStep f room (likF f t room n)
/-- sum over a set, over its size: below the most -/
theorem avg_le {ch : Nat → Nat} {S : Nat} (hch : ∀ c, ch c ≤ 1000000) (h0 : 0 < pop S) : sumSet ch S / pop S ≤ 1000000 := by
  refine Nat.div_le_of_le_mul ?_
  have : ∀ (n i s m : Nat), s ≤ 1000000 * m → fold (fun c s => if S.testBit c = true then s + ch c else s) n i s ≤ 1000000 * sizeFrom S n i m := by
    intro n
    induction n with
    | zero => intro i s m h; exact h
    | succ n ih =>
      intro i s m h
      refine ih (i + 1) _ _ ?_
      have := hch i
      by_cases hb : S.testBit i = true
      · simp only [hb, if_true, Bool.toNat_true]; omega
      · have hb' : S.testBit i = false := by simpa using hb
        simp only [hb', Bool.toNat_false]
        simpa using h
  have h2 := this 12 0 0 0 (by omega)
  rw [Nat.mul_comm]
  exact h2
theorem leapStep_le {f : Nat → Nat} {room : Nat} {ch : Nat → Nat} (hch : ∀ c, ch c ≤ 1000000) (c : Nat) : leapStep f room ch c ≤ 1000000 := by
  unfold leapStep
  split
  · exact avg_le hch (by assumption)
  · exact hch c
theorem likF_le (f : Nat → Nat) (t room : Nat) : ∀ n c, likF f t room n c ≤ 1000000 := by
  intro n
  induction n with
  | zero => intro c; simp only [likF]; split <;> omega
  | succ n ih => intro c; exact leapStep_le ih c
section
variable {w : mW} {a : Nat} {f : Nat → Nat}
theorem c_sumOver {ch : Nat → Nat} (h6 : w[6]? = some oT) (hc : w[31]? = some (nA 12 ch)) (S : Nat) (hS : S < 4096) : JR 1 mX4_sumOver [.ref 6, .int (nI S)] w (.int (nI (sumSet ch S))) w := by
  have L : ∀ (n i s : Nat), i + n = 12 → J 1 mX4_sumOver 4 [.ref 6, .int (nI S), .int (nI s), .int (nI i)] [] w (fun v u => v = some (.int (nI (fold (fun c s => if S.testBit c = true then s + ch c else s) n i s))) ∧ u = w) := by
    intro n
    induction n with
    | zero =>
      intro i s hi
      refine j_iload_n iX4_sumOver_4 rfl ?_
      refine j_bipush (v := nI 12) iX4_sumOver_5 (by decide) ?_
      refine j_icmp_geN (tgt := 33) iX4_sumOver_7 (by decide) (by omega) (by omega) (fun _ => ?_) (fun hno => by exfalso; omega)
      refine j_iload_n iX4_sumOver_33 rfl ?_
      refine j_iret iX4_sumOver_34 rfl (by first | rfl | exact nar_bI _ | exact nar_bP) (⟨rfl, rfl⟩)
    | succ n ih =>
      intro i s hi
      refine j_iload_n iX4_sumOver_4 rfl ?_
      refine j_bipush (v := nI 12) iX4_sumOver_5 (by decide) ?_
      refine j_icmp_geN (tgt := 33) iX4_sumOver_7 (by decide) (by omega) (by omega) (fun hno => by exfalso; omega) (fun _ => ?_)
      refine j_iload_n iX4_sumOver_10 rfl ?_
      refine j_iload_n iX4_sumOver_11 rfl ?_
      refine j_SN2R okX5_has nk_X4_30 iX4_sumOver_12 (by omega) (c_has S i (by omega) (by omega)) rfl (Nat.le_of_ble_eq_true rfl) (Nat.le_of_ble_eq_true rfl) ?_
      refine j_if_eqB (tgt := 27) iX4_sumOver_15 (by decide) (fun h15 => ?_) (fun h15 => ?_)
      · refine j_iincN iX4_sumOver_27 rfl (by decide) rfl ?_
        dsimp only [List.set]
        refine j_goto (tgt := 4) iX4_sumOver_30 (by decide) ?_
        first | exact (by simpa only [fold, if_pos h15] using ih (i + 1) (s + ch i) (by omega)) | exact (by simpa only [fold, if_neg (nt h15)] using ih (i + 1) s (by omega))
      · refine j_iload_n iX4_sumOver_18 rfl ?_
        refine j_aload_n iX4_sumOver_19 rfl ?_
        refine j_get fk_X4_24 iX4_sumOver_20 (by repeat (first | assumption | refine wset_ne (by decide) ?_ | exact wset_lt (by (try simp only [List.length_set]); exact wsome (by assumption)))) (by rfl) ?_
        refine j_iload_n iX4_sumOver_23 rfl ?_
        refine j_ialdN iX4_sumOver_24 (by repeat (first | assumption | refine wset_ne (by decide) ?_ | exact wset_lt (by (try simp only [List.length_set]); exact wsome (by assumption)))) (by omega) ?_
        refine j_iaddN iX4_sumOver_25  ?_
        refine j_istore_n iX4_sumOver_26 (by decide) rfl ?_
        dsimp only [List.set]
        refine j_iincN iX4_sumOver_27 rfl (by decide) rfl ?_
        dsimp only [List.set]
        refine j_goto (tgt := 4) iX4_sumOver_30 (by decide) ?_
        first | exact (by simpa only [fold, if_pos h15] using ih (i + 1) (s + ch i) (by omega)) | exact (by simpa only [fold, if_neg (nt h15)] using ih (i + 1) s (by omega))
  refine j_start (ls := [.ref 6, .int (nI S), .null, .null]) rfl ?_
  refine j_iconst (v := nI 0) iX4_sumOver_0 (by decide) ?_
  refine j_istore_n iX4_sumOver_1 (by decide) rfl ?_
  dsimp only [List.set]
  refine j_iconst (v := nI 0) iX4_sumOver_2 (by decide) ?_
  refine j_istore_n iX4_sumOver_3 (by decide) rfl ?_
  dsimp only [List.set]
  exact L 12 0 0 rfl
theorem c_addLeap {ch nc : Nat → Nat} (h6 : w[6]? = some oT) (ha : w[a]? = some (nA 12 f)) (haa : a < 27) (hc : w[31]? = some (nA 12 ch)) (hn : w[32]? = some (nA 12 nc)) (hch : ∀ c, ch c ≤ 1000000) (room : Nat) (hr : room < 4096) : JV 2 mX4_addLeap [.ref 6, .ref a, .int (nI room)] w ((w.set 32 (nA 12 (leapStep f room ch))).set 31 (nA 12 (leapStep f room ch))) := by
  have L2 : ∀ (n i : Nat) (g : Nat → Nat), i + n = 12 → (∀ j, j < i → g j = leapStep f room ch j) → J 2 mX4_addLeap 65 [.ref 6, .ref a, .int (nI room), .int (nI i), .null, .null] [] ((w.set 32 (nA 12 (leapStep f room ch))).set 31 (nA 12 g)) (fun v u => v = none ∧ u = (w.set 32 (nA 12 (leapStep f room ch))).set 31 (nA 12 (leapStep f room ch))) := by
    intro n
    induction n with
    | zero =>
      intro i g hi hg
      have e31 : ((w.set 32 (nA 12 (leapStep f room ch))).set 31 (nA 12 g))[31]? = some (nA 12 g) := (by repeat (first | assumption | refine wset_ne (by decide) ?_ | exact wset_lt (by (try simp only [List.length_set]); exact wsome (by assumption))))
      refine j_arrN (g := leapStep f room ch) (fun j hj => hg j (by omega)) e31 ?_
      rw [wset2]
      refine j_iload_n iX4_addLeap_65 rfl ?_
      refine j_bipush (v := nI 12) iX4_addLeap_66 (by decide) ?_
      refine j_icmp_geN (tgt := 89) iX4_addLeap_68 (by decide) (by omega) (by omega) (fun _ => ?_) (fun hno => by exfalso; omega)
      refine j_vret iX4_addLeap_89 rfl (⟨rfl, rfl⟩)
    | succ n ih =>
      intro i g hi hg
      refine j_iload_n iX4_addLeap_65 rfl ?_
      refine j_bipush (v := nI 12) iX4_addLeap_66 (by decide) ?_
      refine j_icmp_geN (tgt := 89) iX4_addLeap_68 (by decide) (by omega) (by omega) (fun hno => by exfalso; omega) (fun _ => ?_)
      refine j_aload_n iX4_addLeap_71 rfl ?_
      refine j_get fk_X4_24 iX4_addLeap_72 (by repeat (first | assumption | refine wset_ne (by decide) ?_ | exact wset_lt (by (try simp only [List.length_set]); exact wsome (by assumption)))) (by rfl) ?_
      refine j_iload_n iX4_addLeap_75 rfl ?_
      refine j_aload_n iX4_addLeap_76 rfl ?_
      refine j_get fk_X4_27 iX4_addLeap_77 (by repeat (first | assumption | refine wset_ne (by decide) ?_ | exact wset_lt (by (try simp only [List.length_set]); exact wsome (by assumption)))) (by rfl) ?_
      refine j_iload_n iX4_addLeap_80 rfl ?_
      refine j_ialdN iX4_addLeap_81 (by repeat (first | assumption | refine wset_ne (by decide) ?_ | exact wset_lt (by (try simp only [List.length_set]); exact wsome (by assumption)))) (by omega) ?_
      refine j_iastN iX4_addLeap_82 (by repeat (first | assumption | refine wset_ne (by decide) ?_ | exact wset_lt (by (try simp only [List.length_set]); exact wsome (by assumption)))) (by omega) ?_
      refine j_iincN iX4_addLeap_83 rfl (by decide) rfl ?_
      dsimp only [List.set]
      refine j_goto (tgt := 65) iX4_addLeap_86 (by decide) ?_
      rw [wset2]; exact ih (i + 1) _ (by omega) (un_upto hg rfl)
  have L1 : ∀ (n i : Nat) (g : Nat → Nat), i + n = 12 → (∀ j, j < i → g j = leapStep f room ch j) → J 2 mX4_addLeap 2 [.ref 6, .ref a, .int (nI room), .int (nI i), .null, .null] [] (w.set 32 (nA 12 g)) (fun v u => v = none ∧ u = (w.set 32 (nA 12 (leapStep f room ch))).set 31 (nA 12 (leapStep f room ch))) := by
    intro n
    induction n with
    | zero =>
      intro i g hi hg
      have e32 : (w.set 32 (nA 12 g))[32]? = some (nA 12 g) := (by repeat (first | assumption | refine wset_ne (by decide) ?_ | exact wset_lt (by (try simp only [List.length_set]); exact wsome (by assumption))))
      refine j_arrN (g := leapStep f room ch) (fun j hj => hg j (by omega)) e32 ?_
      rw [wset2]
      have e31 : (w.set 32 (nA 12 (leapStep f room ch)))[31]? = some (nA 12 ch) := (by repeat (first | assumption | refine wset_ne (by decide) ?_ | exact wset_lt (by (try simp only [List.length_set]); exact wsome (by assumption))))
      refine j_iload_n iX4_addLeap_2 rfl ?_
      refine j_bipush (v := nI 12) iX4_addLeap_3 (by decide) ?_
      refine j_icmp_geN (tgt := 63) iX4_addLeap_5 (by decide) (by omega) (by omega) (fun _ => ?_) (fun hno => by exfalso; omega)
      refine j_iconst (v := nI 0) iX4_addLeap_63 (by decide) ?_
      refine j_istore_n iX4_addLeap_64 (by decide) rfl ?_
      dsimp only [List.set]
      exact (by have := L2 12 0 ch rfl (fun j hj => absurd hj (Nat.not_lt_zero _)); rw [wset_eq e31] at this; exact this)
    | succ n ih =>
      intro i g hi hg
      have hA : (w.set 32 (nA 12 g))[a]? = some (nA 12 f) := wset_ne (by omega) ha
      have hgo : f i &&& room < 4096 := and_bR hr
      have hpl := pop_le (f i &&& room)
      have hs := sum_le (ch := ch) (S := f i &&& room) hch 12 0 0
      have h6' : (w.set 32 (nA 12 g))[6]? = some oT := (by repeat (first | assumption | refine wset_ne (by decide) ?_ | exact wset_lt (by (try simp only [List.length_set]); exact wsome (by assumption))))
      have h31' : (w.set 32 (nA 12 g))[31]? = some (nA 12 ch) := (by repeat (first | assumption | refine wset_ne (by decide) ?_ | exact wset_lt (by (try simp only [List.length_set]); exact wsome (by assumption))))
      have hs2 : sumSet ch (f i &&& room) < 2 ^ 31 := by unfold sumSet; omega
      refine j_iload_n iX4_addLeap_2 rfl ?_
      refine j_bipush (v := nI 12) iX4_addLeap_3 (by decide) ?_
      refine j_icmp_geN (tgt := 63) iX4_addLeap_5 (by decide) (by omega) (by omega) (fun hno => by exfalso; omega) (fun _ => ?_)
      refine j_iload_n iX4_addLeap_8 rfl ?_
      refine j_aload_n iX4_addLeap_9 rfl ?_
      refine j_alen iX4_addLeap_10 (by repeat (first | assumption | refine wset_ne (by decide) ?_ | exact wset_lt (by (try simp only [List.length_set]); exact wsome (by assumption)))) (by decide) (by rfl) ?_
      refine j_icmp_geN (tgt := 63) iX4_addLeap_11 (by decide) (by omega) (by omega) (fun hno => by exfalso; omega) (fun _ => ?_)
      refine j_aload_n iX4_addLeap_14 rfl ?_
      refine j_iload_n iX4_addLeap_15 rfl ?_
      refine j_ialdN iX4_addLeap_16 (by repeat (first | assumption | refine wset_ne (by decide) ?_ | exact wset_lt (by (try simp only [List.length_set]); exact wsome (by assumption)))) (by omega) ?_
      refine j_iload_n iX4_addLeap_17 rfl ?_
      refine j_iandN iX4_addLeap_18 ?_
      refine j_istore iX4_addLeap_19 (by decide) rfl ?_
      dsimp only [List.set]
      refine j_iload iX4_addLeap_21 rfl ?_
      refine j_S1R okJ6_bitCount lk_X4_59 iX4_addLeap_23 (by omega) (c_bitCount _ hgo) rfl (Nat.le_of_ble_eq_true rfl) (Nat.le_of_ble_eq_true rfl) ?_
      refine j_istore iX4_addLeap_26 (by decide) rfl ?_
      dsimp only [List.set]
      refine j_aload_n iX4_addLeap_28 rfl ?_
      refine j_get fk_X4_27 iX4_addLeap_29 (by repeat (first | assumption | refine wset_ne (by decide) ?_ | exact wset_lt (by (try simp only [List.length_set]); exact wsome (by assumption)))) (by rfl) ?_
      refine j_iload_n iX4_addLeap_32 rfl ?_
      refine j_iload iX4_addLeap_33 rfl ?_
      refine j_if_leN (tgt := 50) iX4_addLeap_35 (by decide) (by omega) (fun h35 => ?_) (fun h35 => ?_)
      · refine j_aload_n iX4_addLeap_50 rfl ?_
        refine j_get fk_X4_24 iX4_addLeap_51 (by repeat (first | assumption | refine wset_ne (by decide) ?_ | exact wset_lt (by (try simp only [List.length_set]); exact wsome (by assumption)))) (by rfl) ?_
        refine j_iload_n iX4_addLeap_54 rfl ?_
        refine j_ialdN iX4_addLeap_55 (by repeat (first | assumption | refine wset_ne (by decide) ?_ | exact wset_lt (by (try simp only [List.length_set]); exact wsome (by assumption)))) (by omega) ?_
        refine j_iastN iX4_addLeap_56 (by repeat (first | assumption | refine wset_ne (by decide) ?_ | exact wset_lt (by (try simp only [List.length_set]); exact wsome (by assumption)))) (by omega) ?_
        refine j_iincN iX4_addLeap_57 rfl (by decide) rfl ?_
        dsimp only [List.set]
        refine j_goto (tgt := 2) iX4_addLeap_60 (by decide) ?_
        rw [wset2]; first | exact J.fg (ih (i + 1) _ (by omega) (un_upto hg (by unfold leapStep; rw [if_pos h35]))) (by first | (simp [LF]; done) | (simp [LF, bI]; done)) | exact J.fg (ih (i + 1) _ (by omega) (un_upto hg (by unfold leapStep; rw [if_neg (by omega)]))) (by first | (simp [LF]; done) | (simp [LF, bI]; done))
      · refine j_aload_n iX4_addLeap_38 rfl ?_
        refine j_iload iX4_addLeap_39 rfl ?_
        refine j_V1R okX4_sumOver lk_X4_73 iX4_addLeap_41 (by omega) (by repeat (first | assumption | refine wset_ne (by decide) ?_ | exact wset_lt (by (try simp only [List.length_set]); exact wsome (by assumption)))) rfl (c_sumOver h6' h31' _ hgo) rfl (Nat.le_of_ble_eq_true rfl) (Nat.le_of_ble_eq_true rfl) ?_
        refine j_iload iX4_addLeap_44 rfl ?_
        refine j_idivN iX4_addLeap_46 hs2 (by omega) (by omega) ?_
        refine j_goto (tgt := 56) iX4_addLeap_47 (by decide) ?_
        refine j_iastN iX4_addLeap_56 (by repeat (first | assumption | refine wset_ne (by decide) ?_ | exact wset_lt (by (try simp only [List.length_set]); exact wsome (by assumption)))) (by omega) ?_
        refine j_iincN iX4_addLeap_57 rfl (by decide) rfl ?_
        dsimp only [List.set]
        refine j_goto (tgt := 2) iX4_addLeap_60 (by decide) ?_
        rw [wset2]; first | exact J.fg (ih (i + 1) _ (by omega) (un_upto hg (by unfold leapStep; rw [if_pos h35]))) (by first | (simp [LF]; done) | (simp [LF, bI]; done)) | exact J.fg (ih (i + 1) _ (by omega) (un_upto hg (by unfold leapStep; rw [if_neg (by omega)]))) (by first | (simp [LF]; done) | (simp [LF, bI]; done))
  refine j_start (ls := [.ref 6, .ref a, .int (nI room), .null, .null, .null]) rfl ?_
  refine j_iconst (v := nI 0) iX4_addLeap_0 (by decide) ?_
  refine j_istore_n iX4_addLeap_1 (by decide) rfl ?_
  dsimp only [List.set]
  exact (by have := L1 12 0 nc rfl (fun j hj => absurd hj (Nat.not_lt_zero _)); rw [wset_eq hn] at this; exact this)
theorem c_likelihood {ch nc : Nat → Nat} (h6 : w[6]? = some oT) (ha : w[a]? = some (nA 12 f)) (haa : a < 27) (hc : w[31]? = some (nA 12 ch)) (hn : w[32]? = some (nA 12 nc)) (s t room m : Nat) (hs : s < 12) (ht : t < 12) (hr : room < 4096) (hm : m ≤ 6) : JX 3 mX4_likelihood [.ref 6, .ref a, .int (nI s), .int (nI t), .int (nI room), .int (nI m)] w (fun v u => v = some (.int (nI (likF f t room m s))) ∧ ∃ g h, u = (w.set 32 (nA 12 g)).set 31 (nA 12 h)) := by
  have L2 : ∀ (n i : Nat) (g : Nat → Nat), i + n = m → J 3 mX4_likelihood 50 [.ref 6, .ref a, .int (nI s), .int (nI t), .int (nI room), .int (nI m), .int (nI i)] [] ((w.set 32 (nA 12 g)).set 31 (nA 12 (likF f t room i))) (fun v u => v = some (.int (nI (likF f t room m s))) ∧ ∃ g h, u = (w.set 32 (nA 12 g)).set 31 (nA 12 h)) := by
    intro n
    induction n with
    | zero =>
      intro i g hi
      have e : i = m := by omega
      subst e
      refine j_iload iX4_likelihood_50 rfl ?_
      refine j_iload iX4_likelihood_52 rfl ?_
      refine j_icmp_geN (tgt := 77) iX4_likelihood_54 (by decide) (by omega) (by omega) (fun _ => ?_) (fun hno => by exfalso; omega)
      refine j_aload_n iX4_likelihood_77 rfl ?_
      refine j_get fk_X4_24 iX4_likelihood_78 (by repeat (first | assumption | refine wset_ne (by decide) ?_ | exact wset_lt (by (try simp only [List.length_set]); exact wsome (by assumption)))) (by rfl) ?_
      refine j_iload_n iX4_likelihood_81 rfl ?_
      refine j_ialdN iX4_likelihood_82 (by repeat (first | assumption | refine wset_ne (by decide) ?_ | exact wset_lt (by (try simp only [List.length_set]); exact wsome (by assumption)))) (by omega) ?_
      refine j_iret iX4_likelihood_83 rfl (by first | rfl | exact nar_bI _ | exact nar_bP) (⟨rfl, g, _, rfl⟩)
    | succ n ih =>
      intro i g hi
      have hA : ((w.set 32 (nA 12 g)).set 31 (nA 12 (likF f t room i)))[a]? = some (nA 12 f) := wset_ne (by omega) (wset_ne (by omega) ha)
      refine j_iload iX4_likelihood_50 rfl ?_
      refine j_iload iX4_likelihood_52 rfl ?_
      refine j_icmp_geN (tgt := 77) iX4_likelihood_54 (by decide) (by omega) (by omega) (fun hno => by exfalso; omega) (fun _ => ?_)
      refine j_iload iX4_likelihood_57 rfl ?_
      refine j_bipush (v := nI 6) iX4_likelihood_59 (by decide) ?_
      refine j_icmp_geN (tgt := 77) iX4_likelihood_61 (by decide) (by omega) (by omega) (fun hno => by exfalso; omega) (fun _ => ?_)
      refine j_aload_n iX4_likelihood_64 rfl ?_
      refine j_aload_n iX4_likelihood_65 rfl ?_
      refine j_iload iX4_likelihood_66 rfl ?_
      refine j_V2U (r := .null) okX4_addLeap lk_X4_69 iX4_likelihood_68 (by omega) (by repeat (first | assumption | refine wset_ne (by decide) ?_ | exact wset_lt (by (try simp only [List.length_set]); exact wsome (by assumption)))) rfl (c_addLeap (by repeat (first | assumption | refine wset_ne (by decide) ?_ | exact wset_lt (by (try simp only [List.length_set]); exact wsome (by assumption)))) hA haa (by repeat (first | assumption | refine wset_ne (by decide) ?_ | exact wset_lt (by (try simp only [List.length_set]); exact wsome (by assumption)))) (by repeat (first | assumption | refine wset_ne (by decide) ?_ | exact wset_lt (by (try simp only [List.length_set]); exact wsome (by assumption)))) (likF_le f t room i) room hr) rfl (Nat.le_of_ble_eq_true rfl) (Nat.le_of_ble_eq_true rfl) ?_
      refine j_iincN iX4_likelihood_71 rfl (by decide) rfl ?_
      dsimp only [List.set]
      refine j_goto (tgt := 50) iX4_likelihood_74 (by decide) ?_
      exact (by have := ih (i + 1) (leapStep f room (likF f t room i)) (by omega); rw [List.set_comm _ _ (show (31 : Nat) ≠ 32 by decide), wset2, wset2]; exact this)
  have L1 : ∀ (n i : Nat) (g : Nat → Nat), i + n = 12 → (∀ j, j < i → g j = likF f t room 0 j) → J 3 mX4_likelihood 15 [.ref 6, .ref a, .int (nI s), .int (nI t), .int (nI room), .int (nI m), .int (nI i)] [] (w.set 31 (nA 12 g)) (fun v u => v = some (.int (nI (likF f t room m s))) ∧ ∃ g h, u = (w.set 32 (nA 12 g)).set 31 (nA 12 h)) := by
    intro n
    induction n with
    | zero =>
      intro i g hi hg
      have e31 : (w.set 31 (nA 12 g))[31]? = some (nA 12 g) := (by repeat (first | assumption | refine wset_ne (by decide) ?_ | exact wset_lt (by (try simp only [List.length_set]); exact wsome (by assumption))))
      refine j_arrN (g := likF f t room 0) (fun j hj => hg j (by omega)) e31 ?_
      rw [wset2]
      refine j_iload iX4_likelihood_15 rfl ?_
      refine j_bipush (v := nI 12) iX4_likelihood_17 (by decide) ?_
      refine j_icmp_geN (tgt := 47) iX4_likelihood_19 (by decide) (by omega) (by omega) (fun _ => ?_) (fun hno => by exfalso; omega)
      refine j_iconst (v := nI 0) iX4_likelihood_47 (by decide) ?_
      refine j_istore iX4_likelihood_48 (by decide) rfl ?_
      dsimp only [List.set]
      exact (by have := L2 m 0 nc (by omega); rw [wset_eq hn] at this; exact this)
    | succ n ih =>
      intro i g hi hg
      refine j_iload iX4_likelihood_15 rfl ?_
      refine j_bipush (v := nI 12) iX4_likelihood_17 (by decide) ?_
      refine j_icmp_geN (tgt := 47) iX4_likelihood_19 (by decide) (by omega) (by omega) (fun hno => by exfalso; omega) (fun _ => ?_)
      refine j_aload_n iX4_likelihood_22 rfl ?_
      refine j_get fk_X4_24 iX4_likelihood_23 (by repeat (first | assumption | refine wset_ne (by decide) ?_ | exact wset_lt (by (try simp only [List.length_set]); exact wsome (by assumption)))) (by rfl) ?_
      refine j_iload iX4_likelihood_26 rfl ?_
      refine j_iload iX4_likelihood_28 rfl ?_
      refine j_iload_n iX4_likelihood_30 rfl ?_
      refine j_icmp_neN (tgt := 39) iX4_likelihood_31 (by decide) (by omega) (by omega) (fun h31 => ?_) (fun h31 => ?_)
      · refine j_iconst (v := nI 0) iX4_likelihood_39 (by decide) ?_
        refine j_iastN iX4_likelihood_40 (by repeat (first | assumption | refine wset_ne (by decide) ?_ | exact wset_lt (by (try simp only [List.length_set]); exact wsome (by assumption)))) (by omega) ?_
        refine j_iincN iX4_likelihood_41 rfl (by decide) rfl ?_
        dsimp only [List.set]
        refine j_goto (tgt := 15) iX4_likelihood_44 (by decide) ?_
        rw [wset2]; first | exact ih (i + 1) _ (by omega) (un_upto hg (by simp only [likF]; rw [if_neg h31])) | exact ih (i + 1) _ (by omega) (un_upto hg (by simp only [likF]; rw [if_pos h31]))
      · refine j_ldc iX4_likelihood_34 kc_X4_68 ?_
        refine j_top (y := nI 1000000) (by decide) ?_
        refine j_goto (tgt := 40) iX4_likelihood_36 (by decide) ?_
        refine j_iastN iX4_likelihood_40 (by repeat (first | assumption | refine wset_ne (by decide) ?_ | exact wset_lt (by (try simp only [List.length_set]); exact wsome (by assumption)))) (by omega) ?_
        refine j_iincN iX4_likelihood_41 rfl (by decide) rfl ?_
        dsimp only [List.set]
        refine j_goto (tgt := 15) iX4_likelihood_44 (by decide) ?_
        rw [wset2]; first | exact ih (i + 1) _ (by omega) (un_upto hg (by simp only [likF]; rw [if_neg h31])) | exact ih (i + 1) _ (by omega) (un_upto hg (by simp only [likF]; rw [if_pos h31]))
  refine j_start (ls := [.ref 6, .ref a, .int (nI s), .int (nI t), .int (nI room), .int (nI m), .null]) rfl ?_
  refine j_iload_n iX4_likelihood_0 rfl ?_
  refine j_if_ltN (tgt := 10) iX4_likelihood_1 (by decide) (by omega) (fun hno => by exfalso; omega) (fun _ => ?_)
  refine j_iload_n iX4_likelihood_4 rfl ?_
  refine j_bipush (v := nI 12) iX4_likelihood_5 (by decide) ?_
  refine j_icmp_ltN (tgt := 12) iX4_likelihood_7 (by decide) (by omega) (by omega) (fun _ => ?_) (fun hno => by exfalso; omega)
  refine j_iconst (v := nI 0) iX4_likelihood_12 (by decide) ?_
  refine j_istore iX4_likelihood_13 (by decide) rfl ?_
  dsimp only [List.set]
  exact (by have := L1 12 0 ch rfl (fun j hj => absurd hj (Nat.not_lt_zero _)); rw [wset_eq hc] at this; exact this)
end
