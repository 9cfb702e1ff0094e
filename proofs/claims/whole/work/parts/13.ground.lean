/-! ===== the class: the ground ===== -/
abbrev oG (R C N fa : Nat) : mE := .inr (1, [.int (nI R), .int (nI C), .int (nI N), .ref fa])
theorem spreadFrom_b {f : Nat → Nat} (hf : ∀ i, f i < 4096) (S : Nat) : ∀ (k i r : Nat), r < 4096 → spreadFrom f S k i r < 4096 := by
  intro k
  induction k with
  | zero => intro i r h; exact h
  | succ k ih =>
    intro i r h
    refine ih _ _ ?_
    split
    · exact or_b h (hf i)
    · exact h
theorem spread_b {f : Nat → Nat} (hf : ∀ i, f i < 4096) (S : Nat) : spread f S < 4096 := spreadFrom_b hf S 12 0 0 (by decide)
section
variable {w : mW} {a : Nat}
theorem c_hasCell {R C N fa : Nat} (hg : w[a]? = some (oG R C N fa)) (x : Int32) : JR 0 mX1_hasCell [.ref a, .int x] w (.int (bI (inR x N))) w := by
  refine j_start (ls := [.ref a, .int x]) rfl ?_
  refine j_iload_n iX1_hasCell_0 rfl ?_
  refine j_if_lt (tgt := 16) iX1_hasCell_1 (by decide) (fun h1 => ?_) (fun h1 => ?_)
  · refine j_iconst (v := nI 0) iX1_hasCell_16 (by decide) ?_
    refine j_iret iX1_hasCell_17 rfl (by first | rfl | exact nar_bI _ | exact nar_bP) (⟨by first | rw [inR_f0 h1]; rfl | rw [inR_f h9]; rfl | rw [inR_t h1 h9]; rfl, rfl⟩)
  · refine j_iload_n iX1_hasCell_4 rfl ?_
    refine j_aload_n iX1_hasCell_5 rfl ?_
    refine j_get fk_X1_23 iX1_hasCell_6 (by repeat (first | assumption | refine wset_ne (by decide) ?_ | exact wset_lt (by (try simp only [List.length_set]); exact wsome (by assumption)))) (by rfl) ?_
    refine j_icmp_ge (tgt := 16) iX1_hasCell_9 (by decide) (fun h9 => ?_) (fun h9 => ?_)
    · refine j_iconst (v := nI 0) iX1_hasCell_16 (by decide) ?_
      refine j_iret iX1_hasCell_17 rfl (by first | rfl | exact nar_bI _ | exact nar_bP) (⟨by first | rw [inR_f0 h1]; rfl | rw [inR_f h9]; rfl | rw [inR_t h1 h9]; rfl, rfl⟩)
    · refine j_iconst (v := nI 1) iX1_hasCell_12 (by decide) ?_
      refine j_goto (tgt := 17) iX1_hasCell_13 (by decide) ?_
      refine j_iret iX1_hasCell_17 rfl (by first | rfl | exact nar_bI _ | exact nar_bP) (⟨by first | rw [inR_f0 h1]; rfl | rw [inR_f h9]; rfl | rw [inR_t h1 h9]; rfl, rfl⟩)
def fanStep (C k c t r : Nat) : Nat := if goesF k (dist (c / C) (t / C)) (dist (c % C) (t % C)) = true then r ||| 2 ^ t else r
def fanF (C N k c : Nat) : Nat := if N ≤ c then 0 else fold (fanStep C k c) N 0 0
theorem c_fanFrom {R C N fa : Nat} (hg : w[a]? = some (oG R C N fa)) (hC : 0 < C) (hC2 : C < 2 ^ 30) (hN : N ≤ 12) (k c : Nat) (hk : k < 5) (hc : c < 12) : JR 2 mX1_fanFrom [.ref a, .int (nI k), .int (nI c)] w (.int (nI (fanF C N k c))) w := by
  have D : ∀ t, t < 12 → t / C < 2 ^ 30 ∧ t % C < 2 ^ 30 := fun t ht => ⟨Nat.lt_of_le_of_lt (Nat.div_le_self _ _) (by omega), Nat.lt_of_le_of_lt (Nat.mod_le _ _) (by omega)⟩
  have hcD := D c hc
  have L : ∀ (n t r : Nat) (x y : Value), t + n = N → c < N → J 2 mX1_fanFrom 22 [.ref a, .int (nI k), .int (nI c), .int (nI r), .int (nI t), .null, .null] [] w (fun v u => v = some (.int (nI (fold (fanStep C k c) n t r))) ∧ u = w) := by
    intro n
    induction n with
    | zero =>
      intro t r x y ht hcN
      refine j_iload iX1_fanFrom_22 rfl ?_
      refine j_aload_n iX1_fanFrom_24 rfl ?_
      refine j_get fk_X1_23 iX1_fanFrom_25 (by repeat (first | assumption | refine wset_ne (by decide) ?_ | exact wset_lt (by (try simp only [List.length_set]); exact wsome (by assumption)))) (by rfl) ?_
      refine j_icmp_geN (tgt := 100) iX1_fanFrom_28 (by decide) (by omega) (by omega) (fun _ => ?_) (fun hno => by exfalso; omega)
      refine j_iload_n iX1_fanFrom_100 rfl ?_
      refine j_iret iX1_fanFrom_101 rfl (by first | rfl | exact nar_bI _ | exact nar_bP) (⟨rfl, rfl⟩)
    | succ n ih =>
      intro t r x y ht hcN
      have htD := D t (by omega)
      have hd1 : dist (c / C) (t / C) < 2 ^ 31 := dist_lt hcD.1 htD.1
      have hd2 : dist (c % C) (t % C) < 2 ^ 31 := dist_lt hcD.2 htD.2
      refine j_iload iX1_fanFrom_22 rfl ?_
      refine j_aload_n iX1_fanFrom_24 rfl ?_
      refine j_get fk_X1_23 iX1_fanFrom_25 (by repeat (first | assumption | refine wset_ne (by decide) ?_ | exact wset_lt (by (try simp only [List.length_set]); exact wsome (by assumption)))) (by rfl) ?_
      refine j_icmp_geN (tgt := 100) iX1_fanFrom_28 (by decide) (by omega) (by omega) (fun hno => by exfalso; omega) (fun _ => ?_)
      refine j_iload iX1_fanFrom_31 rfl ?_
      refine j_bipush (v := nI 12) iX1_fanFrom_33 (by decide) ?_
      refine j_icmp_geN (tgt := 100) iX1_fanFrom_35 (by decide) (by omega) (by omega) (fun hno => by exfalso; omega) (fun _ => ?_)
      refine j_iload_n iX1_fanFrom_38 rfl ?_
      refine j_aload_n iX1_fanFrom_39 rfl ?_
      refine j_get fk_X1_20 iX1_fanFrom_40 (by repeat (first | assumption | refine wset_ne (by decide) ?_ | exact wset_lt (by (try simp only [List.length_set]); exact wsome (by assumption)))) (by rfl) ?_
      refine j_idivN iX1_fanFrom_43 (by omega) (by omega) (by omega) ?_
      refine j_iload iX1_fanFrom_44 rfl ?_
      refine j_aload_n iX1_fanFrom_46 rfl ?_
      refine j_get fk_X1_20 iX1_fanFrom_47 (by repeat (first | assumption | refine wset_ne (by decide) ?_ | exact wset_lt (by (try simp only [List.length_set]); exact wsome (by assumption)))) (by rfl) ?_
      refine j_idivN iX1_fanFrom_50 (by omega) (by omega) (by omega) ?_
      refine j_isub iX1_fanFrom_51 ?_
      refine j_mabsN mk_X1_34 iX1_fanFrom_52 (by omega) (Nat.le_of_ble_eq_true rfl) (by omega) (by omega) ?_
      refine j_istore iX1_fanFrom_55 (by decide) rfl ?_
      dsimp only [List.set]
      refine j_iload_n iX1_fanFrom_57 rfl ?_
      refine j_aload_n iX1_fanFrom_58 rfl ?_
      refine j_get fk_X1_20 iX1_fanFrom_59 (by repeat (first | assumption | refine wset_ne (by decide) ?_ | exact wset_lt (by (try simp only [List.length_set]); exact wsome (by assumption)))) (by rfl) ?_
      refine j_iremN iX1_fanFrom_62 (by omega) (by omega) (by omega) ?_
      refine j_iload iX1_fanFrom_63 rfl ?_
      refine j_aload_n iX1_fanFrom_65 rfl ?_
      refine j_get fk_X1_20 iX1_fanFrom_66 (by repeat (first | assumption | refine wset_ne (by decide) ?_ | exact wset_lt (by (try simp only [List.length_set]); exact wsome (by assumption)))) (by rfl) ?_
      refine j_iremN iX1_fanFrom_69 (by omega) (by omega) (by omega) ?_
      refine j_isub iX1_fanFrom_70 ?_
      refine j_mabsN mk_X1_34 iX1_fanFrom_71 (by omega) (Nat.le_of_ble_eq_true rfl) (by omega) (by omega) ?_
      refine j_istore iX1_fanFrom_74 (by decide) rfl ?_
      dsimp only [List.set]
      refine j_iload_n iX1_fanFrom_76 rfl ?_
      refine j_iload iX1_fanFrom_77 rfl ?_
      refine j_iload iX1_fanFrom_79 rfl ?_
      refine j_SN3R okX5_goes nk_X1_40 iX1_fanFrom_81 (by omega) (c_goes k _ _ hk hd1 hd2) rfl (Nat.le_of_ble_eq_true rfl) (Nat.le_of_ble_eq_true rfl) ?_
      refine j_if_eqB (tgt := 94) iX1_fanFrom_84 (by decide) (fun h84 => ?_) (fun h84 => ?_)
      · refine j_iincN iX1_fanFrom_94 rfl (by decide) rfl ?_
        dsimp only [List.set]
        refine j_goto (tgt := 22) iX1_fanFrom_97 (by decide) ?_
        first | exact J.forget (by simpa only [fold, fanStep, h84, if_true] using ih (t + 1) (r ||| 2 ^ t) .null .null (by omega) hcN) (by intro i v h1 h2; rcases i with _ | _ | _ | _ | _ | _ | _ | i <;> simp_all) | exact J.forget (by simpa [fold, fanStep, h84] using ih (t + 1) r .null .null (by omega) hcN) (by intro i v h1 h2; rcases i with _ | _ | _ | _ | _ | _ | _ | i <;> simp_all)
      · refine j_iload_n iX1_fanFrom_87 rfl ?_
        refine j_iconst (v := nI 1) iX1_fanFrom_88 (by decide) ?_
        refine j_iload iX1_fanFrom_89 rfl ?_
        refine j_ishlN iX1_fanFrom_91 (by omega) ?_
        refine j_iorN iX1_fanFrom_92  ?_
        refine j_istore_n iX1_fanFrom_93 (by decide) rfl ?_
        dsimp only [List.set]
        refine j_iincN iX1_fanFrom_94 rfl (by decide) rfl ?_
        dsimp only [List.set]
        refine j_goto (tgt := 22) iX1_fanFrom_97 (by decide) ?_
        first | exact J.forget (by simpa only [fold, fanStep, h84, if_true] using ih (t + 1) (r ||| 2 ^ t) .null .null (by omega) hcN) (by intro i v h1 h2; rcases i with _ | _ | _ | _ | _ | _ | _ | i <;> simp_all) | exact J.forget (by simpa [fold, fanStep, h84] using ih (t + 1) r .null .null (by omega) hcN) (by intro i v h1 h2; rcases i with _ | _ | _ | _ | _ | _ | _ | i <;> simp_all)
  refine j_start (ls := [.ref a, .int (nI k), .int (nI c), .null, .null, .null, .null]) rfl ?_
  refine j_iconst (v := nI 0) iX1_fanFrom_0 (by decide) ?_
  refine j_istore_n iX1_fanFrom_1 (by decide) rfl ?_
  dsimp only [List.set]
  refine j_aload_n iX1_fanFrom_2 rfl ?_
  refine j_get fk_X1_20 iX1_fanFrom_3 (by repeat (first | assumption | refine wset_ne (by decide) ?_ | exact wset_lt (by (try simp only [List.length_set]); exact wsome (by assumption)))) (by rfl) ?_
  refine j_if_leN (tgt := 17) iX1_fanFrom_6 (by decide) (by omega) (fun hno => by exfalso; omega) (fun _ => ?_)
  refine j_iload_n iX1_fanFrom_9 rfl ?_
  refine j_aload_n iX1_fanFrom_10 rfl ?_
  refine j_get fk_X1_23 iX1_fanFrom_11 (by repeat (first | assumption | refine wset_ne (by decide) ?_ | exact wset_lt (by (try simp only [List.length_set]); exact wsome (by assumption)))) (by rfl) ?_
  refine j_icmp_ltN (tgt := 19) iX1_fanFrom_14 (by decide) (by omega) (by omega) (fun h14 => ?_) (fun h14 => ?_)
  · refine j_iconst (v := nI 0) iX1_fanFrom_19 (by decide) ?_
    refine j_istore iX1_fanFrom_20 (by decide) rfl ?_
    dsimp only [List.set]
    exact (by unfold fanF; rw [if_neg (by omega)]; exact L N 0 0 .null .null (by omega) h14)
  · refine j_iload_n iX1_fanFrom_17 rfl ?_
    refine j_iret iX1_fanFrom_18 rfl (by first | rfl | exact nar_bI _ | exact nar_bP) (⟨by unfold fanF; rw [if_pos (by omega)], rfl⟩)
end
def fanRows (i : Nat) : Option Nat := if i < 5 then some (10 + i) else none
theorem fanF_b (C N k c : Nat) (hN : N ≤ 12) : fanF C N k c < 4096 := by
  unfold fanF
  split
  · decide
  · have : ∀ (n t r : Nat), t + n ≤ 12 → r < 4096 → fold (fanStep C k c) n t r < 4096 := by
      intro n
      induction n with
      | zero => intro t r _ h; exact h
      | succ n ih =>
        intro t r ht h
        refine ih _ _ (by omega) ?_
        unfold fanStep
        split
        · exact or_b h (pw_b (by omega))
        · exact h
    exact this N 0 0 (by omega) (by decide)
theorem c_fanOf {w : mW} {R C N : Nat} (hg : w[2]? = some (oG R C N 9)) (hf : w[9]? = some (rA 5 fanRows)) (k : Nat) (hk : k < 5) : JR 1 mX1_fanOf [.ref 2, .int (nI k)] w (.ref (10 + k)) w := by
  refine j_start (ls := [.ref 2, .int (nI k)]) rfl ?_
  refine j_aload_n iX1_fanOf_0 rfl ?_
  refine j_get fk_X1_11 iX1_fanOf_1 (by repeat (first | assumption | refine wset_ne (by decide) ?_ | exact wset_lt (by (try simp only [List.length_set]); exact wsome (by assumption)))) (by rfl) ?_
  refine j_iload_n iX1_fanOf_4 rfl ?_
  refine j_SN1R okX5_isKind nk_X1_30 iX1_fanOf_5 (by omega) (c_isKind _) rfl (Nat.le_of_ble_eq_true rfl) (Nat.le_of_ble_eq_true rfl) ?_
  refine j_if_eqB (tgt := 15) iX1_fanOf_8 (by decide) (fun hno => Bool.noConfusion (hno.symm.trans (show _ = true from by rw [inR_nI (by omega) (by decide)]; exact decide_eq_true hk))) (fun _ => ?_)
  refine j_iload_n iX1_fanOf_11 rfl ?_
  refine j_goto (tgt := 16) iX1_fanOf_12 (by decide) ?_
  refine j_aaldN iX1_fanOf_16 (by repeat (first | assumption | refine wset_ne (by decide) ?_ | exact wset_lt (by (try simp only [List.length_set]); exact wsome (by assumption)))) (by omega) (by unfold fanRows; exact if_pos hk) ?_
  refine j_aret iX1_fanOf_17 rfl (Or.inr ⟨_, rfl⟩) (⟨rfl, rfl⟩)
def layRow (C N k : Nat) (w : mW) : mW := w.set (10 + k) (nA 12 (fanF C N k))
theorem c_layRow {w : mW} {R C N k : Nat} {Q : Option Value → mW → Prop} {g : Nat → Nat} (hg : w[2]? = some (oG R C N 9)) (hf : w[9]? = some (rA 5 fanRows)) (hr : w[10 + k]? = some (nA 12 g)) (hC : 0 < C) (hC2 : C < 2 ^ 30) (hN : N ≤ 12) (hk : k < 5)
    (kk : J 3 mX1_lay 25 [.ref 2, .int (nI R), .int (nI C), .int (nI (k + 1)), .null] [] (layRow C N k w) Q) : J 3 mX1_lay 30 [.ref 2, .int (nI R), .int (nI C), .int (nI k), .null] [] w Q := by
  have L : ∀ (n c : Nat) (h : Nat → Nat), c + n = 12 → (∀ j, j < c → h j = fanF C N k j) → J 3 mX1_lay 33 [.ref 2, .int (nI R), .int (nI C), .int (nI k), .int (nI c)] [] (w.set (10 + k) (nA 12 h)) Q := by
    intro n
    induction n with
    | zero =>
      intro c h hc hh
      refine j_arrN (a := 10 + k) (n := 12) (f := h) (g := fanF C N k) (fun j hj => hh j (by omega)) (wset_same hr) ?_
      rw [wset2]
      refine j_iload iX1_lay_33 rfl ?_
      refine j_bipush (v := nI 12) iX1_lay_35 (by decide) ?_
      refine j_icmp_geN (tgt := 62) iX1_lay_37 (by decide) (by omega) (by omega) (fun _ => ?_) (fun hno => by exfalso; omega)
      refine j_iincN iX1_lay_62 rfl (by decide) rfl ?_
      dsimp only [List.set]
      refine j_goto (tgt := 25) iX1_lay_65 (by decide) ?_
      exact J.forget kk (by intro i v h1 h2; rcases i with _ | _ | _ | _ | _ | i <;> simp_all)
    | succ n ih =>
      intro c h hc hh
      have hg1 : (w.set (10 + k) (nA 12 h))[2]? = some (oG R C N 9) := wset_ne (by omega) hg
      have hf1 : (w.set (10 + k) (nA 12 h))[9]? = some (rA 5 fanRows) := wset_ne (by omega) hf
      have hr1 : (w.set (10 + k) (nA 12 h))[10 + k]? = some (nA 12 h) := wset_same hr
      refine j_iload iX1_lay_33 rfl ?_
      refine j_bipush (v := nI 12) iX1_lay_35 (by decide) ?_
      refine j_icmp_geN (tgt := 62) iX1_lay_37 (by decide) (by omega) (by omega) (fun hno => by exfalso; omega) (fun _ => ?_)
      refine j_aload_n iX1_lay_40 rfl ?_
      refine j_get fk_X1_11 iX1_lay_41 (by repeat (first | assumption | refine wset_ne (by decide) ?_ | exact wset_lt (by (try simp only [List.length_set]); exact wsome (by assumption)))) (by rfl) ?_
      refine j_iload_n iX1_lay_44 rfl ?_
      refine j_aaldN iX1_lay_45 (by repeat (first | assumption | refine wset_ne (by decide) ?_ | exact wset_lt (by (try simp only [List.length_set]); exact wsome (by assumption)))) (by omega) (by unfold fanRows; exact if_pos hk) ?_
      refine j_iload iX1_lay_46 rfl ?_
      refine j_aload_n iX1_lay_48 rfl ?_
      refine j_iload_n iX1_lay_49 rfl ?_
      refine j_iload iX1_lay_50 rfl ?_
      refine j_V2R okX1_fanFrom lk_X1_26 iX1_lay_52 (by omega) (by repeat (first | assumption | refine wset_ne (by decide) ?_ | exact wset_lt (by (try simp only [List.length_set]); exact wsome (by assumption)))) rfl (c_fanFrom hg1 hC hC2 hN k c hk (by omega)) rfl (Nat.le_of_ble_eq_true rfl) (Nat.le_of_ble_eq_true rfl) ?_
      refine j_iastN iX1_lay_55 (by repeat (first | assumption | refine wset_ne (by decide) ?_ | exact wset_lt (by (try simp only [List.length_set]); exact wsome (by assumption)))) (by omega) ?_
      refine j_iincN iX1_lay_56 rfl (by decide) rfl ?_
      dsimp only [List.set]
      refine j_goto (tgt := 33) iX1_lay_59 (by decide) ?_
      rw [wset2]; exact ih (c + 1) _ (by omega) (un_upto hh rfl)
  have h0 : w.set (10 + k) (nA 12 g) = w := wset_eq hr
  refine j_iconst (v := nI 0) iX1_lay_30 (by decide) ?_
  refine j_istore iX1_lay_31 (by decide) rfl ?_
  dsimp only [List.set]
  exact (by have := L 12 0 g rfl (fun j hj => absurd hj (Nat.not_lt_zero _)); rw [h0] at this; exact this)
def layW (R C : Nat) (w : mW) : mW := layRow C (R * C) 4 (layRow C (R * C) 3 (layRow C (R * C) 2 (layRow C (R * C) 1 (layRow C (R * C) 0 (w.set 2 (oG R C (R * C) 9))))))
theorem c_lay {w : mW} {R0 C0 N0 : Nat} {g0 g1 g2 g3 g4 : Nat → Nat} (hg : w[2]? = some (oG R0 C0 N0 9)) (hf : w[9]? = some (rA 5 fanRows)) (r0 : w[10]? = some (nA 12 g0)) (r1 : w[11]? = some (nA 12 g1)) (r2 : w[12]? = some (nA 12 g2)) (r3 : w[13]? = some (nA 12 g3)) (r4 : w[14]? = some (nA 12 g4))
    (R C : Nat) (hC : 0 < C) (hC2 : C < 2 ^ 30) (hN : R * C ≤ 12) : JV 3 mX1_lay [.ref 2, .int (nI R), .int (nI C)] w (layW R C w) := by
  refine j_start (ls := [.ref 2, .int (nI R), .int (nI C), .null, .null]) rfl ?_
  refine j_aload_n iX1_lay_0 rfl ?_
  refine j_iload_n iX1_lay_1 rfl ?_
  refine j_put fk_X1_16 iX1_lay_2 (by repeat (first | assumption | refine wset_ne (by decide) ?_ | exact wset_lt (by (try simp only [List.length_set]); exact wsome (by assumption)))) (by intro; rfl) (by intro; rfl) (Nat.le_of_ble_eq_true rfl) ?_
  dsimp only [List.set]
  refine j_aload_n iX1_lay_5 rfl ?_
  refine j_iload_n iX1_lay_6 rfl ?_
  refine j_put fk_X1_20 iX1_lay_7 (by repeat (first | assumption | refine wset_ne (by decide) ?_ | exact wset_lt (by (try simp only [List.length_set]); exact wsome (by assumption)))) (by intro; rfl) (by intro; rfl) (Nat.le_of_ble_eq_true rfl) ?_
  dsimp only [List.set]
  refine j_aload_n iX1_lay_10 rfl ?_
  refine j_aload_n iX1_lay_11 rfl ?_
  refine j_get fk_X1_16 iX1_lay_12 (by repeat (first | assumption | refine wset_ne (by decide) ?_ | exact wset_lt (by (try simp only [List.length_set]); exact wsome (by assumption)))) (by rfl) ?_
  refine j_aload_n iX1_lay_15 rfl ?_
  refine j_get fk_X1_20 iX1_lay_16 (by repeat (first | assumption | refine wset_ne (by decide) ?_ | exact wset_lt (by (try simp only [List.length_set]); exact wsome (by assumption)))) (by rfl) ?_
  refine j_imulN iX1_lay_19  ?_
  refine j_put fk_X1_23 iX1_lay_20 (by repeat (first | assumption | refine wset_ne (by decide) ?_ | exact wset_lt (by (try simp only [List.length_set]); exact wsome (by assumption)))) (by intro; rfl) (by intro; rfl) (Nat.le_of_ble_eq_true rfl) ?_
  dsimp only [List.set]
  refine j_iconst (v := nI 0) iX1_lay_23 (by decide) ?_
  refine j_istore_n iX1_lay_24 (by decide) rfl ?_
  dsimp only [List.set]
  rw [wset2, wset2]
  refine j_iload_n iX1_lay_25 rfl ?_
  refine j_iconst (v := nI 5) iX1_lay_26 (by decide) ?_
  refine j_icmp_geN (tgt := 68) iX1_lay_27 (by decide) (by omega) (by omega) (fun hno => by exfalso; omega) (fun _ => ?_)
  refine c_layRow (by repeat (first | assumption | refine wset_ne (by decide) ?_ | exact wset_lt (by (try simp only [List.length_set]); exact wsome (by assumption)))) (by repeat (first | assumption | refine wset_ne (by decide) ?_ | exact wset_lt (by (try simp only [List.length_set]); exact wsome (by assumption)))) (by repeat (first | assumption | refine wset_ne (by decide) ?_ | exact wset_lt (by (try simp only [List.length_set]); exact wsome (by assumption)))) hC hC2 hN (by decide) ?_
  unfold layRow
  refine j_iload_n iX1_lay_25 rfl ?_
  refine j_iconst (v := nI 5) iX1_lay_26 (by decide) ?_
  refine j_icmp_geN (tgt := 68) iX1_lay_27 (by decide) (by omega) (by omega) (fun hno => by exfalso; omega) (fun _ => ?_)
  refine c_layRow (by repeat (first | assumption | refine wset_ne (by decide) ?_ | exact wset_lt (by (try simp only [List.length_set]); exact wsome (by assumption)))) (by repeat (first | assumption | refine wset_ne (by decide) ?_ | exact wset_lt (by (try simp only [List.length_set]); exact wsome (by assumption)))) (by repeat (first | assumption | refine wset_ne (by decide) ?_ | exact wset_lt (by (try simp only [List.length_set]); exact wsome (by assumption)))) hC hC2 hN (by decide) ?_
  unfold layRow
  refine j_iload_n iX1_lay_25 rfl ?_
  refine j_iconst (v := nI 5) iX1_lay_26 (by decide) ?_
  refine j_icmp_geN (tgt := 68) iX1_lay_27 (by decide) (by omega) (by omega) (fun hno => by exfalso; omega) (fun _ => ?_)
  refine c_layRow (by repeat (first | assumption | refine wset_ne (by decide) ?_ | exact wset_lt (by (try simp only [List.length_set]); exact wsome (by assumption)))) (by repeat (first | assumption | refine wset_ne (by decide) ?_ | exact wset_lt (by (try simp only [List.length_set]); exact wsome (by assumption)))) (by repeat (first | assumption | refine wset_ne (by decide) ?_ | exact wset_lt (by (try simp only [List.length_set]); exact wsome (by assumption)))) hC hC2 hN (by decide) ?_
  unfold layRow
  refine j_iload_n iX1_lay_25 rfl ?_
  refine j_iconst (v := nI 5) iX1_lay_26 (by decide) ?_
  refine j_icmp_geN (tgt := 68) iX1_lay_27 (by decide) (by omega) (by omega) (fun hno => by exfalso; omega) (fun _ => ?_)
  refine c_layRow (by repeat (first | assumption | refine wset_ne (by decide) ?_ | exact wset_lt (by (try simp only [List.length_set]); exact wsome (by assumption)))) (by repeat (first | assumption | refine wset_ne (by decide) ?_ | exact wset_lt (by (try simp only [List.length_set]); exact wsome (by assumption)))) (by repeat (first | assumption | refine wset_ne (by decide) ?_ | exact wset_lt (by (try simp only [List.length_set]); exact wsome (by assumption)))) hC hC2 hN (by decide) ?_
  unfold layRow
  refine j_iload_n iX1_lay_25 rfl ?_
  refine j_iconst (v := nI 5) iX1_lay_26 (by decide) ?_
  refine j_icmp_geN (tgt := 68) iX1_lay_27 (by decide) (by omega) (by omega) (fun hno => by exfalso; omega) (fun _ => ?_)
  refine c_layRow (by repeat (first | assumption | refine wset_ne (by decide) ?_ | exact wset_lt (by (try simp only [List.length_set]); exact wsome (by assumption)))) (by repeat (first | assumption | refine wset_ne (by decide) ?_ | exact wset_lt (by (try simp only [List.length_set]); exact wsome (by assumption)))) (by repeat (first | assumption | refine wset_ne (by decide) ?_ | exact wset_lt (by (try simp only [List.length_set]); exact wsome (by assumption)))) hC hC2 hN (by decide) ?_
  unfold layRow
  refine j_iload_n iX1_lay_25 rfl ?_
  refine j_iconst (v := nI 5) iX1_lay_26 (by decide) ?_
  refine j_icmp_geN (tgt := 68) iX1_lay_27 (by decide) (by omega) (by omega) (fun _ => ?_) (fun hno => by exfalso; omega)
  refine j_vret iX1_lay_68 rfl (⟨rfl, rfl⟩)
