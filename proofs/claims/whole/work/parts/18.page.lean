/-! ===== the class: the page ===== -/
def kxAt (i : Nat) : Nat := ([107, 119, 102, 99, 98] : List Nat).getD i 0
theorem kx_ok : ∀ i : Fin 5, ([107, 119, 102, 99, 98] : List Int32).getD (nI i.val).toNatClampNeg 0 = nI (kxAt i.val) := by decide +kernel
theorem kx_b : ∀ i : Fin 5, kxAt i.val < 127 := by decide +kernel
def kxFrom (c : Nat) : Nat → Nat → Option Nat
  | 0, _ => none
  | n + 1, i => if kxAt i = c then some i else kxFrom c n (i + 1)
def kindIx (c : Nat) : Option Nat := kxFrom c 5 0
theorem i2b_ok : ∀ c : Fin 127, (nI c.val).toInt8.toInt32 = nI c.val := by decide +kernel
theorem i2c_ok : ∀ c : Fin 127, ((nI c.val).toUInt32 % 65536).toInt32 = nI c.val := by decide +kernel
section
variable {d : Nat} {mi : MI} {pc pc' : Nat} {ls : List Value} {w : mW} {Q : Option Value → mW → Prop}
theorem j_VS0R {mi' : MI} {rest : List Value} {d' idx : Nat} {r : Value} {w' : mW}  (hm : mV mi') (hlink : Cond.methodLink mi.1.cls idx mi'.1 ∈ UW) (h : decode mi.2.1 pc = .ok (.invokevirtual idx, 3) ∧ pc + 3 = pc') (hd : d' + 1 ≤ d) (hci : mi'.1.cls = "java/lang/String") (hc : JR d' mi' [.ref 1000] w r w') (hn : 0 = mi'.2.2.2.2) (he : (entL [.ref 1000]).length ≤ mi'.2.2.1) (hr : (rest.map fun v => v.category).sum ≤ 8) (kk : J d mi pc' ls (r :: rest) w' Q) : J d mi pc ls (.ref 1000 :: rest) w Q :=
  j_callVS (as := []) (rest := rest) hm hlink h hd hci hc hn he hr (fun v u hvu => by obtain ⟨rfl, rfl⟩ := hvu; exact kk)
theorem j_VS1R {mi' : MI} {rest : List Value} {d' idx : Nat} {r : Value} {w' : mW} {a0 : Value} (hm : mV mi') (hlink : Cond.methodLink mi.1.cls idx mi'.1 ∈ UW) (h : decode mi.2.1 pc = .ok (.invokevirtual idx, 3) ∧ pc + 3 = pc') (hd : d' + 1 ≤ d) (hci : mi'.1.cls = "java/lang/String") (hc : JR d' mi' [.ref 1000, a0] w r w') (hn : 1 = mi'.2.2.2.2) (he : (entL [.ref 1000, a0]).length ≤ mi'.2.2.1) (hr : (rest.map fun v => v.category).sum ≤ 8) (kk : J d mi pc' ls (r :: rest) w' Q) : J d mi pc ls (a0 :: .ref 1000 :: rest) w Q :=
  j_callVS (as := [a0]) (rest := rest) hm hlink h hd hci hc hn he hr (fun v u hvu => by obtain ⟨rfl, rfl⟩ := hvu; exact kk)
theorem j_VS2R {mi' : MI} {rest : List Value} {d' idx : Nat} {r : Value} {w' : mW} {a0 a1 : Value} (hm : mV mi') (hlink : Cond.methodLink mi.1.cls idx mi'.1 ∈ UW) (h : decode mi.2.1 pc = .ok (.invokevirtual idx, 3) ∧ pc + 3 = pc') (hd : d' + 1 ≤ d) (hci : mi'.1.cls = "java/lang/String") (hc : JR d' mi' [.ref 1000, a0, a1] w r w') (hn : 2 = mi'.2.2.2.2) (he : (entL [.ref 1000, a0, a1]).length ≤ mi'.2.2.1) (hr : (rest.map fun v => v.category).sum ≤ 8) (kk : J d mi pc' ls (r :: rest) w' Q) : J d mi pc ls (a1 :: a0 :: .ref 1000 :: rest) w Q :=
  j_callVS (as := [a0, a1]) (rest := rest) hm hlink h hd hci hc hn he hr (fun v u hvu => by obtain ⟨rfl, rfl⟩ := hvu; exact kk)
end
section
variable {w : mW}
theorem c_coder : JR 0 mJ0_coder [.ref 1000] w (.int 0) w := by
  refine j_start (ls := [.ref 1000]) rfl ?_
  refine j_getsC rk_J0_38 iJ0_coder_0 ?_
  refine j_if_eq (tgt := 13) iJ0_coder_3 (by decide) (fun hno => by first | exact absurd hno (by decide) | exact absurd (by decide) hno) (fun _ => ?_)
  refine j_aload_n iJ0_coder_6 rfl ?_
  refine j_getSc rk_J0_15 iJ0_coder_7 ?_
  refine j_goto (tgt := 14) iJ0_coder_10 (by decide) ?_
  refine j_iret iJ0_coder_14 rfl (by first | rfl | exact nar_bI _ | exact nar_bP) (⟨rfl, rfl⟩)
theorem c_isLatin1 : JR 0 mJ0_isLatin1 [.ref 1000] w (.int (bI true)) w := by
  refine j_start (ls := [.ref 1000]) rfl ?_
  refine j_getsC rk_J0_38 iJ0_isLatin1_0 ?_
  refine j_if_eq (tgt := 17) iJ0_isLatin1_3 (by decide) (fun hno => by first | exact absurd hno (by decide) | exact absurd (by decide) hno) (fun _ => ?_)
  refine j_aload_n iJ0_isLatin1_6 rfl ?_
  refine j_getSc rk_J0_15 iJ0_isLatin1_7 ?_
  refine j_if_ne (tgt := 17) iJ0_isLatin1_10 (by decide) (fun hno => by first | exact absurd hno (by decide) | exact absurd (by decide) hno) (fun _ => ?_)
  refine j_iconst (v := nI 1) iJ0_isLatin1_13 (by decide) ?_
  refine j_goto (tgt := 18) iJ0_isLatin1_14 (by decide) ?_
  refine j_iret iJ0_isLatin1_18 rfl (by first | rfl | exact nar_bI _ | exact nar_bP) (⟨rfl, rfl⟩)
theorem c_slength : JR 1 mJ0_length [.ref 1000] w (.int (nI 5)) w := by
  refine j_start (ls := [.ref 1000]) rfl ?_
  refine j_aload_n iJ0_length_0 rfl ?_
  refine j_getSv rk_J0_9 iJ0_length_1 ?_
  refine j_alenS iJ0_length_4 ?_
  refine j_aload_n iJ0_length_5 rfl ?_
  refine j_VS0R okJ0_coder lk_J0_335 iJ0_length_6 (by omega) rfl (c_coder) rfl (Nat.le_of_ble_eq_true rfl) (Nat.le_of_ble_eq_true rfl) ?_
  refine j_ishr iJ0_length_9 ?_
  refine j_iret iJ0_length_10 rfl (by first | rfl | exact nar_bI _ | exact nar_bP) (⟨by rfl, rfl⟩)
theorem c_canEncode (c : Nat) (hc : c < 127) : JR 0 mJ1_canEncode [.int (nI c)] w (.int (bI true)) w := by
  refine j_start (ls := [.int (nI c)]) rfl ?_
  refine j_iload_n iJ1_canEncode_0 rfl ?_
  refine j_if_ltN (tgt := 15) iJ1_canEncode_1 (by decide) (by omega) (fun hno => by exfalso; omega) (fun _ => ?_)
  refine j_iload_n iJ1_canEncode_4 rfl ?_
  refine j_sipush (v := nI 255) iJ1_canEncode_5 (by decide) ?_
  refine j_icmp_gtN (tgt := 15) iJ1_canEncode_8 (by decide) (by omega) (by omega) (fun hno => by exfalso; omega) (fun _ => ?_)
  refine j_iconst (v := nI 1) iJ1_canEncode_11 (by decide) ?_
  refine j_goto (tgt := 16) iJ1_canEncode_12 (by decide) ?_
  refine j_iret iJ1_canEncode_16 rfl (by first | rfl | exact nar_bI _ | exact nar_bP) (⟨rfl, rfl⟩)
theorem c_indexOfChar (c : Nat) (hc : c < 127) : JR 0 mJ1_indexOfChar [.ref 1001, .int (nI c), .int (nI 0), .int (nI 5)] w (.int (oN (kindIx c))) w := by
  have L : ∀ (n i : Nat), i + n = 5 → J 0 mJ1_indexOfChar 7 [.ref 1001, .int (nI c), .int (nI 0), .int (nI 5), .int (nI c), .int (nI i)] [] w (fun v u => v = some (.int (oN (kxFrom c n i))) ∧ u = w) := by
    intro n
    induction n with
    | zero =>
      intro i hi
      refine j_iload iJ1_indexOfChar_7 rfl ?_
      refine j_iload_n iJ1_indexOfChar_9 rfl ?_
      refine j_icmp_geN (tgt := 31) iJ1_indexOfChar_10 (by decide) (by omega) (by omega) (fun _ => ?_) (fun hno => by exfalso; omega)
      refine j_iconst (v := (-1)) iJ1_indexOfChar_31 (by decide) ?_
      refine j_iret iJ1_indexOfChar_32 rfl (by first | rfl | exact nar_bI _ | exact nar_bP) (⟨rfl, rfl⟩)
    | succ n ih =>
      intro i hi
      have hk := kx_b ⟨i, by omega⟩
      have hk2 : kxAt i < 127 := hk
      refine j_iload iJ1_indexOfChar_7 rfl ?_
      refine j_iload_n iJ1_indexOfChar_9 rfl ?_
      refine j_icmp_geN (tgt := 31) iJ1_indexOfChar_10 (by decide) (by omega) (by omega) (fun hno => by exfalso; omega) (fun _ => ?_)
      refine j_aload_n iJ1_indexOfChar_13 rfl ?_
      refine j_iload iJ1_indexOfChar_14 rfl ?_
      refine j_baldS iJ1_indexOfChar_16 (vp_in_nI (by omega) (by decide)) (kx_ok ⟨i, by omega⟩) ?_
      refine j_iload iJ1_indexOfChar_17 rfl ?_
      refine j_icmp_neN (tgt := 25) iJ1_indexOfChar_19 (by decide) (by omega) (by omega) (fun h19 => ?_) (fun h19 => ?_)
      · refine j_iincN iJ1_indexOfChar_25 rfl (by decide) rfl ?_
        dsimp only [List.set]
        refine j_goto (tgt := 7) iJ1_indexOfChar_28 (by decide) ?_
        exact (by simpa only [kxFrom, if_neg h19] using ih (i + 1) (by omega))
      · refine j_iload iJ1_indexOfChar_22 rfl ?_
        refine j_iret iJ1_indexOfChar_24 rfl (by first | rfl | exact nar_bI _ | exact nar_bP) (⟨by simp only [kxFrom, if_pos h19]; rfl, rfl⟩)
  refine j_start (ls := [.ref 1001, .int (nI c), .int (nI 0), .int (nI 5), .null, .null]) rfl ?_
  refine j_iload_n iJ1_indexOfChar_0 rfl ?_
  refine j_i2b iJ1_indexOfChar_1 ?_
  refine j_top (y := nI c) (by exact i2b_ok ⟨c, hc⟩) ?_
  refine j_istore iJ1_indexOfChar_2 (by decide) rfl ?_
  dsimp only [List.set]
  refine j_iload_n iJ1_indexOfChar_4 rfl ?_
  refine j_istore iJ1_indexOfChar_5 (by decide) rfl ?_
  dsimp only [List.set]
  exact L 5 0 rfl
theorem c_lindexOf (c : Nat) (hc : c < 127) : JR 1 mJ1_indexOf [.ref 1001, .int (nI c), .int (nI 0), .int (nI 5)] w (.int (oN (kindIx c))) w := by
  refine j_start (ls := [.ref 1001, .int (nI c), .int (nI 0), .int (nI 5)]) rfl ?_
  refine j_iload_n iJ1_indexOf_0 rfl ?_
  refine j_S1R okJ1_canEncode lk_J1_88 iJ1_indexOf_1 (by omega) (c_canEncode c hc) rfl (Nat.le_of_ble_eq_true rfl) (Nat.le_of_ble_eq_true rfl) ?_
  refine j_if_neB (tgt := 9) iJ1_indexOf_4 (by decide) (fun _ => ?_) (fun hno => Bool.noConfusion (hno.symm.trans (show _ = true from rfl)))
  refine j_iload_n iJ1_indexOf_9 rfl ?_
  refine j_iconst (v := nI 0) iJ1_indexOf_10 (by decide) ?_
  refine j_mmaxN mk_J1_92 iJ1_indexOf_11 (by omega) (Nat.le_of_ble_eq_true rfl) (by omega) (by omega) ?_
  refine j_istore_n iJ1_indexOf_14 (by decide) rfl ?_
  dsimp only [List.set]
  refine j_iload_n iJ1_indexOf_15 rfl ?_
  refine j_aload_n iJ1_indexOf_16 rfl ?_
  refine j_alenS iJ1_indexOf_17 ?_
  refine j_top (y := nI 5) (by rfl) ?_
  refine j_mminN mk_J1_38 iJ1_indexOf_18 (by omega) (Nat.le_of_ble_eq_true rfl) (by omega) (by omega) ?_
  refine j_istore_n iJ1_indexOf_21 (by decide) rfl ?_
  dsimp only [List.set]
  refine j_iload_n iJ1_indexOf_22 rfl ?_
  refine j_iload_n iJ1_indexOf_23 rfl ?_
  refine j_icmp_ltN (tgt := 29) iJ1_indexOf_24 (by decide) (by omega) (by omega) (fun _ => ?_) (fun hno => by exfalso; omega)
  refine j_aload_n iJ1_indexOf_29 rfl ?_
  refine j_iload_n iJ1_indexOf_30 rfl ?_
  refine j_iload_n iJ1_indexOf_31 rfl ?_
  refine j_iload_n iJ1_indexOf_32 rfl ?_
  refine j_S4R okJ1_indexOfChar lk_J1_95 iJ1_indexOf_33 (by omega) (c_indexOfChar c hc) rfl (Nat.le_of_ble_eq_true rfl) (Nat.le_of_ble_eq_true rfl) ?_
  refine j_iret iJ1_indexOf_36 rfl (by first | rfl | exact nar_bI _ | exact nar_bP) (⟨rfl, rfl⟩)
theorem c_indexOf2 (c : Nat) (hc : c < 127) : JR 2 mJ0_indexOf2 [.ref 1000, .int (nI c), .int (nI 0)] w (.int (oN (kindIx c))) w := by
  refine j_start (ls := [.ref 1000, .int (nI c), .int (nI 0)]) rfl ?_
  refine j_aload_n iJ0_indexOf2_0 rfl ?_
  refine j_VS0R okJ0_isLatin1 lk_J0_492 iJ0_indexOf2_1 (by omega) rfl (c_isLatin1) rfl (Nat.le_of_ble_eq_true rfl) (Nat.le_of_ble_eq_true rfl) ?_
  refine j_if_eqB (tgt := 23) iJ0_indexOf2_4 (by decide) (fun hno => Bool.noConfusion (hno.symm.trans (show _ = true from rfl))) (fun _ => ?_)
  refine j_aload_n iJ0_indexOf2_7 rfl ?_
  refine j_getSv rk_J0_9 iJ0_indexOf2_8 ?_
  refine j_iload_n iJ0_indexOf2_11 rfl ?_
  refine j_iload_n iJ0_indexOf2_12 rfl ?_
  refine j_aload_n iJ0_indexOf2_13 rfl ?_
  refine j_VS0R okJ0_length lk_J0_505 iJ0_indexOf2_14 (by omega) rfl (c_slength) rfl (Nat.le_of_ble_eq_true rfl) (Nat.le_of_ble_eq_true rfl) ?_
  refine j_S4R okJ1_indexOf lk_J0_637 iJ0_indexOf2_17 (by omega) (c_lindexOf c hc) rfl (Nat.le_of_ble_eq_true rfl) (Nat.le_of_ble_eq_true rfl) ?_
  refine j_goto (tgt := 36) iJ0_indexOf2_20 (by decide) ?_
  refine j_iret iJ0_indexOf2_36 rfl (by first | rfl | exact nar_bI _ | exact nar_bP) (⟨rfl, rfl⟩)
theorem c_indexOf1 (c : Nat) (hc : c < 127) : JR 3 mJ0_indexOf1 [.ref 1000, .int (nI c)] w (.int (oN (kindIx c))) w := by
  refine j_start (ls := [.ref 1000, .int (nI c)]) rfl ?_
  refine j_aload_n iJ0_indexOf1_0 rfl ?_
  refine j_iload_n iJ0_indexOf1_1 rfl ?_
  refine j_iconst (v := nI 0) iJ0_indexOf1_2 (by decide) ?_
  refine j_VS2R okJ0_indexOf2 lk_J0_633 iJ0_indexOf1_3 (by omega) rfl (c_indexOf2 c hc) rfl (Nat.le_of_ble_eq_true rfl) (Nat.le_of_ble_eq_true rfl) ?_
  refine j_iret iJ0_indexOf1_6 rfl (by first | rfl | exact nar_bI _ | exact nar_bP) (⟨rfl, rfl⟩)
theorem c_kindFor (c : Nat) (hc : c < 127) : JR 4 mX2_kindFor [.int (nI c)] w (.int (oN (kindIx c))) w := by
  refine j_start (ls := [.int (nI c)]) rfl ?_
  refine j_ldcS rfl iX2_kindFor_0 ?_
  refine j_iload_n iX2_kindFor_2 rfl ?_
  refine j_i2c iX2_kindFor_3 ?_
  refine j_top (y := nI c) (by exact i2c_ok ⟨c, hc⟩) ?_
  refine j_VS1R okJ0_indexOf1 lk_X2_48 iX2_kindFor_4 (by omega) rfl (c_indexOf1 c hc) rfl (Nat.le_of_ble_eq_true rfl) (Nat.le_of_ble_eq_true rfl) ?_
  refine j_iret iX2_kindFor_7 rfl (by first | rfl | exact nar_bI _ | exact nar_bP) (⟨rfl, rfl⟩)
end
abbrev oP (sz : Nat) (cl : Int32) : mE := .inr (2, [.ref 8, .int (nI sz), .int cl])
def atF (pg : Nat → Nat) (sz k : Nat) : Int32 := if k < sz then nI (pg k) else -1
def clF (pg : Nat → Nat) (sz : Nat) : Int32 := (atF pg sz 0 - nI 48) * (atF pg sz 1 - nI 48)
section
variable {w : mW} {sz : Nat} {cl : Int32} {pg : Nat → Nat}
theorem c_at (h1 : w[1]? = some (oP sz cl)) (h8 : w[8]? = some (nA 30 pg)) (hsz : sz ≤ 30) (k : Nat) (hk : k < 2 ^ 31) : JR 0 mX2_at [.ref 1, .int (nI k)] w (.int (atF pg sz k)) w := by
  refine j_start (ls := [.ref 1, .int (nI k)]) rfl ?_
  refine j_iload_n iX2_at_0 rfl ?_
  refine j_if_ltN (tgt := 27) iX2_at_1 (by decide) (by omega) (fun hno => by exfalso; omega) (fun _ => ?_)
  refine j_iload_n iX2_at_4 rfl ?_
  refine j_aload_n iX2_at_5 rfl ?_
  refine j_get fk_X2_15 iX2_at_6 (by repeat (first | assumption | refine wset_ne (by decide) ?_ | exact wset_lt (by (try simp only [List.length_set]); exact wsome (by assumption)))) (by rfl) ?_
  refine j_icmp_geN (tgt := 27) iX2_at_9 (by decide) (by omega) (by omega) (fun h9 => ?_) (fun h9 => ?_)
  · refine j_iconst (v := (-1)) iX2_at_27 (by decide) ?_
    refine j_iret iX2_at_28 rfl (by first | rfl | exact nar_bI _ | exact nar_bP) (⟨by unfold atF; first | rw [if_pos h9] | rw [if_neg (by omega)], rfl⟩)
  · refine j_iload_n iX2_at_12 rfl ?_
    refine j_bipush (v := nI 30) iX2_at_13 (by decide) ?_
    refine j_icmp_geN (tgt := 27) iX2_at_15 (by decide) (by omega) (by omega) (fun hno => by exfalso; omega) (fun _ => ?_)
    refine j_aload_n iX2_at_18 rfl ?_
    refine j_get fk_X2_9 iX2_at_19 (by repeat (first | assumption | refine wset_ne (by decide) ?_ | exact wset_lt (by (try simp only [List.length_set]); exact wsome (by assumption)))) (by rfl) ?_
    refine j_iload_n iX2_at_22 rfl ?_
    refine j_ialdN iX2_at_23 (by repeat (first | assumption | refine wset_ne (by decide) ?_ | exact wset_lt (by (try simp only [List.length_set]); exact wsome (by assumption)))) (by omega) ?_
    refine j_goto (tgt := 28) iX2_at_24 (by decide) ?_
    refine j_iret iX2_at_28 rfl (by first | rfl | exact nar_bI _ | exact nar_bP) (⟨by unfold atF; first | rw [if_pos h9] | rw [if_neg (by omega)], rfl⟩)
theorem c_rows (h1 : w[1]? = some (oP sz cl)) (h8 : w[8]? = some (nA 30 pg)) (hsz : sz ≤ 30) : JR 1 mX2_rows [.ref 1] w (.int (atF pg sz 0 - nI 48)) w := by
  refine j_start (ls := [.ref 1]) rfl ?_
  refine j_aload_n iX2_rows_0 rfl ?_
  refine j_iconst (v := nI 0) iX2_rows_1 (by decide) ?_
  refine j_V1R okX2_at lk_X2_40 iX2_rows_2 (by omega) (by repeat (first | assumption | refine wset_ne (by decide) ?_ | exact wset_lt (by (try simp only [List.length_set]); exact wsome (by assumption)))) rfl (c_at h1 h8 hsz 0 (by decide)) rfl (Nat.le_of_ble_eq_true rfl) (Nat.le_of_ble_eq_true rfl) ?_
  refine j_bipush (v := nI 48) iX2_rows_5 (by decide) ?_
  refine j_isub iX2_rows_7 ?_
  refine j_iret iX2_rows_8 rfl (by first | rfl | exact nar_bI _ | exact nar_bP) (⟨rfl, rfl⟩)
theorem c_columns (h1 : w[1]? = some (oP sz cl)) (h8 : w[8]? = some (nA 30 pg)) (hsz : sz ≤ 30) : JR 1 mX2_columns [.ref 1] w (.int (atF pg sz 1 - nI 48)) w := by
  refine j_start (ls := [.ref 1]) rfl ?_
  refine j_aload_n iX2_columns_0 rfl ?_
  refine j_iconst (v := nI 1) iX2_columns_1 (by decide) ?_
  refine j_V1R okX2_at lk_X2_40 iX2_columns_2 (by omega) (by repeat (first | assumption | refine wset_ne (by decide) ?_ | exact wset_lt (by (try simp only [List.length_set]); exact wsome (by assumption)))) rfl (c_at h1 h8 hsz 1 (by decide)) rfl (Nat.le_of_ble_eq_true rfl) (Nat.le_of_ble_eq_true rfl) ?_
  refine j_bipush (v := nI 48) iX2_columns_5 (by decide) ?_
  refine j_isub iX2_columns_7 ?_
  refine j_iret iX2_columns_8 rfl (by first | rfl | exact nar_bI _ | exact nar_bP) (⟨rfl, rfl⟩)
theorem c_put (h1 : w[1]? = some (oP sz cl)) (h8 : w[8]? = some (nA 30 pg)) (hsz : sz < 30) (c : Nat) : JR 2 mX2_put [.ref 1, .int (nI c)] w (.int (bI true)) ((w.set 8 (nA 30 (un pg sz c))).set 1 (oP (sz + 1) (if sz + 1 = 2 then clF (un pg sz c) (sz + 1) else cl))) := by
  refine j_start (ls := [.ref 1, .int (nI c)]) rfl ?_
  have e1 : ((w.set 8 (nA 30 (un pg sz c))).set 1 (oP (sz + 1) cl))[1]? = some (oP (sz + 1) cl) := (by repeat (first | assumption | refine wset_ne (by decide) ?_ | exact wset_lt (by (try simp only [List.length_set]); exact wsome (by assumption))))
  have e8 : ((w.set 8 (nA 30 (un pg sz c))).set 1 (oP (sz + 1) cl))[8]? = some (nA 30 (un pg sz c)) := (by repeat (first | assumption | refine wset_ne (by decide) ?_ | exact wset_lt (by (try simp only [List.length_set]); exact wsome (by assumption))))
  refine j_aload_n iX2_put_0 rfl ?_
  refine j_get fk_X2_15 iX2_put_1 (by repeat (first | assumption | refine wset_ne (by decide) ?_ | exact wset_lt (by (try simp only [List.length_set]); exact wsome (by assumption)))) (by rfl) ?_
  refine j_if_ltN (tgt := 16) iX2_put_4 (by decide) (by omega) (fun hno => by exfalso; omega) (fun _ => ?_)
  refine j_aload_n iX2_put_7 rfl ?_
  refine j_get fk_X2_15 iX2_put_8 (by repeat (first | assumption | refine wset_ne (by decide) ?_ | exact wset_lt (by (try simp only [List.length_set]); exact wsome (by assumption)))) (by rfl) ?_
  refine j_bipush (v := nI 30) iX2_put_11 (by decide) ?_
  refine j_icmp_ltN (tgt := 18) iX2_put_13 (by decide) (by omega) (by omega) (fun _ => ?_) (fun hno => by exfalso; omega)
  refine j_aload_n iX2_put_18 rfl ?_
  refine j_get fk_X2_9 iX2_put_19 (by repeat (first | assumption | refine wset_ne (by decide) ?_ | exact wset_lt (by (try simp only [List.length_set]); exact wsome (by assumption)))) (by rfl) ?_
  refine j_aload_n iX2_put_22 rfl ?_
  refine j_get fk_X2_15 iX2_put_23 (by repeat (first | assumption | refine wset_ne (by decide) ?_ | exact wset_lt (by (try simp only [List.length_set]); exact wsome (by assumption)))) (by rfl) ?_
  refine j_iload_n iX2_put_26 rfl ?_
  refine j_iastN iX2_put_27 (by repeat (first | assumption | refine wset_ne (by decide) ?_ | exact wset_lt (by (try simp only [List.length_set]); exact wsome (by assumption)))) (by omega) ?_
  refine j_aload_n iX2_put_28 rfl ?_
  refine j_dup iX2_put_29 rfl ?_
  refine j_get fk_X2_15 iX2_put_30 (by repeat (first | assumption | refine wset_ne (by decide) ?_ | exact wset_lt (by (try simp only [List.length_set]); exact wsome (by assumption)))) (by rfl) ?_
  refine j_iconst (v := nI 1) iX2_put_33 (by decide) ?_
  refine j_iaddN iX2_put_34  ?_
  refine j_put fk_X2_15 iX2_put_35 (by repeat (first | assumption | refine wset_ne (by decide) ?_ | exact wset_lt (by (try simp only [List.length_set]); exact wsome (by assumption)))) (by intro; rfl) (by intro; rfl) (Nat.le_of_ble_eq_true rfl) ?_
  dsimp only [List.set]
  refine j_aload_n iX2_put_38 rfl ?_
  refine j_get fk_X2_15 iX2_put_39 (by repeat (first | assumption | refine wset_ne (by decide) ?_ | exact wset_lt (by (try simp only [List.length_set]); exact wsome (by assumption)))) (by rfl) ?_
  refine j_iconst (v := nI 2) iX2_put_42 (by decide) ?_
  refine j_icmp_neN (tgt := 59) iX2_put_43 (by decide) (by omega) (by omega) (fun h43 => ?_) (fun h43 => ?_)
  · try rw [wset2]
    refine j_iconst (v := nI 1) iX2_put_59 (by decide) ?_
    refine j_iret iX2_put_60 rfl (by first | rfl | exact nar_bI _ | exact nar_bP) (⟨rfl, by first | rw [if_pos h43]; rfl | rw [if_neg h43]⟩)
  · refine j_aload_n iX2_put_46 rfl ?_
    refine j_aload_n iX2_put_47 rfl ?_
    refine j_V0R okX2_rows lk_X2_19 iX2_put_48 (by omega) (by repeat (first | assumption | refine wset_ne (by decide) ?_ | exact wset_lt (by (try simp only [List.length_set]); exact wsome (by assumption)))) rfl (c_rows e1 e8 (by omega)) rfl (Nat.le_of_ble_eq_true rfl) (Nat.le_of_ble_eq_true rfl) ?_
    refine j_aload_n iX2_put_51 rfl ?_
    refine j_V0R okX2_columns lk_X2_23 iX2_put_52 (by omega) (by repeat (first | assumption | refine wset_ne (by decide) ?_ | exact wset_lt (by (try simp only [List.length_set]); exact wsome (by assumption)))) rfl (c_columns e1 e8 (by omega)) rfl (Nat.le_of_ble_eq_true rfl) (Nat.le_of_ble_eq_true rfl) ?_
    refine j_imul iX2_put_55 ?_
    refine j_put fk_X2_26 iX2_put_56 (by repeat (first | assumption | refine wset_ne (by decide) ?_ | exact wset_lt (by (try simp only [List.length_set]); exact wsome (by assumption)))) (by intro; rfl) (by intro; rfl) (Nat.le_of_ble_eq_true rfl) ?_
    dsimp only [List.set]
    try rw [wset2]
    refine j_iconst (v := nI 1) iX2_put_59 (by decide) ?_
    refine j_iret iX2_put_60 rfl (by first | rfl | exact nar_bI _ | exact nar_bP) (⟨rfl, by first | rw [if_pos h43]; rfl | rw [if_neg h43]⟩)
theorem c_put30 (h1 : w[1]? = some (oP 30 cl)) (x : Int32) : JR 0 mX2_put [.ref 1, .int x] w (.int (bI false)) w := by
  refine j_start (ls := [.ref 1, .int x]) rfl ?_
  refine j_aload_n iX2_put_0 rfl ?_
  refine j_get fk_X2_15 iX2_put_1 (by repeat (first | assumption | refine wset_ne (by decide) ?_ | exact wset_lt (by (try simp only [List.length_set]); exact wsome (by assumption)))) (by rfl) ?_
  refine j_if_ltN (tgt := 16) iX2_put_4 (by decide) (by omega) (fun hno => by exfalso; omega) (fun _ => ?_)
  refine j_aload_n iX2_put_7 rfl ?_
  refine j_get fk_X2_15 iX2_put_8 (by repeat (first | assumption | refine wset_ne (by decide) ?_ | exact wset_lt (by (try simp only [List.length_set]); exact wsome (by assumption)))) (by rfl) ?_
  refine j_bipush (v := nI 30) iX2_put_11 (by decide) ?_
  refine j_icmp_ltN (tgt := 18) iX2_put_13 (by decide) (by omega) (by omega) (fun hno => by exfalso; omega) (fun _ => ?_)
  refine j_iconst (v := nI 0) iX2_put_16 (by decide) ?_
  refine j_iret iX2_put_17 rfl (by first | rfl | exact nar_bI _ | exact nar_bP) (⟨rfl, rfl⟩)
theorem c_clear (h1 : w[1]? = some (oP sz cl)) : JR 0 mX2_clear [.ref 1] w (.int (nI sz)) (w.set 1 (oP 0 (nI 0))) := by
  refine j_start (ls := [.ref 1, .null]) rfl ?_
  refine j_aload_n iX2_clear_0 rfl ?_
  refine j_get fk_X2_15 iX2_clear_1 (by repeat (first | assumption | refine wset_ne (by decide) ?_ | exact wset_lt (by (try simp only [List.length_set]); exact wsome (by assumption)))) (by rfl) ?_
  refine j_istore_n iX2_clear_4 (by decide) rfl ?_
  dsimp only [List.set]
  refine j_aload_n iX2_clear_5 rfl ?_
  refine j_iconst (v := nI 0) iX2_clear_6 (by decide) ?_
  refine j_put fk_X2_15 iX2_clear_7 (by repeat (first | assumption | refine wset_ne (by decide) ?_ | exact wset_lt (by (try simp only [List.length_set]); exact wsome (by assumption)))) (by intro; rfl) (by intro; rfl) (Nat.le_of_ble_eq_true rfl) ?_
  dsimp only [List.set]
  refine j_aload_n iX2_clear_10 rfl ?_
  refine j_iconst (v := nI 0) iX2_clear_11 (by decide) ?_
  refine j_put fk_X2_26 iX2_clear_12 (by repeat (first | assumption | refine wset_ne (by decide) ?_ | exact wset_lt (by (try simp only [List.length_set]); exact wsome (by assumption)))) (by intro; rfl) (by intro; rfl) (Nat.le_of_ble_eq_true rfl) ?_
  dsimp only [List.set]
  rw [wset2]
  refine j_iload_n iX2_clear_15 rfl ?_
  refine j_iret iX2_clear_16 rfl (by first | rfl | exact nar_bI _ | exact nar_bP) (⟨rfl, rfl⟩)
theorem c_kindPlace (h1 : w[1]? = some (oP sz cl)) (x : Int32) : JR 0 mX2_kindPlace [.ref 1, .int x] w (.int (nI 3 + cl + nI 1 + nI 3 * x)) w := by
  refine j_start (ls := [.ref 1, .int x]) rfl ?_
  refine j_iconst (v := nI 3) iX2_kindPlace_0 (by decide) ?_
  refine j_aload_n iX2_kindPlace_1 rfl ?_
  refine j_get fk_X2_26 iX2_kindPlace_2 (by repeat (first | assumption | refine wset_ne (by decide) ?_ | exact wset_lt (by (try simp only [List.length_set]); exact wsome (by assumption)))) (by rfl) ?_
  refine j_iadd iX2_kindPlace_5 ?_
  refine j_iconst (v := nI 1) iX2_kindPlace_6 (by decide) ?_
  refine j_iadd iX2_kindPlace_7 ?_
  refine j_iconst (v := nI 3) iX2_kindPlace_8 (by decide) ?_
  refine j_iload_n iX2_kindPlace_9 rfl ?_
  refine j_imul iX2_kindPlace_10 ?_
  refine j_iadd iX2_kindPlace_11 ?_
  refine j_iret iX2_kindPlace_12 rfl (by first | rfl | exact nar_bI _ | exact nar_bP) (⟨rfl, rfl⟩)
end
section
variable {w : mW} {sz N : Nat} {pg : Nat → Nat}
theorem c_kindPlaceN (h1 : w[1]? = some (oP sz (nI N))) (l : Nat) : JR 0 mX2_kindPlace [.ref 1, .int (nI l)] w (.int (nI (4 + N + 3 * l))) w := by
  have h := c_kindPlace h1 (nI l)
  have e : nI 3 + nI N + nI 1 + nI 3 * nI l = nI (4 + N + 3 * l) := by
    rw [pk_mul, nI_add, nI_add, nI_add]
    congr 1; omega
  rw [e] at h
  exact h
theorem c_standOfP (h1 : w[1]? = some (oP sz (nI N))) (h8 : w[8]? = some (nA 30 pg)) (hsz : sz ≤ 30) (hN : N ≤ 12) (l : Nat) (hl : l < 100) : JR 1 mX2_standOf [.ref 1, .int (nI l)] w (.int (atF pg sz (4 + N + 3 * l + 1) - nI 97)) w := by
  refine j_start (ls := [.ref 1, .int (nI l)]) rfl ?_
  refine j_aload_n iX2_standOf_0 rfl ?_
  refine j_aload_n iX2_standOf_1 rfl ?_
  refine j_iload_n iX2_standOf_2 rfl ?_
  refine j_V1R okX2_kindPlace lk_X2_33 iX2_standOf_3 (by omega) (by repeat (first | assumption | refine wset_ne (by decide) ?_ | exact wset_lt (by (try simp only [List.length_set]); exact wsome (by assumption)))) rfl (c_kindPlaceN h1 l) rfl (Nat.le_of_ble_eq_true rfl) (Nat.le_of_ble_eq_true rfl) ?_
  refine j_iconst (v := nI 1) iX2_standOf_6 (by decide) ?_
  refine j_iaddN iX2_standOf_7  ?_
  refine j_V1R okX2_at lk_X2_40 iX2_standOf_8 (by omega) (by repeat (first | assumption | refine wset_ne (by decide) ?_ | exact wset_lt (by (try simp only [List.length_set]); exact wsome (by assumption)))) rfl (c_at h1 h8 hsz _ (by omega)) rfl (Nat.le_of_ble_eq_true rfl) (Nat.le_of_ble_eq_true rfl) ?_
  refine j_bipush (v := nI 97) iX2_standOf_11 (by decide) ?_
  refine j_isub iX2_standOf_13 ?_
  refine j_iret iX2_standOf_14 rfl (by first | rfl | exact nar_bI _ | exact nar_bP) (⟨rfl, rfl⟩)
def freeStep (pg : Nat → Nat) (c r : Nat) : Nat := if pg (3 + c) = 46 then r ||| 2 ^ c else r
def freeF (pg : Nat → Nat) (N : Nat) : Nat := fold (freeStep pg) N 0 0
theorem c_freeCells (h1 : w[1]? = some (oP sz (nI N))) (h8 : w[8]? = some (nA 30 pg)) (hsz : sz ≤ 30) (hN : N ≤ 12) (hN2 : 3 + N ≤ sz) (hpg : ∀ i, pg i < 127) : JR 1 mX2_freeCells [.ref 1] w (.int (nI (freeF pg N))) w := by
  have L : ∀ (n c r : Nat), c + n = N → J 1 mX2_freeCells 4 [.ref 1, .int (nI r), .int (nI c)] [] w (fun v u => v = some (.int (nI (fold (freeStep pg) n c r))) ∧ u = w) := by
    intro n
    induction n with
    | zero =>
      intro c r hc
      refine j_iload_n iX2_freeCells_4 rfl ?_
      refine j_aload_n iX2_freeCells_5 rfl ?_
      refine j_get fk_X2_26 iX2_freeCells_6 (by repeat (first | assumption | refine wset_ne (by decide) ?_ | exact wset_lt (by (try simp only [List.length_set]); exact wsome (by assumption)))) (by rfl) ?_
      refine j_icmp_geN (tgt := 36) iX2_freeCells_9 (by decide) (by omega) (by omega) (fun _ => ?_) (fun hno => by exfalso; omega)
      refine j_iload_n iX2_freeCells_36 rfl ?_
      refine j_iret iX2_freeCells_37 rfl (by first | rfl | exact nar_bI _ | exact nar_bP) (⟨rfl, rfl⟩)
    | succ n ih =>
      intro c r hc
      have hp := hpg (3 + c)
      refine j_iload_n iX2_freeCells_4 rfl ?_
      refine j_aload_n iX2_freeCells_5 rfl ?_
      refine j_get fk_X2_26 iX2_freeCells_6 (by repeat (first | assumption | refine wset_ne (by decide) ?_ | exact wset_lt (by (try simp only [List.length_set]); exact wsome (by assumption)))) (by rfl) ?_
      refine j_icmp_geN (tgt := 36) iX2_freeCells_9 (by decide) (by omega) (by omega) (fun hno => by exfalso; omega) (fun _ => ?_)
      refine j_aload_n iX2_freeCells_12 rfl ?_
      refine j_iconst (v := nI 3) iX2_freeCells_13 (by decide) ?_
      refine j_iload_n iX2_freeCells_14 rfl ?_
      refine j_iaddN iX2_freeCells_15  ?_
      refine j_V1R okX2_at lk_X2_40 iX2_freeCells_16 (by omega) (by repeat (first | assumption | refine wset_ne (by decide) ?_ | exact wset_lt (by (try simp only [List.length_set]); exact wsome (by assumption)))) rfl (c_at h1 h8 hsz (3 + c) (by omega)) rfl (Nat.le_of_ble_eq_true rfl) (Nat.le_of_ble_eq_true rfl) ?_
      rw [show atF pg sz (3 + c) = nI (pg (3 + c)) from if_pos (by omega)]
      refine j_bipush (v := nI 46) iX2_freeCells_19 (by decide) ?_
      refine j_icmp_neN (tgt := 30) iX2_freeCells_21 (by decide) (by omega) (by omega) (fun h21 => ?_) (fun h21 => ?_)
      · refine j_iincN iX2_freeCells_30 rfl (by decide) rfl ?_
        dsimp only [List.set]
        refine j_goto (tgt := 4) iX2_freeCells_33 (by decide) ?_
        first | exact (by simpa only [fold, freeStep, if_neg h21] using ih (c + 1) r (by omega)) | exact (by simpa only [fold, freeStep, if_pos h21] using ih (c + 1) (r ||| 2 ^ c) (by omega))
      · refine j_iload_n iX2_freeCells_24 rfl ?_
        refine j_iconst (v := nI 1) iX2_freeCells_25 (by decide) ?_
        refine j_iload_n iX2_freeCells_26 rfl ?_
        refine j_ishlN iX2_freeCells_27 (by omega) ?_
        refine j_iorN iX2_freeCells_28  ?_
        refine j_istore_n iX2_freeCells_29 (by decide) rfl ?_
        dsimp only [List.set]
        refine j_iincN iX2_freeCells_30 rfl (by decide) rfl ?_
        dsimp only [List.set]
        refine j_goto (tgt := 4) iX2_freeCells_33 (by decide) ?_
        first | exact (by simpa only [fold, freeStep, if_neg h21] using ih (c + 1) r (by omega)) | exact (by simpa only [fold, freeStep, if_pos h21] using ih (c + 1) (r ||| 2 ^ c) (by omega))
  refine j_start (ls := [.ref 1, .null, .null]) rfl ?_
  refine j_iconst (v := nI 0) iX2_freeCells_0 (by decide) ?_
  refine j_istore_n iX2_freeCells_1 (by decide) rfl ?_
  dsimp only [List.set]
  refine j_iconst (v := nI 0) iX2_freeCells_2 (by decide) ?_
  refine j_istore_n iX2_freeCells_3 (by decide) rfl ?_
  dsimp only [List.set]
  exact L N 0 0 (by omega)
theorem c_leapers (h1 : w[1]? = some (oP sz (nI N))) (hsz : sz ≤ 30) (hN : 4 + N ≤ sz) : JR 1 mX2_leapers [.ref 1] w (.int (nI ((sz - (4 + N) + 1) / 3))) w := by
  refine j_start (ls := [.ref 1]) rfl ?_
  refine j_aload_n iX2_leapers_0 rfl ?_
  refine j_get fk_X2_15 iX2_leapers_1 (by repeat (first | assumption | refine wset_ne (by decide) ?_ | exact wset_lt (by (try simp only [List.length_set]); exact wsome (by assumption)))) (by rfl) ?_
  refine j_aload_n iX2_leapers_4 rfl ?_
  refine j_iconst (v := nI 0) iX2_leapers_5 (by decide) ?_
  refine j_V1R okX2_kindPlace lk_X2_33 iX2_leapers_6 (by omega) (by repeat (first | assumption | refine wset_ne (by decide) ?_ | exact wset_lt (by (try simp only [List.length_set]); exact wsome (by assumption)))) rfl (c_kindPlaceN h1 0) rfl (Nat.le_of_ble_eq_true rfl) (Nat.le_of_ble_eq_true rfl) ?_
  refine j_isubN iX2_leapers_9 (by omega) ?_
  refine j_iconst (v := nI 1) iX2_leapers_10 (by decide) ?_
  refine j_iaddN iX2_leapers_11  ?_
  refine j_iconst (v := nI 3) iX2_leapers_12 (by decide) ?_
  refine j_idivN iX2_leapers_13 (by omega) (by omega) (by omega) ?_
  refine j_iret iX2_leapers_14 rfl (by first | rfl | exact nar_bI _ | exact nar_bP) (⟨rfl, rfl⟩)
theorem c_kindOfP (h1 : w[1]? = some (oP sz (nI N))) (h8 : w[8]? = some (nA 30 pg)) (hsz : sz ≤ 30) (hN : N ≤ 12) (hpg : ∀ i, pg i < 127) (l : Nat) (hl : 4 + N + 3 * l < sz) : JR 5 mX2_kindOf [.ref 1, .int (nI l)] w (.int (oN (kindIx (pg (4 + N + 3 * l))))) w := by
  refine j_start (ls := [.ref 1, .int (nI l)]) rfl ?_
  refine j_aload_n iX2_kindOf_0 rfl ?_
  refine j_aload_n iX2_kindOf_1 rfl ?_
  refine j_iload_n iX2_kindOf_2 rfl ?_
  refine j_V1R okX2_kindPlace lk_X2_33 iX2_kindOf_3 (by omega) (by repeat (first | assumption | refine wset_ne (by decide) ?_ | exact wset_lt (by (try simp only [List.length_set]); exact wsome (by assumption)))) rfl (c_kindPlaceN h1 l) rfl (Nat.le_of_ble_eq_true rfl) (Nat.le_of_ble_eq_true rfl) ?_
  refine j_V1R okX2_at lk_X2_40 iX2_kindOf_6 (by omega) (by repeat (first | assumption | refine wset_ne (by decide) ?_ | exact wset_lt (by (try simp only [List.length_set]); exact wsome (by assumption)))) rfl (c_at h1 h8 hsz _ (by omega)) rfl (Nat.le_of_ble_eq_true rfl) (Nat.le_of_ble_eq_true rfl) ?_
  rw [show atF pg sz (4 + N + 3 * l) = nI (pg (4 + N + 3 * l)) from if_pos hl]
  refine j_S1R okX2_kindFor lk_X2_43 iX2_kindOf_9 (by omega) (c_kindFor _ (hpg _)) rfl (Nat.le_of_ble_eq_true rfl) (Nat.le_of_ble_eq_true rfl) ?_
  refine j_iret iX2_kindOf_12 rfl (by first | rfl | exact nar_bI _ | exact nar_bP) (⟨rfl, rfl⟩)
/-- whether the cell of leaper l (its letter stands at 4+N+3l+1) is free, and nobody's ahead -/
def openFrom (pg : Nat → Nat) (N c : Nat) : Nat → Nat → Bool
  | 0, _ => true
  | n + 1, i => if pg (4 + N + 3 * i + 1) = c then false else openFrom pg N c n (i + 1)
def openF (pg : Nat → Nat) (N l : Nat) : Bool :=
  if 97 ≤ pg (4 + N + 3 * l + 1) ∧ pg (4 + N + 3 * l + 1) < 97 + N ∧ pg (3 + (pg (4 + N + 3 * l + 1) - 97)) = 46 then openFrom pg N (pg (4 + N + 3 * l + 1)) (min l 4) 0 else false
theorem c_isOpenTo (h1 : w[1]? = some (oP sz (nI N))) (h8 : w[8]? = some (nA 30 pg)) (hsz : sz ≤ 30) (hN : N ≤ 12) (hpg : ∀ i, pg i < 127) (l : Nat) (hl : 4 + N + 3 * l + 1 < sz) : JR 2 mX2_isOpenTo [.ref 1, .int (nI l)] w (.int (bI (openF pg N l))) w := by
  have hat : ∀ i, i ≤ l → atF pg sz (4 + N + 3 * i + 1) = nI (pg (4 + N + 3 * i + 1)) := fun i hi => if_pos (by omega)
  have hc := hpg (4 + N + 3 * l + 1)
  refine j_start (ls := [.ref 1, .int (nI l), .null, .null]) rfl ?_
  by_cases hlo : 97 ≤ pg (4 + N + 3 * l + 1)
  · have L : ∀ (n i : Nat), i + n = min l 4 → J 2 mX2_isOpenTo 34 [.ref 1, .int (nI l), .int (nI (pg (4 + N + 3 * l + 1) - 97)), .int (nI i)] [] w (fun v u => v = some (.int (bI (openFrom pg N (pg (4 + N + 3 * l + 1)) n i))) ∧ u = w) := by
      intro n
      induction n with
      | zero =>
        intro i hi
        refine j_iload_n iX2_isOpenTo_34 rfl ?_
        refine j_iload_n iX2_isOpenTo_35 rfl ?_
        refine j_icmp_geN (tgt := 61) iX2_isOpenTo_36 (by decide) (by omega) (by omega) (fun h36 => ?_) (fun h36 => ?_)
        · refine j_iconst (v := nI 1) iX2_isOpenTo_61 (by decide) ?_
          refine j_iret iX2_isOpenTo_62 rfl (by first | rfl | exact nar_bI _ | exact nar_bP) (⟨rfl, rfl⟩)
        · refine j_iload_n iX2_isOpenTo_39 rfl ?_
          refine j_iconst (v := nI 4) iX2_isOpenTo_40 (by decide) ?_
          refine j_icmp_geN (tgt := 61) iX2_isOpenTo_41 (by decide) (by omega) (by omega) (fun _ => ?_) (fun hno => by exfalso; omega)
          refine j_iconst (v := nI 1) iX2_isOpenTo_61 (by decide) ?_
          refine j_iret iX2_isOpenTo_62 rfl (by first | rfl | exact nar_bI _ | exact nar_bP) (⟨rfl, rfl⟩)
      | succ n ih =>
        intro i hi
        have hi2 : i < l ∧ i < 4 := by omega
        have hci := hpg (4 + N + 3 * i + 1)
        by_cases he : pg (4 + N + 3 * i + 1) = pg (4 + N + 3 * l + 1)
        · refine j_iload_n iX2_isOpenTo_34 rfl ?_
          refine j_iload_n iX2_isOpenTo_35 rfl ?_
          refine j_icmp_geN (tgt := 61) iX2_isOpenTo_36 (by decide) (by omega) (by omega) (fun hno => by exfalso; omega) (fun _ => ?_)
          refine j_iload_n iX2_isOpenTo_39 rfl ?_
          refine j_iconst (v := nI 4) iX2_isOpenTo_40 (by decide) ?_
          refine j_icmp_geN (tgt := 61) iX2_isOpenTo_41 (by decide) (by omega) (by omega) (fun hno => by exfalso; omega) (fun _ => ?_)
          refine j_aload_n iX2_isOpenTo_44 rfl ?_
          refine j_iload_n iX2_isOpenTo_45 rfl ?_
          refine j_V1R okX2_standOf lk_X2_56 iX2_isOpenTo_46 (by omega) (by repeat (first | assumption | refine wset_ne (by decide) ?_ | exact wset_lt (by (try simp only [List.length_set]); exact wsome (by assumption)))) rfl (c_standOfP h1 h8 hsz hN i (by omega)) rfl (Nat.le_of_ble_eq_true rfl) (Nat.le_of_ble_eq_true rfl) ?_
          rw [hat i (by omega), he, pk_sub hlo]
          refine j_iload_n iX2_isOpenTo_49 rfl ?_
          refine j_icmp_neN (tgt := 55) iX2_isOpenTo_50 (by decide) (by omega) (by omega) (fun hno => by exfalso; omega) (fun _ => ?_)
          refine j_iconst (v := nI 0) iX2_isOpenTo_53 (by decide) ?_
          refine j_iret iX2_isOpenTo_54 rfl (by first | rfl | exact nar_bI _ | exact nar_bP) (⟨by simp only [openFrom, if_pos he]; rfl, rfl⟩)
        · have hne : nI (pg (4 + N + 3 * i + 1)) - nI 97 ≠ nI (pg (4 + N + 3 * l + 1) - 97) := by
            rw [← pk_sub hlo]
            intro z
            have z2 := congrArg (· + nI 97) z
            simp only [Int32.sub_add_cancel] at z2
            exact he ((nI_eq (by omega) (by omega)).mp z2)
          refine j_iload_n iX2_isOpenTo_34 rfl ?_
          refine j_iload_n iX2_isOpenTo_35 rfl ?_
          refine j_icmp_geN (tgt := 61) iX2_isOpenTo_36 (by decide) (by omega) (by omega) (fun hno => by exfalso; omega) (fun _ => ?_)
          refine j_iload_n iX2_isOpenTo_39 rfl ?_
          refine j_iconst (v := nI 4) iX2_isOpenTo_40 (by decide) ?_
          refine j_icmp_geN (tgt := 61) iX2_isOpenTo_41 (by decide) (by omega) (by omega) (fun hno => by exfalso; omega) (fun _ => ?_)
          refine j_aload_n iX2_isOpenTo_44 rfl ?_
          refine j_iload_n iX2_isOpenTo_45 rfl ?_
          refine j_V1R okX2_standOf lk_X2_56 iX2_isOpenTo_46 (by omega) (by repeat (first | assumption | refine wset_ne (by decide) ?_ | exact wset_lt (by (try simp only [List.length_set]); exact wsome (by assumption)))) rfl (c_standOfP h1 h8 hsz hN i (by omega)) rfl (Nat.le_of_ble_eq_true rfl) (Nat.le_of_ble_eq_true rfl) ?_
          rw [hat i (by omega)]
          refine j_iload_n iX2_isOpenTo_49 rfl ?_
          refine j_icmp_ne (tgt := 55) iX2_isOpenTo_50 (by decide) (fun _ => ?_) (fun hno => by first | exact absurd hno (hne) | exact absurd (hne) hno)
          refine j_iincN iX2_isOpenTo_55 rfl (by decide) rfl ?_
          dsimp only [List.set]
          refine j_goto (tgt := 34) iX2_isOpenTo_58 (by decide) ?_
          exact (by simpa only [openFrom, if_neg he] using ih (i + 1) (by omega))
    refine j_aload_n iX2_isOpenTo_0 rfl ?_
    refine j_iload_n iX2_isOpenTo_1 rfl ?_
    refine j_V1R okX2_standOf lk_X2_56 iX2_isOpenTo_2 (by omega) (by repeat (first | assumption | refine wset_ne (by decide) ?_ | exact wset_lt (by (try simp only [List.length_set]); exact wsome (by assumption)))) rfl (c_standOfP h1 h8 hsz hN l (by omega)) rfl (Nat.le_of_ble_eq_true rfl) (Nat.le_of_ble_eq_true rfl) ?_
    rw [hat l (Nat.le_refl _), pk_sub hlo]
    refine j_istore_n iX2_isOpenTo_5 (by decide) rfl ?_
    dsimp only [List.set]
    refine j_iload_n iX2_isOpenTo_6 rfl ?_
    refine j_if_ltN (tgt := 30) iX2_isOpenTo_7 (by decide) (by omega) (fun hno => by exfalso; omega) (fun _ => ?_)
    refine j_iload_n iX2_isOpenTo_10 rfl ?_
    refine j_aload_n iX2_isOpenTo_11 rfl ?_
    refine j_get fk_X2_26 iX2_isOpenTo_12 (by repeat (first | assumption | refine wset_ne (by decide) ?_ | exact wset_lt (by (try simp only [List.length_set]); exact wsome (by assumption)))) (by rfl) ?_
    refine j_icmp_geN (tgt := 30) iX2_isOpenTo_15 (by decide) (by omega) (by omega) (fun h15 => ?_) (fun h15 => ?_)
    · refine j_iconst (v := nI 0) iX2_isOpenTo_30 (by decide) ?_
      refine j_iret iX2_isOpenTo_31 rfl (by first | rfl | exact nar_bI _ | exact nar_bP) (⟨by unfold openF; first | rw [if_neg (fun z => absurd z.2.1 (by omega))]; rfl | rw [if_neg (fun z => h27 z.2.2)]; rfl, rfl⟩)
    · refine j_aload_n iX2_isOpenTo_18 rfl ?_
      refine j_iconst (v := nI 3) iX2_isOpenTo_19 (by decide) ?_
      refine j_iload_n iX2_isOpenTo_20 rfl ?_
      refine j_iaddN iX2_isOpenTo_21  ?_
      refine j_V1R okX2_at lk_X2_40 iX2_isOpenTo_22 (by omega) (by repeat (first | assumption | refine wset_ne (by decide) ?_ | exact wset_lt (by (try simp only [List.length_set]); exact wsome (by assumption)))) rfl (c_at h1 h8 hsz _ (by omega)) rfl (Nat.le_of_ble_eq_true rfl) (Nat.le_of_ble_eq_true rfl) ?_
      rw [show atF pg sz (3 + (pg (4 + N + 3 * l + 1) - 97)) = nI (pg (3 + (pg (4 + N + 3 * l + 1) - 97))) from if_pos (by omega)]
      have hq46 := hpg (3 + (pg (4 + N + 3 * l + 1) - 97))
      refine j_bipush (v := nI 46) iX2_isOpenTo_25 (by decide) ?_
      refine j_icmp_eqN (tgt := 32) iX2_isOpenTo_27 (by decide) (by omega) (by omega) (fun h27 => ?_) (fun h27 => ?_)
      · refine j_iconst (v := nI 0) iX2_isOpenTo_32 (by decide) ?_
        refine j_istore_n iX2_isOpenTo_33 (by decide) rfl ?_
        dsimp only [List.set]
        exact (by unfold openF; rw [if_pos ⟨hlo, by omega, h27⟩]; exact L (min l 4) 0 (by omega))
      · refine j_iconst (v := nI 0) iX2_isOpenTo_30 (by decide) ?_
        refine j_iret iX2_isOpenTo_31 rfl (by first | rfl | exact nar_bI _ | exact nar_bP) (⟨by unfold openF; first | rw [if_neg (fun z => absurd z.2.1 (by omega))]; rfl | rw [if_neg (fun z => h27 z.2.2)]; rfl, rfl⟩)
  · have hlt : nI (pg (4 + N + 3 * l + 1)) - nI 97 < 0 := pk_sneg (by decide) (by omega)
    refine j_aload_n iX2_isOpenTo_0 rfl ?_
    refine j_iload_n iX2_isOpenTo_1 rfl ?_
    refine j_V1R okX2_standOf lk_X2_56 iX2_isOpenTo_2 (by omega) (by repeat (first | assumption | refine wset_ne (by decide) ?_ | exact wset_lt (by (try simp only [List.length_set]); exact wsome (by assumption)))) rfl (c_standOfP h1 h8 hsz hN l (by omega)) rfl (Nat.le_of_ble_eq_true rfl) (Nat.le_of_ble_eq_true rfl) ?_
    rw [hat l (Nat.le_refl _)]
    refine j_istore_n iX2_isOpenTo_5 (by decide) rfl ?_
    dsimp only [List.set]
    refine j_iload_n iX2_isOpenTo_6 rfl ?_
    refine j_if_lt (tgt := 30) iX2_isOpenTo_7 (by decide) (fun _ => ?_) (fun hno => by first | exact absurd hno (hlt) | exact absurd (hlt) hno)
    refine j_iconst (v := nI 0) iX2_isOpenTo_30 (by decide) ?_
    refine j_iret iX2_isOpenTo_31 rfl (by first | rfl | exact nar_bI _ | exact nar_bP) (⟨by unfold openF; rw [if_neg (fun z => hlo z.1)]; rfl, rfl⟩)
end
