theorem u_oi : Cond.instanceMethod objectInit ∈ UW := uw 83 (by decide +kernel) (by decide +kernel)
theorem u_oc : Cond.code objectInit ⟨#[0xb1]⟩ 1 none ∈ UW := uw 84 (by decide +kernel) (by decide +kernel)
theorem u_ai : Cond.arrayClass .int ∈ UW := uw 102 (by decide +kernel) (by decide +kernel)
theorem u_ab : Cond.arrayClass .byte ∈ UW := uw 370 (by decide +kernel) (by decide +kernel)
theorem u_ar : Cond.classLink RX1 9 "[[I" ∈ UW := uw 109 (by decide +kernel) (by decide +kernel)
theorem u_oX0 : Cond.methodLink RX0 1 objectInit ∈ UW := uw 194 (by decide +kernel) (by decide +kernel)
theorem u_nX0 : Cond.instantiable RX0 1 ∈ UW := uw 190 (by decide +kernel) (by decide +kernel)
theorem u_iX0 : Cond.initialized RX0 ∈ UW := uw 68 (by decide +kernel) (by decide +kernel)
abbrev fsX0 : List Value := [.int 0]
theorem dfX0 : ∀ j, j < 1 → defaultValue (tyX0 j) = vp_V fsX0 j := by decide +kernel
theorem u_oX1 : Cond.methodLink RX1 3 objectInit ∈ UW := uw 108 (by decide +kernel) (by decide +kernel)
theorem u_nX1 : Cond.instantiable RX1 4 ∈ UW := uw 104 (by decide +kernel) (by decide +kernel)
theorem u_iX1 : Cond.initialized RX1 ∈ UW := uw 65 (by decide +kernel) (by decide +kernel)
abbrev fsX1 : List Value := [.int 0, .int 0, .int 0, .null]
theorem dfX1 : ∀ j, j < 4 → defaultValue (tyX1 j) = vp_V fsX1 j := by decide +kernel
theorem u_oX2 : Cond.methodLink RX2 3 objectInit ∈ UW := uw 90 (by decide +kernel) (by decide +kernel)
theorem u_nX2 : Cond.instantiable RX2 3 ∈ UW := uw 86 (by decide +kernel) (by decide +kernel)
theorem u_iX2 : Cond.initialized RX2 ∈ UW := uw 64 (by decide +kernel) (by decide +kernel)
abbrev fsX2 : List Value := [.null, .int 0, .int 0]
theorem dfX2 : ∀ j, j < 3 → defaultValue (tyX2 j) = vp_V fsX2 j := by decide +kernel
theorem u_oX3 : Cond.methodLink RX3 3 objectInit ∈ UW := uw 132 (by decide +kernel) (by decide +kernel)
theorem u_nX3 : Cond.instantiable RX3 8 ∈ UW := uw 128 (by decide +kernel) (by decide +kernel)
theorem u_iX3 : Cond.initialized RX3 ∈ UW := uw 66 (by decide +kernel) (by decide +kernel)
abbrev fsX3 : List Value := [.int 0, .int 0, .int 0, .int 0, .null, .null, .null, .null]
theorem dfX3 : ∀ j, j < 8 → defaultValue (tyX3 j) = vp_V fsX3 j := by decide +kernel
theorem u_oX4 : Cond.methodLink RX4 3 objectInit ∈ UW := uw 169 (by decide +kernel) (by decide +kernel)
theorem u_nX4 : Cond.instantiable RX4 6 ∈ UW := uw 165 (by decide +kernel) (by decide +kernel)
theorem u_iX4 : Cond.initialized RX4 ∈ UW := uw 67 (by decide +kernel) (by decide +kernel)
abbrev fsX4 : List Value := [.null, .null, .null, .null, .null, .null]
theorem dfX4 : ∀ j, j < 6 → defaultValue (tyX4 j) = vp_V fsX4 j := by decide +kernel
theorem u_oX5 : Cond.methodLink RX5 1 objectInit ∈ UW := uw 82 (by decide +kernel) (by decide +kernel)
theorem u_nX5 : Cond.instantiable RX5 9 ∈ UW := uw 78 (by decide +kernel) (by decide +kernel)
theorem u_iX5 : Cond.initialized RX5 ∈ UW := uw 63 (by decide +kernel) (by decide +kernel)
abbrev fsX5 : List Value := [.null, .null, .null, .null, .null, .null, .null, .int 0, .int 0]
theorem dfX5 : ∀ j, j < 9 → defaultValue (tyX5 j) = vp_V fsX5 j := by decide +kernel
theorem u_oX6 : Cond.methodLink RX6 1 objectInit ∈ UW := uw 703 (by decide +kernel) (by decide +kernel)
theorem u_nX6 : Cond.instantiable RX6 39 ∈ UW := uw 699 (by decide +kernel) (by decide +kernel)
theorem u_iX6 : Cond.initialized RX6 ∈ UW := uw 69 (by decide +kernel) (by decide +kernel)
abbrev fsX6 : List Value := [.int 0, .int 0, .int 0, .int 0, .int 0, .null, .null, .int 0, .int 0, .null, .null, .null, .null, .int 0, .null, .int 0, .int 0, .int 0, .int 0, .null, .null, .int 0, .null, .null, .null, .long 0, .null, .int 0, .int 0, .int 0, .int 0, .int 0, .null, .null, .null, .null, .null, .null, .long 0]
theorem dfX6 : ∀ j, j < 39 → defaultValue (tyX6 j) = vp_V fsX6 j := by decide +kernel
theorem u_cX2 : Cond.classLink RX5 7 RX2 ∈ UW := uw 85 (by decide +kernel) (by decide +kernel)
theorem u_cX1 : Cond.classLink RX5 16 RX1 ∈ UW := uw 103 (by decide +kernel) (by decide +kernel)
theorem u_cX3 : Cond.classLink RX5 23 RX3 ∈ UW := uw 127 (by decide +kernel) (by decide +kernel)
theorem u_cX4 : Cond.classLink RX5 36 RX4 ∈ UW := uw 164 (by decide +kernel) (by decide +kernel)
theorem u_cX0 : Cond.classLink RX5 43 RX0 ∈ UW := uw 189 (by decide +kernel) (by decide +kernel)
/-- what the constructor makes -/
def w1X0 (dA : Nat → ClassId) (h0 : Nat) (u : List Nat) : va_W := [(h0, .inr (0, [.int 0]))]
set_option maxHeartbeats 4000000 in
set_option maxRecDepth 100000 in
theorem metX0_init : NMet 1 mX0_init 0 0 (fun h0 => [(h0, .inr (0, fsX0))]) w1X0 := by
  refine n_met (d := 1) okX0_init.1 rfl rfl ?_
  intro p l e s m args below meth c D dA A h0 arr C hin hA hz h0v
  refine n_aload C iX0_init_0 h0v ?_
  refine n_obj C u_oX0 u_oi u_oc hz iX0_init_1 ⟨Nat.le_of_ble_eq_true rfl, Nat.le_of_ble_eq_true rfl⟩ ?_
  exact n_ret (W1 := w1X0 dA h0) [] C iX0_init_4 rfl rfl ⟨Nat.le_of_ble_eq_true rfl, Nat.le_of_ble_eq_true rfl⟩
/-- what the constructor makes -/
def w1X1 (dA : Nat → ClassId) (h0 : Nat) (u : List Nat) : va_W := ([(h0, .inr (1, [.int 0, .int 0, .int 0, .ref (u.getD 0 0)]))]) ++ gmW (dA 0) (dA 2) (u.getD 0 0)
set_option maxHeartbeats 4000000 in
set_option maxRecDepth 100000 in
theorem metX1_init : NMet 1 mX1_init 6 65 (fun h0 => [(h0, .inr (1, fsX1))]) w1X1 := by
  refine n_met (d := 1) okX1_init.1 rfl rfl ?_
  intro p l e s m args below meth c D dA A h0 arr C hin hA hz h0v
  refine n_aload C iX1_init_0 h0v ?_
  refine n_obj C u_oX1 u_oi u_oc hz iX1_init_1 ⟨Nat.le_of_ble_eq_true rfl, Nat.le_of_ble_eq_true rfl⟩ ?_
  refine n_aload C iX1_init_4 h0v ?_
  refine n_iconst (v := 5) C iX1_init_5 (by decide) ?_
  refine n_bipush (v := 12) C iX1_init_6 (by decide) ?_
  refine n_row C hA u_ar u_ai iX1_init_8 ⟨Nat.le_of_ble_eq_true rfl, Nat.le_of_ble_eq_true rfl⟩ (fun q0 => ?_)
  refine n_putF C hin fk_X1_11 (by rintro _ _ _ ⟨⟩; rfl) iX1_init_12 rfl rfl (show 3 < 4 by decide) ?_
  dsimp only [List.set]
  exact n_ret (W1 := w1X1 dA h0) [q0] C iX1_init_15 rfl rfl ⟨Nat.le_of_ble_eq_true rfl, Nat.le_of_ble_eq_true rfl⟩
/-- what the constructor makes -/
def w1X2 (dA : Nat → ClassId) (h0 : Nat) (u : List Nat) : va_W := ([(h0, .inr (2, [.ref (u.getD 0 0), .int 0, .int 0]))]) ++ [((u.getD 0 0), .inl (dA 0, 30, .inl (fun _ => 0)))]
set_option maxHeartbeats 4000000 in
set_option maxRecDepth 100000 in
theorem metX2_init : NMet 1 mX2_init 1 30 (fun h0 => [(h0, .inr (2, fsX2))]) w1X2 := by
  refine n_met (d := 1) okX2_init.1 rfl rfl ?_
  intro p l e s m args below meth c D dA A h0 arr C hin hA hz h0v
  refine n_aload C iX2_init_0 h0v ?_
  refine n_obj C u_oX2 u_oi u_oc hz iX2_init_1 ⟨Nat.le_of_ble_eq_true rfl, Nat.le_of_ble_eq_true rfl⟩ ?_
  refine n_aload C iX2_init_4 h0v ?_
  refine n_bipush (v := 30) C iX2_init_5 (by decide) ?_
  refine n_newi (M := 30) C hA u_ai iX2_init_7 (by decide) (by decide) (by decide) ⟨Nat.le_of_ble_eq_true rfl, Nat.le_of_ble_eq_true rfl⟩ (fun q0 => ?_)
  refine n_putF C hin fk_X2_9 (by rintro _ _ _ ⟨⟩; rfl) iX2_init_9 rfl rfl (show 0 < 3 by decide) ?_
  dsimp only [List.set]
  exact n_ret (W1 := w1X2 dA h0) [q0] C iX2_init_12 rfl rfl ⟨Nat.le_of_ble_eq_true rfl, Nat.le_of_ble_eq_true rfl⟩
/-- what the constructor makes -/
def w1X3 (dA : Nat → ClassId) (h0 : Nat) (u : List Nat) : va_W := (((([(h0, .inr (3, [.int 0, .int 0, .int 0, .int 0, .ref (u.getD 0 0), .ref (u.getD 1 0), .ref (u.getD 2 0), .ref (u.getD 3 0)]))]) ++ [((u.getD 0 0), .inl (dA 0, 4, .inl (fun _ => 0)))]) ++ [((u.getD 1 0), .inl (dA 0, 4, .inl (fun _ => 0)))]) ++ [((u.getD 2 0), .inl (dA 0, 6, .inl (fun _ => 0)))]) ++ [((u.getD 3 0), .inl (dA 0, 6, .inl (fun _ => 0)))]
set_option maxHeartbeats 4000000 in
set_option maxRecDepth 100000 in
theorem metX3_init : NMet 1 mX3_init 4 20 (fun h0 => [(h0, .inr (3, fsX3))]) w1X3 := by
  refine n_met (d := 1) okX3_init.1 rfl rfl ?_
  intro p l e s m args below meth c D dA A h0 arr C hin hA hz h0v
  refine n_aload C iX3_init_0 h0v ?_
  refine n_obj C u_oX3 u_oi u_oc hz iX3_init_1 ⟨Nat.le_of_ble_eq_true rfl, Nat.le_of_ble_eq_true rfl⟩ ?_
  refine n_aload C iX3_init_4 h0v ?_
  refine n_iconst (v := 4) C iX3_init_5 (by decide) ?_
  refine n_newi (M := 4) C hA u_ai iX3_init_6 (by decide) (by decide) (by decide) ⟨Nat.le_of_ble_eq_true rfl, Nat.le_of_ble_eq_true rfl⟩ (fun q0 => ?_)
  refine n_putF C hin fk_X3_9 (by rintro _ _ _ ⟨⟩; rfl) iX3_init_8 rfl rfl (show 4 < 8 by decide) ?_
  dsimp only [List.set]
  refine n_aload C iX3_init_11 h0v ?_
  refine n_iconst (v := 4) C iX3_init_12 (by decide) ?_
  refine n_newi (M := 4) C hA u_ai iX3_init_13 (by decide) (by decide) (by decide) ⟨Nat.le_of_ble_eq_true rfl, Nat.le_of_ble_eq_true rfl⟩ (fun q1 => ?_)
  refine n_putF C hin fk_X3_15 (by rintro _ _ _ ⟨⟩; rfl) iX3_init_15 rfl rfl (show 5 < 8 by decide) ?_
  dsimp only [List.set]
  refine n_aload C iX3_init_18 h0v ?_
  refine n_bipush (v := 6) C iX3_init_19 (by decide) ?_
  refine n_newi (M := 6) C hA u_ai iX3_init_21 (by decide) (by decide) (by decide) ⟨Nat.le_of_ble_eq_true rfl, Nat.le_of_ble_eq_true rfl⟩ (fun q2 => ?_)
  refine n_putF C hin fk_X3_18 (by rintro _ _ _ ⟨⟩; rfl) iX3_init_23 rfl rfl (show 6 < 8 by decide) ?_
  dsimp only [List.set]
  refine n_aload C iX3_init_26 h0v ?_
  refine n_bipush (v := 6) C iX3_init_27 (by decide) ?_
  refine n_newi (M := 6) C hA u_ai iX3_init_29 (by decide) (by decide) (by decide) ⟨Nat.le_of_ble_eq_true rfl, Nat.le_of_ble_eq_true rfl⟩ (fun q3 => ?_)
  refine n_putF C hin fk_X3_21 (by rintro _ _ _ ⟨⟩; rfl) iX3_init_31 rfl rfl (show 7 < 8 by decide) ?_
  dsimp only [List.set]
  exact n_ret (W1 := w1X3 dA h0) [q0, q1, q2, q3] C iX3_init_34 rfl rfl ⟨Nat.le_of_ble_eq_true rfl, Nat.le_of_ble_eq_true rfl⟩
/-- what the constructor makes -/
def w1X4 (dA : Nat → ClassId) (h0 : Nat) (u : List Nat) : va_W := (((((([(h0, .inr (4, [.ref (u.getD 0 0), .ref (u.getD 1 0), .ref (u.getD 2 0), .ref (u.getD 3 0), .ref (u.getD 4 0), .ref (u.getD 5 0)]))]) ++ [((u.getD 0 0), .inl (dA 0, 4096, .inl (fun _ => 0)))]) ++ [((u.getD 1 0), .inl (dA 0, 13, .inl (fun _ => 0)))]) ++ [((u.getD 2 0), .inl (dA 0, 12, .inl (fun _ => 0)))]) ++ [((u.getD 3 0), .inl (dA 0, 12, .inl (fun _ => 0)))]) ++ [((u.getD 4 0), .inl (dA 0, 12, .inl (fun _ => 0)))]) ++ [((u.getD 5 0), .inl (dA 0, 12, .inl (fun _ => 0)))]
set_option maxHeartbeats 4000000 in
set_option maxRecDepth 100000 in
theorem metX4_init : NMet 1 mX4_init 6 4157 (fun h0 => [(h0, .inr (4, fsX4))]) w1X4 := by
  refine n_met (d := 1) okX4_init.1 rfl rfl ?_
  intro p l e s m args below meth c D dA A h0 arr C hin hA hz h0v
  refine n_aload C iX4_init_0 h0v ?_
  refine n_obj C u_oX4 u_oi u_oc hz iX4_init_1 ⟨Nat.le_of_ble_eq_true rfl, Nat.le_of_ble_eq_true rfl⟩ ?_
  refine n_aload C iX4_init_4 h0v ?_
  refine n_sipush (v := 4096) C iX4_init_5 (by decide) ?_
  refine n_newi (M := 4096) C hA u_ai iX4_init_8 (by decide) (by decide) (by decide) ⟨Nat.le_of_ble_eq_true rfl, Nat.le_of_ble_eq_true rfl⟩ (fun q0 => ?_)
  refine n_putF C hin fk_X4_9 (by rintro _ _ _ ⟨⟩; rfl) iX4_init_10 rfl rfl (show 0 < 6 by decide) ?_
  dsimp only [List.set]
  refine n_aload C iX4_init_13 h0v ?_
  refine n_bipush (v := 13) C iX4_init_14 (by decide) ?_
  refine n_newi (M := 13) C hA u_ai iX4_init_16 (by decide) (by decide) (by decide) ⟨Nat.le_of_ble_eq_true rfl, Nat.le_of_ble_eq_true rfl⟩ (fun q1 => ?_)
  refine n_putF C hin fk_X4_15 (by rintro _ _ _ ⟨⟩; rfl) iX4_init_18 rfl rfl (show 1 < 6 by decide) ?_
  dsimp only [List.set]
  refine n_aload C iX4_init_21 h0v ?_
  refine n_bipush (v := 12) C iX4_init_22 (by decide) ?_
  refine n_newi (M := 12) C hA u_ai iX4_init_24 (by decide) (by decide) (by decide) ⟨Nat.le_of_ble_eq_true rfl, Nat.le_of_ble_eq_true rfl⟩ (fun q2 => ?_)
  refine n_putF C hin fk_X4_18 (by rintro _ _ _ ⟨⟩; rfl) iX4_init_26 rfl rfl (show 2 < 6 by decide) ?_
  dsimp only [List.set]
  refine n_aload C iX4_init_29 h0v ?_
  refine n_bipush (v := 12) C iX4_init_30 (by decide) ?_
  refine n_newi (M := 12) C hA u_ai iX4_init_32 (by decide) (by decide) (by decide) ⟨Nat.le_of_ble_eq_true rfl, Nat.le_of_ble_eq_true rfl⟩ (fun q3 => ?_)
  refine n_putF C hin fk_X4_21 (by rintro _ _ _ ⟨⟩; rfl) iX4_init_34 rfl rfl (show 3 < 6 by decide) ?_
  dsimp only [List.set]
  refine n_aload C iX4_init_37 h0v ?_
  refine n_bipush (v := 12) C iX4_init_38 (by decide) ?_
  refine n_newi (M := 12) C hA u_ai iX4_init_40 (by decide) (by decide) (by decide) ⟨Nat.le_of_ble_eq_true rfl, Nat.le_of_ble_eq_true rfl⟩ (fun q4 => ?_)
  refine n_putF C hin fk_X4_24 (by rintro _ _ _ ⟨⟩; rfl) iX4_init_42 rfl rfl (show 4 < 6 by decide) ?_
  dsimp only [List.set]
  refine n_aload C iX4_init_45 h0v ?_
  refine n_bipush (v := 12) C iX4_init_46 (by decide) ?_
  refine n_newi (M := 12) C hA u_ai iX4_init_48 (by decide) (by decide) (by decide) ⟨Nat.le_of_ble_eq_true rfl, Nat.le_of_ble_eq_true rfl⟩ (fun q5 => ?_)
  refine n_putF C hin fk_X4_27 (by rintro _ _ _ ⟨⟩; rfl) iX4_init_50 rfl rfl (show 5 < 6 by decide) ?_
  dsimp only [List.set]
  exact n_ret (W1 := w1X4 dA h0) [q0, q1, q2, q3, q4, q5] C iX4_init_53 rfl rfl ⟨Nat.le_of_ble_eq_true rfl, Nat.le_of_ble_eq_true rfl⟩
