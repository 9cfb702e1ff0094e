/-- what the constructor makes -/
def w1X6 (dA : Nat → ClassId) (h0 : Nat) (u : List Nat) : va_W := ((((((((((((((((((([(h0, .inr (6, [.int 0, .int 0, .int 0, .int 0, .int 0, .ref (u.getD 0 0), .ref (u.getD 1 0), .int 0, .int 0, .ref (u.getD 2 0), .ref (u.getD 3 0), .ref (u.getD 4 0), .ref (u.getD 5 0), .int 0, .ref (u.getD 6 0), .int 0, .int 0, .int 0, .int 0, .ref (u.getD 7 0), .ref (u.getD 8 0), .int 0, .ref (u.getD 9 0), .ref (u.getD 10 0), .ref (u.getD 11 0), .long 0, .ref (u.getD 12 0), .int 0, .int 0, .int 0, .int 0, .int 0, .ref (u.getD 13 0), .ref (u.getD 14 0), .ref (u.getD 15 0), .ref (u.getD 16 0), .ref (u.getD 17 0), .ref (u.getD 18 0), .long 0]))]) ++ [((u.getD 0 0), .inl (dA 0, 4, .inl (fun _ => 0)))]) ++ [((u.getD 1 0), .inl (dA 0, 4, .inl (fun _ => 0)))]) ++ [((u.getD 2 0), .inl (dA 0, 6, .inl (fun _ => 0)))]) ++ [((u.getD 3 0), .inl (dA 0, 6, .inl (fun _ => 0)))]) ++ [((u.getD 4 0), .inl (dA 0, 6, .inl (fun _ => 0)))]) ++ [((u.getD 5 0), .inl (dA 0, 6, .inl (fun _ => 0)))]) ++ [((u.getD 6 0), .inl (dA 1, 30, .inl (fun _ => 0)))]) ++ [((u.getD 7 0), .inl (dA 0, 144, .inl (fun _ => 0)))]) ++ [((u.getD 8 0), .inl (dA 0, 144, .inl (fun _ => 0)))]) ++ [((u.getD 9 0), .inl (dA 0, 4096, .inl (fun _ => 0)))]) ++ [((u.getD 10 0), .inl (dA 0, 12, .inl (fun _ => 0)))]) ++ [((u.getD 11 0), .inl (dA 0, 12, .inl (fun _ => 0)))]) ++ [((u.getD 12 0), .inl (dA 0, 4, .inl (fun _ => 0)))]) ++ [((u.getD 13 0), .inl (dA 0, 4, .inl (fun _ => 0)))]) ++ [((u.getD 14 0), .inl (dA 0, 4, .inl (fun _ => 0)))]) ++ [((u.getD 15 0), .inl (dA 0, 6, .inl (fun _ => 0)))]) ++ [((u.getD 16 0), .inl (dA 0, 6, .inl (fun _ => 0)))]) ++ [((u.getD 17 0), .inl (dA 0, 6, .inl (fun _ => 0)))]) ++ [((u.getD 18 0), .inl (dA 0, 6, .inl (fun _ => 0)))]
set_option maxHeartbeats 4000000 in
set_option maxRecDepth 100000 in
theorem metX6_init : NMet 1 mX6_init 19 4506 (fun h0 => [(h0, .inr (6, fsX6))]) w1X6 := by
  refine n_met (d := 1) okX6_init.1 rfl rfl ?_
  intro p l e s m args below meth c D dA A h0 arr C hin hA hz h0v
  refine n_aload C iX6_init_0 h0v ?_
  refine n_obj C u_oX6 u_oi u_oc hz iX6_init_1 ⟨Nat.le_of_ble_eq_true rfl, Nat.le_of_ble_eq_true rfl⟩ ?_
  refine n_aload C iX6_init_4 h0v ?_
  refine n_iconst (v := 4) C iX6_init_5 (by decide) ?_
  refine n_newi (M := 4) C hA u_ai iX6_init_6 (by decide) (by decide) (by decide) ⟨Nat.le_of_ble_eq_true rfl, Nat.le_of_ble_eq_true rfl⟩ (fun q0 => ?_)
  refine n_putF C hin fk_X6_7 (by rintro _ _ _ ⟨⟩; rfl) iX6_init_8 rfl rfl (show 5 < 39 by decide) ?_
  dsimp only [List.set]
  refine n_aload C iX6_init_11 h0v ?_
  refine n_iconst (v := 4) C iX6_init_12 (by decide) ?_
  refine n_newi (M := 4) C hA u_ai iX6_init_13 (by decide) (by decide) (by decide) ⟨Nat.le_of_ble_eq_true rfl, Nat.le_of_ble_eq_true rfl⟩ (fun q1 => ?_)
  refine n_putF C hin fk_X6_13 (by rintro _ _ _ ⟨⟩; rfl) iX6_init_15 rfl rfl (show 6 < 39 by decide) ?_
  dsimp only [List.set]
  refine n_aload C iX6_init_18 h0v ?_
  refine n_bipush (v := 6) C iX6_init_19 (by decide) ?_
  refine n_newi (M := 6) C hA u_ai iX6_init_21 (by decide) (by decide) (by decide) ⟨Nat.le_of_ble_eq_true rfl, Nat.le_of_ble_eq_true rfl⟩ (fun q2 => ?_)
  refine n_putF C hin fk_X6_16 (by rintro _ _ _ ⟨⟩; rfl) iX6_init_23 rfl rfl (show 9 < 39 by decide) ?_
  dsimp only [List.set]
  refine n_aload C iX6_init_26 h0v ?_
  refine n_bipush (v := 6) C iX6_init_27 (by decide) ?_
  refine n_newi (M := 6) C hA u_ai iX6_init_29 (by decide) (by decide) (by decide) ⟨Nat.le_of_ble_eq_true rfl, Nat.le_of_ble_eq_true rfl⟩ (fun q3 => ?_)
  refine n_putF C hin fk_X6_19 (by rintro _ _ _ ⟨⟩; rfl) iX6_init_31 rfl rfl (show 10 < 39 by decide) ?_
  dsimp only [List.set]
  refine n_aload C iX6_init_34 h0v ?_
  refine n_bipush (v := 6) C iX6_init_35 (by decide) ?_
  refine n_newi (M := 6) C hA u_ai iX6_init_37 (by decide) (by decide) (by decide) ⟨Nat.le_of_ble_eq_true rfl, Nat.le_of_ble_eq_true rfl⟩ (fun q4 => ?_)
  refine n_putF C hin fk_X6_22 (by rintro _ _ _ ⟨⟩; rfl) iX6_init_39 rfl rfl (show 11 < 39 by decide) ?_
  dsimp only [List.set]
  refine n_aload C iX6_init_42 h0v ?_
  refine n_bipush (v := 6) C iX6_init_43 (by decide) ?_
  refine n_newi (M := 6) C hA u_ai iX6_init_45 (by decide) (by decide) (by decide) ⟨Nat.le_of_ble_eq_true rfl, Nat.le_of_ble_eq_true rfl⟩ (fun q5 => ?_)
  refine n_putF C hin fk_X6_25 (by rintro _ _ _ ⟨⟩; rfl) iX6_init_47 rfl rfl (show 12 < 39 by decide) ?_
  dsimp only [List.set]
  refine n_aload C iX6_init_50 h0v ?_
  refine n_bipush (v := 30) C iX6_init_51 (by decide) ?_
  refine n_newb (M := 30) C hA u_ab iX6_init_53 (by decide) (by decide) (by decide) ⟨Nat.le_of_ble_eq_true rfl, Nat.le_of_ble_eq_true rfl⟩ (fun q6 => ?_)
  refine n_putF C hin fk_X6_28 (by rintro _ _ _ ⟨⟩; rfl) iX6_init_55 rfl rfl (show 14 < 39 by decide) ?_
  dsimp only [List.set]
  refine n_aload C iX6_init_58 h0v ?_
  refine n_sipush (v := 144) C iX6_init_59 (by decide) ?_
  refine n_newi (M := 144) C hA u_ai iX6_init_62 (by decide) (by decide) (by decide) ⟨Nat.le_of_ble_eq_true rfl, Nat.le_of_ble_eq_true rfl⟩ (fun q7 => ?_)
  refine n_putF C hin fk_X6_32 (by rintro _ _ _ ⟨⟩; rfl) iX6_init_64 rfl rfl (show 19 < 39 by decide) ?_
  dsimp only [List.set]
  refine n_aload C iX6_init_67 h0v ?_
  refine n_sipush (v := 144) C iX6_init_68 (by decide) ?_
  refine n_newi (M := 144) C hA u_ai iX6_init_71 (by decide) (by decide) (by decide) ⟨Nat.le_of_ble_eq_true rfl, Nat.le_of_ble_eq_true rfl⟩ (fun q8 => ?_)
  refine n_putF C hin fk_X6_35 (by rintro _ _ _ ⟨⟩; rfl) iX6_init_73 rfl rfl (show 20 < 39 by decide) ?_
  dsimp only [List.set]
  refine n_aload C iX6_init_76 h0v ?_
  refine n_sipush (v := 4096) C iX6_init_77 (by decide) ?_
  refine n_newi (M := 4096) C hA u_ai iX6_init_80 (by decide) (by decide) (by decide) ⟨Nat.le_of_ble_eq_true rfl, Nat.le_of_ble_eq_true rfl⟩ (fun q9 => ?_)
  refine n_putF C hin fk_X6_38 (by rintro _ _ _ ⟨⟩; rfl) iX6_init_82 rfl rfl (show 22 < 39 by decide) ?_
  dsimp only [List.set]
  refine n_aload C iX6_init_85 h0v ?_
  refine n_bipush (v := 12) C iX6_init_86 (by decide) ?_
  refine n_newi (M := 12) C hA u_ai iX6_init_88 (by decide) (by decide) (by decide) ⟨Nat.le_of_ble_eq_true rfl, Nat.le_of_ble_eq_true rfl⟩ (fun q10 => ?_)
  refine n_putF C hin fk_X6_41 (by rintro _ _ _ ⟨⟩; rfl) iX6_init_90 rfl rfl (show 23 < 39 by decide) ?_
  dsimp only [List.set]
  refine n_aload C iX6_init_93 h0v ?_
  refine n_bipush (v := 12) C iX6_init_94 (by decide) ?_
  refine n_newi (M := 12) C hA u_ai iX6_init_96 (by decide) (by decide) (by decide) ⟨Nat.le_of_ble_eq_true rfl, Nat.le_of_ble_eq_true rfl⟩ (fun q11 => ?_)
  refine n_putF C hin fk_X6_44 (by rintro _ _ _ ⟨⟩; rfl) iX6_init_98 rfl rfl (show 24 < 39 by decide) ?_
  dsimp only [List.set]
  refine n_aload C iX6_init_101 h0v ?_
  refine n_iconst (v := 4) C iX6_init_102 (by decide) ?_
  refine n_newi (M := 4) C hA u_ai iX6_init_103 (by decide) (by decide) (by decide) ⟨Nat.le_of_ble_eq_true rfl, Nat.le_of_ble_eq_true rfl⟩ (fun q12 => ?_)
  refine n_putF C hin fk_X6_47 (by rintro _ _ _ ⟨⟩; rfl) iX6_init_105 rfl rfl (show 26 < 39 by decide) ?_
  dsimp only [List.set]
  refine n_aload C iX6_init_108 h0v ?_
  refine n_iconst (v := 4) C iX6_init_109 (by decide) ?_
  refine n_newi (M := 4) C hA u_ai iX6_init_110 (by decide) (by decide) (by decide) ⟨Nat.le_of_ble_eq_true rfl, Nat.le_of_ble_eq_true rfl⟩ (fun q13 => ?_)
  refine n_putF C hin fk_X6_50 (by rintro _ _ _ ⟨⟩; rfl) iX6_init_112 rfl rfl (show 32 < 39 by decide) ?_
  dsimp only [List.set]
  refine n_aload C iX6_init_115 h0v ?_
  refine n_iconst (v := 4) C iX6_init_116 (by decide) ?_
  refine n_newi (M := 4) C hA u_ai iX6_init_117 (by decide) (by decide) (by decide) ⟨Nat.le_of_ble_eq_true rfl, Nat.le_of_ble_eq_true rfl⟩ (fun q14 => ?_)
  refine n_putF C hin fk_X6_53 (by rintro _ _ _ ⟨⟩; rfl) iX6_init_119 rfl rfl (show 33 < 39 by decide) ?_
  dsimp only [List.set]
  refine n_aload C iX6_init_122 h0v ?_
  refine n_bipush (v := 6) C iX6_init_123 (by decide) ?_
  refine n_newi (M := 6) C hA u_ai iX6_init_125 (by decide) (by decide) (by decide) ⟨Nat.le_of_ble_eq_true rfl, Nat.le_of_ble_eq_true rfl⟩ (fun q15 => ?_)
  refine n_putF C hin fk_X6_56 (by rintro _ _ _ ⟨⟩; rfl) iX6_init_127 rfl rfl (show 34 < 39 by decide) ?_
  dsimp only [List.set]
  refine n_aload C iX6_init_130 h0v ?_
  refine n_bipush (v := 6) C iX6_init_131 (by decide) ?_
  refine n_newi (M := 6) C hA u_ai iX6_init_133 (by decide) (by decide) (by decide) ⟨Nat.le_of_ble_eq_true rfl, Nat.le_of_ble_eq_true rfl⟩ (fun q16 => ?_)
  refine n_putF C hin fk_X6_59 (by rintro _ _ _ ⟨⟩; rfl) iX6_init_135 rfl rfl (show 35 < 39 by decide) ?_
  dsimp only [List.set]
  refine n_aload C iX6_init_138 h0v ?_
  refine n_bipush (v := 6) C iX6_init_139 (by decide) ?_
  refine n_newi (M := 6) C hA u_ai iX6_init_141 (by decide) (by decide) (by decide) ⟨Nat.le_of_ble_eq_true rfl, Nat.le_of_ble_eq_true rfl⟩ (fun q17 => ?_)
  refine n_putF C hin fk_X6_62 (by rintro _ _ _ ⟨⟩; rfl) iX6_init_143 rfl rfl (show 36 < 39 by decide) ?_
  dsimp only [List.set]
  refine n_aload C iX6_init_146 h0v ?_
  refine n_bipush (v := 6) C iX6_init_147 (by decide) ?_
  refine n_newi (M := 6) C hA u_ai iX6_init_149 (by decide) (by decide) (by decide) ⟨Nat.le_of_ble_eq_true rfl, Nat.le_of_ble_eq_true rfl⟩ (fun q18 => ?_)
  refine n_putF C hin fk_X6_65 (by rintro _ _ _ ⟨⟩; rfl) iX6_init_151 rfl rfl (show 37 < 39 by decide) ?_
  dsimp only [List.set]
  exact n_ret (W1 := w1X6 dA h0) [q0, q1, q2, q3, q4, q5, q6, q7, q8, q9, q10, q11, q12, q13, q14, q15, q16, q17, q18] C iX6_init_154 rfl rfl ⟨Nat.le_of_ble_eq_true rfl, Nat.le_of_ble_eq_true rfl⟩
