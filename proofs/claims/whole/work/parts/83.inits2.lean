/-- what the constructor makes -/
def w1X5 (dA : Nat → ClassId) (h0 : Nat) (u : List (List Nat)) : va_W := ((((((([(h0, .inr (5, [.ref ((u.getD 0 []).getD 0 0), .ref ((u.getD 0 []).getD 1 0), .ref ((u.getD 0 []).getD 2 0), .ref ((u.getD 0 []).getD 3 0), .ref ((u.getD 0 []).getD 4 0), .ref ((u.getD 0 []).getD 5 0), .ref ((u.getD 0 []).getD 6 0), .int 0, .int 0]))]) ++ w1X2 dA ((u.getD 0 []).getD 0 0) (u.getD 1 [])) ++ w1X1 dA ((u.getD 0 []).getD 1 0) (u.getD 2 [])) ++ w1X3 dA ((u.getD 0 []).getD 2 0) (u.getD 3 [])) ++ w1X3 dA ((u.getD 0 []).getD 3 0) (u.getD 4 [])) ++ w1X3 dA ((u.getD 0 []).getD 4 0) (u.getD 5 [])) ++ w1X4 dA ((u.getD 0 []).getD 5 0) (u.getD 6 [])) ++ w1X0 dA ((u.getD 0 []).getD 6 0) (u.getD 7 [])
set_option maxHeartbeats 4000000 in
set_option maxRecDepth 100000 in
theorem metX5_init : NMet 2 mX5_init 32 4350 (fun h0 => [(h0, .inr (5, fsX5))]) w1X5 := by
  refine n_met (d := 2) okX5_init.1 rfl rfl ?_
  intro p l e s m args below meth c D dA A h0 arr C hin hA hz h0v
  refine n_aload C iX5_init_0 h0v ?_
  refine n_obj C u_oX5 u_oi u_oc hz iX5_init_1 ⟨Nat.le_of_ble_eq_true rfl, Nat.le_of_ble_eq_true rfl⟩ ?_
  refine n_aload C iX5_init_4 h0v ?_
  refine n_new C hA (ci := 2) (CC := RX2) (T := TX2) (M := 3) (fs := fsX2) rfl uwX2 tyX2 tyX2_ok u_cX2 u_nX2 u_iX2 dfX2 iX5_init_5 ⟨Nat.le_of_ble_eq_true rfl, Nat.le_of_ble_eq_true rfl⟩ (fun q0 => ?_)
  refine n_dup C iX5_init_8 ?_
  refine n_callN (q := q0) (host := "LeapBoard") C hA hz metX2_init okX2_init rfl rfl rfl nk_X5_9 iX5_init_9 ⟨Nat.le_of_ble_eq_true rfl, Nat.le_of_ble_eq_true rfl⟩ ⟨Nat.le_of_ble_eq_true rfl, Nat.le_of_ble_eq_true rfl⟩ (Nat.le_of_ble_eq_true rfl) [1] [0] rfl rfl (by decide) (by decide) (by decide) (fun u0 => ?_)
  refine n_putF C hin fk_X5_10 (by rintro _ _ _ ⟨⟩; rfl) iX5_init_12 rfl rfl (show 0 < 9 by decide) ?_
  dsimp only [List.set]
  refine n_aload C iX5_init_15 h0v ?_
  refine n_new C hA (ci := 1) (CC := RX1) (T := TX1) (M := 4) (fs := fsX1) rfl uwX1 tyX1 tyX1_ok u_cX1 u_nX1 u_iX1 dfX1 iX5_init_16 ⟨Nat.le_of_ble_eq_true rfl, Nat.le_of_ble_eq_true rfl⟩ (fun q1 => ?_)
  refine n_dup C iX5_init_19 ?_
  refine n_callN (q := q1) (host := "LeapBoard") C hA hz metX1_init okX1_init rfl rfl rfl nk_X5_18 iX5_init_20 ⟨Nat.le_of_ble_eq_true rfl, Nat.le_of_ble_eq_true rfl⟩ ⟨Nat.le_of_ble_eq_true rfl, Nat.le_of_ble_eq_true rfl⟩ (Nat.le_of_ble_eq_true rfl) [3] [0, 1, 2] rfl rfl (by decide) (by decide) (by decide) (fun u1 => ?_)
  refine n_putF C hin fk_X5_19 (by rintro _ _ _ ⟨⟩; rfl) iX5_init_23 rfl rfl (show 1 < 9 by decide) ?_
  dsimp only [List.set]
  refine n_aload C iX5_init_26 h0v ?_
  refine n_new C hA (ci := 3) (CC := RX3) (T := TX3) (M := 8) (fs := fsX3) rfl uwX3 tyX3 tyX3_ok u_cX3 u_nX3 u_iX3 dfX3 iX5_init_27 ⟨Nat.le_of_ble_eq_true rfl, Nat.le_of_ble_eq_true rfl⟩ (fun q2 => ?_)
  refine n_dup C iX5_init_30 ?_
  refine n_callN (q := q2) (host := "LeapBoard") C hA hz metX3_init okX3_init rfl rfl rfl nk_X5_25 iX5_init_31 ⟨Nat.le_of_ble_eq_true rfl, Nat.le_of_ble_eq_true rfl⟩ ⟨Nat.le_of_ble_eq_true rfl, Nat.le_of_ble_eq_true rfl⟩ (Nat.le_of_ble_eq_true rfl) [10] [0, 1, 2, 3, 4, 5, 6, 7, 8, 9] rfl rfl (by decide) (by decide) (by decide) (fun u2 => ?_)
  refine n_putF C hin fk_X5_26 (by rintro _ _ _ ⟨⟩; rfl) iX5_init_34 rfl rfl (show 2 < 9 by decide) ?_
  dsimp only [List.set]
  refine n_aload C iX5_init_37 h0v ?_
  refine n_new C hA (ci := 3) (CC := RX3) (T := TX3) (M := 8) (fs := fsX3) rfl uwX3 tyX3 tyX3_ok u_cX3 u_nX3 u_iX3 dfX3 iX5_init_38 ⟨Nat.le_of_ble_eq_true rfl, Nat.le_of_ble_eq_true rfl⟩ (fun q3 => ?_)
  refine n_dup C iX5_init_41 ?_
  refine n_callN (q := q3) (host := "LeapBoard") C hA hz metX3_init okX3_init rfl rfl rfl nk_X5_25 iX5_init_42 ⟨Nat.le_of_ble_eq_true rfl, Nat.le_of_ble_eq_true rfl⟩ ⟨Nat.le_of_ble_eq_true rfl, Nat.le_of_ble_eq_true rfl⟩ (Nat.le_of_ble_eq_true rfl) [15] [0, 1, 2, 3, 4, 5, 6, 7, 8, 9, 10, 11, 12, 13, 14] rfl rfl (by decide) (by decide) (by decide) (fun u3 => ?_)
  refine n_putF C hin fk_X5_30 (by rintro _ _ _ ⟨⟩; rfl) iX5_init_45 rfl rfl (show 3 < 9 by decide) ?_
  dsimp only [List.set]
  refine n_aload C iX5_init_48 h0v ?_
  refine n_new C hA (ci := 3) (CC := RX3) (T := TX3) (M := 8) (fs := fsX3) rfl uwX3 tyX3 tyX3_ok u_cX3 u_nX3 u_iX3 dfX3 iX5_init_49 ⟨Nat.le_of_ble_eq_true rfl, Nat.le_of_ble_eq_true rfl⟩ (fun q4 => ?_)
  refine n_dup C iX5_init_52 ?_
  refine n_callN (q := q4) (host := "LeapBoard") C hA hz metX3_init okX3_init rfl rfl rfl nk_X5_25 iX5_init_53 ⟨Nat.le_of_ble_eq_true rfl, Nat.le_of_ble_eq_true rfl⟩ ⟨Nat.le_of_ble_eq_true rfl, Nat.le_of_ble_eq_true rfl⟩ (Nat.le_of_ble_eq_true rfl) [20] [0, 1, 2, 3, 4, 5, 6, 7, 8, 9, 10, 11, 12, 13, 14, 15, 16, 17, 18, 19] rfl rfl (by decide) (by decide) (by decide) (fun u4 => ?_)
  refine n_putF C hin fk_X5_33 (by rintro _ _ _ ⟨⟩; rfl) iX5_init_56 rfl rfl (show 4 < 9 by decide) ?_
  dsimp only [List.set]
  refine n_aload C iX5_init_59 h0v ?_
  refine n_new C hA (ci := 4) (CC := RX4) (T := TX4) (M := 6) (fs := fsX4) rfl uwX4 tyX4 tyX4_ok u_cX4 u_nX4 u_iX4 dfX4 iX5_init_60 ⟨Nat.le_of_ble_eq_true rfl, Nat.le_of_ble_eq_true rfl⟩ (fun q5 => ?_)
  refine n_dup C iX5_init_63 ?_
  refine n_callN (q := q5) (host := "LeapBoard") C hA hz metX4_init okX4_init rfl rfl rfl nk_X5_38 iX5_init_64 ⟨Nat.le_of_ble_eq_true rfl, Nat.le_of_ble_eq_true rfl⟩ ⟨Nat.le_of_ble_eq_true rfl, Nat.le_of_ble_eq_true rfl⟩ (Nat.le_of_ble_eq_true rfl) [25] [0, 1, 2, 3, 4, 5, 6, 7, 8, 9, 10, 11, 12, 13, 14, 15, 16, 17, 18, 19, 20, 21, 22, 23, 24] rfl rfl (by decide) (by decide) (by decide) (fun u5 => ?_)
  refine n_putF C hin fk_X5_39 (by rintro _ _ _ ⟨⟩; rfl) iX5_init_67 rfl rfl (show 5 < 9 by decide) ?_
  dsimp only [List.set]
  refine n_aload C iX5_init_70 h0v ?_
  refine n_new C hA (ci := 0) (CC := RX0) (T := TX0) (M := 1) (fs := fsX0) rfl uwX0 tyX0 tyX0_ok u_cX0 u_nX0 u_iX0 dfX0 iX5_init_71 ⟨Nat.le_of_ble_eq_true rfl, Nat.le_of_ble_eq_true rfl⟩ (fun q6 => ?_)
  refine n_dup C iX5_init_74 ?_
  refine n_callN (q := q6) (host := "LeapBoard") C hA hz metX0_init okX0_init rfl rfl rfl nk_X5_45 iX5_init_75 ⟨Nat.le_of_ble_eq_true rfl, Nat.le_of_ble_eq_true rfl⟩ ⟨Nat.le_of_ble_eq_true rfl, Nat.le_of_ble_eq_true rfl⟩ (Nat.le_of_ble_eq_true rfl) [32] [0, 1, 2, 3, 4, 5, 6, 7, 8, 9, 10, 11, 12, 13, 14, 15, 16, 17, 18, 19, 20, 21, 22, 23, 24, 25, 26, 27, 28, 29, 30, 31] rfl rfl (by decide) (by decide) (by decide) (fun u6 => ?_)
  refine n_putF C hin fk_X5_46 (by rintro _ _ _ ⟨⟩; rfl) iX5_init_78 rfl rfl (show 6 < 9 by decide) ?_
  dsimp only [List.set]
  refine n_aload C iX5_init_81 h0v ?_
  refine n_iconst (v := 0) C iX5_init_82 (by decide) ?_
  refine n_put C fk_X5_50 iX5_init_83 rfl rfl (show 7 < 9 by decide) ?_
  dsimp only [List.set]
  refine n_aload C iX5_init_86 h0v ?_
  refine n_iconst (v := 0) C iX5_init_87 (by decide) ?_
  refine n_put C fk_X5_54 iX5_init_88 rfl rfl (show 8 < 9 by decide) ?_
  dsimp only [List.set]
  exact n_ret (W1 := w1X5 dA h0) [[q0, q1, q2, q3, q4, q5, q6], u0, u1, u2, u3, u4, u5, u6] C iX5_init_91 rfl rfl ⟨Nat.le_of_ble_eq_true rfl, Nat.le_of_ble_eq_true rfl⟩
