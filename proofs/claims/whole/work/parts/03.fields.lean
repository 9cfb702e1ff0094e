/-! ===== fields ===== -/
def FOK (own : String) (idx ci k : Nat) (ty : FieldType) (fin : Bool) : Prop := ∃ (C : String) (T : u_T) (N : Nat) (ty0 : Nat → FieldType), vwCl[ci]? = some (C, T, N) ∧ (∀ w ∈ u_ws C T N, w ∈ UW) ∧ (∀ k, k < N → parseFieldDescriptor (T k).2.2.1 = some (ty0 k)) ∧ (∀ a, a < N → ∀ b, b < N → a ≠ b → (T a).2.1 ≠ (T b).2.1) ∧ k < N ∧ ty0 k = ty ∧ (T k).2.2.2 = fin ∧ Cond.fieldLink own idx (T k).1 (T k).2.1 (T k).2.2.1 ∈ UW
theorem uwX0 : ∀ w ∈ u_ws RX0 TX0 1, w ∈ UW := by
  have h : (u_ws RX0 TX0 1) = [197].filterMap (fun i => lw_tbl[i]?) := by decide +kernel
  intro w hw
  have hg : goodWord w = true := List.all_eq_true.mp (show (u_ws RX0 TX0 1).all goodWord = true by decide +kernel) w hw
  rw [h] at hw
  obtain ⟨i, -, hi⟩ := List.mem_filterMap.mp hw
  exact uw i hi hg
theorem uwX1 : ∀ w ∈ u_ws RX1 TX1 4, w ∈ UW := by
  have h : (u_ws RX1 TX1 4) = [118, 120, 122, 124].filterMap (fun i => lw_tbl[i]?) := by decide +kernel
  intro w hw
  have hg : goodWord w = true := List.all_eq_true.mp (show (u_ws RX1 TX1 4).all goodWord = true by decide +kernel) w hw
  rw [h] at hw
  obtain ⟨i, -, hi⟩ := List.mem_filterMap.mp hw
  exact uw i hi hg
theorem uwX2 : ∀ w ∈ u_ws RX2 TX2 3, w ∈ UW := by
  have h : (u_ws RX2 TX2 3) = [95, 97, 99].filterMap (fun i => lw_tbl[i]?) := by decide +kernel
  intro w hw
  have hg : goodWord w = true := List.all_eq_true.mp (show (u_ws RX2 TX2 3).all goodWord = true by decide +kernel) w hw
  rw [h] at hw
  obtain ⟨i, -, hi⟩ := List.mem_filterMap.mp hw
  exact uw i hi hg
theorem uwX3 : ∀ w ∈ u_ws RX3 TX3 8, w ∈ UW := by
  have h : (u_ws RX3 TX3 8) = [147, 149, 151, 153, 155, 157, 159, 161].filterMap (fun i => lw_tbl[i]?) := by decide +kernel
  intro w hw
  have hg : goodWord w = true := List.all_eq_true.mp (show (u_ws RX3 TX3 8).all goodWord = true by decide +kernel) w hw
  rw [h] at hw
  obtain ⟨i, -, hi⟩ := List.mem_filterMap.mp hw
  exact uw i hi hg
theorem uwX4 : ∀ w ∈ u_ws RX4 TX4 6, w ∈ UW := by
  have h : (u_ws RX4 TX4 6) = [176, 178, 180, 182, 184, 186].filterMap (fun i => lw_tbl[i]?) := by decide +kernel
  intro w hw
  have hg : goodWord w = true := List.all_eq_true.mp (show (u_ws RX4 TX4 6).all goodWord = true by decide +kernel) w hw
  rw [h] at hw
  obtain ⟨i, -, hi⟩ := List.mem_filterMap.mp hw
  exact uw i hi hg
theorem uwX5 : ∀ w ∈ u_ws RX5 TX5 9, w ∈ UW := by
  have h : (u_ws RX5 TX5 9) = [209, 211, 213, 215, 217, 219, 221, 223, 225].filterMap (fun i => lw_tbl[i]?) := by decide +kernel
  intro w hw
  have hg : goodWord w = true := List.all_eq_true.mp (show (u_ws RX5 TX5 9).all goodWord = true by decide +kernel) w hw
  rw [h] at hw
  obtain ⟨i, -, hi⟩ := List.mem_filterMap.mp hw
  exact uw i hi hg
theorem uwX6 : ∀ w ∈ u_ws RX6 TX6 39, w ∈ UW := by
  have h : (u_ws RX6 TX6 39) = [743, 745, 747, 749, 751, 753, 755, 757, 759, 761, 763, 765, 767, 769, 771, 773, 775, 777, 779, 781, 783, 785, 787, 789, 791, 793, 795, 797, 799, 801, 803, 805, 807, 809, 811, 813, 815, 817, 819].filterMap (fun i => lw_tbl[i]?) := by decide +kernel
  intro w hw
  have hg : goodWord w = true := List.all_eq_true.mp (show (u_ws RX6 TX6 39).all goodWord = true by decide +kernel) w hw
  rw [h] at hw
  obtain ⟨i, -, hi⟩ := List.mem_filterMap.mp hw
  exact uw i hi hg
theorem fk_X2_9 : FOK RX2 9 2 0 (.array .int) true := ⟨RX2, TX2, 3, tyX2, rfl, uwX2, tyX2_ok, nmX2, by decide, rfl, rfl, uw 91 (by decide +kernel) (by decide +kernel)⟩
theorem fk_X2_15 : FOK RX2 15 2 1 .int false := ⟨RX2, TX2, 3, tyX2, rfl, uwX2, tyX2_ok, nmX2, by decide, rfl, rfl, uw 92 (by decide +kernel) (by decide +kernel)⟩
theorem fk_X5_62 : FOK RX5 62 2 1 .int false := ⟨RX2, TX2, 3, tyX2, rfl, uwX2, tyX2_ok, nmX2, by decide, rfl, rfl, uw 93 (by decide +kernel) (by decide +kernel)⟩
theorem fk_X2_26 : FOK RX2 26 2 2 .int false := ⟨RX2, TX2, 3, tyX2, rfl, uwX2, tyX2_ok, nmX2, by decide, rfl, rfl, uw 94 (by decide +kernel) (by decide +kernel)⟩
theorem fk_X1_16 : FOK RX1 16 1 0 .int false := ⟨RX1, TX1, 4, tyX1, rfl, uwX1, tyX1_ok, nmX1, by decide, rfl, rfl, uw 111 (by decide +kernel) (by decide +kernel)⟩
theorem fk_X5_230 : FOK RX5 230 1 0 .int false := ⟨RX1, TX1, 4, tyX1, rfl, uwX1, tyX1_ok, nmX1, by decide, rfl, rfl, uw 112 (by decide +kernel) (by decide +kernel)⟩
theorem fk_X1_20 : FOK RX1 20 1 1 .int false := ⟨RX1, TX1, 4, tyX1, rfl, uwX1, tyX1_ok, nmX1, by decide, rfl, rfl, uw 113 (by decide +kernel) (by decide +kernel)⟩
theorem fk_X5_232 : FOK RX5 232 1 1 .int false := ⟨RX1, TX1, 4, tyX1, rfl, uwX1, tyX1_ok, nmX1, by decide, rfl, rfl, uw 114 (by decide +kernel) (by decide +kernel)⟩
theorem fk_X1_23 : FOK RX1 23 1 2 .int false := ⟨RX1, TX1, 4, tyX1, rfl, uwX1, tyX1_ok, nmX1, by decide, rfl, rfl, uw 115 (by decide +kernel) (by decide +kernel)⟩
theorem fk_X5_117 : FOK RX5 117 1 2 .int false := ⟨RX1, TX1, 4, tyX1, rfl, uwX1, tyX1_ok, nmX1, by decide, rfl, rfl, uw 116 (by decide +kernel) (by decide +kernel)⟩
theorem fk_X1_11 : FOK RX1 11 1 3 (.array (.array .int)) true := ⟨RX1, TX1, 4, tyX1, rfl, uwX1, tyX1_ok, nmX1, by decide, rfl, rfl, uw 117 (by decide +kernel) (by decide +kernel)⟩
theorem fk_X5_89 : FOK RX5 89 3 0 .int false := ⟨RX3, TX3, 8, tyX3, rfl, uwX3, tyX3_ok, nmX3, by decide, rfl, rfl, uw 133 (by decide +kernel) (by decide +kernel)⟩
theorem fk_X3_32 : FOK RX3 32 3 0 .int false := ⟨RX3, TX3, 8, tyX3, rfl, uwX3, tyX3_ok, nmX3, by decide, rfl, rfl, uw 134 (by decide +kernel) (by decide +kernel)⟩
theorem fk_X3_24 : FOK RX3 24 3 1 .int false := ⟨RX3, TX3, 8, tyX3, rfl, uwX3, tyX3_ok, nmX3, by decide, rfl, rfl, uw 135 (by decide +kernel) (by decide +kernel)⟩
theorem fk_X5_95 : FOK RX5 95 3 1 .int false := ⟨RX3, TX3, 8, tyX3, rfl, uwX3, tyX3_ok, nmX3, by decide, rfl, rfl, uw 136 (by decide +kernel) (by decide +kernel)⟩
theorem fk_X5_111 : FOK RX5 111 3 2 .int false := ⟨RX3, TX3, 8, tyX3, rfl, uwX3, tyX3_ok, nmX3, by decide, rfl, rfl, uw 137 (by decide +kernel) (by decide +kernel)⟩
theorem fk_X3_38 : FOK RX3 38 3 2 .int false := ⟨RX3, TX3, 8, tyX3, rfl, uwX3, tyX3_ok, nmX3, by decide, rfl, rfl, uw 138 (by decide +kernel) (by decide +kernel)⟩
theorem fk_X5_114 : FOK RX5 114 3 3 .int false := ⟨RX3, TX3, 8, tyX3, rfl, uwX3, tyX3_ok, nmX3, by decide, rfl, rfl, uw 139 (by decide +kernel) (by decide +kernel)⟩
theorem fk_X3_35 : FOK RX3 35 3 3 .int false := ⟨RX3, TX3, 8, tyX3, rfl, uwX3, tyX3_ok, nmX3, by decide, rfl, rfl, uw 140 (by decide +kernel) (by decide +kernel)⟩
theorem fk_X3_9 : FOK RX3 9 3 4 (.array .int) true := ⟨RX3, TX3, 8, tyX3, rfl, uwX3, tyX3_ok, nmX3, by decide, rfl, rfl, uw 141 (by decide +kernel) (by decide +kernel)⟩
theorem fk_X5_97 : FOK RX5 97 3 4 (.array .int) true := ⟨RX3, TX3, 8, tyX3, rfl, uwX3, tyX3_ok, nmX3, by decide, rfl, rfl, uw 142 (by decide +kernel) (by decide +kernel)⟩
theorem fk_X3_15 : FOK RX3 15 3 5 (.array .int) true := ⟨RX3, TX3, 8, tyX3, rfl, uwX3, tyX3_ok, nmX3, by decide, rfl, rfl, uw 143 (by decide +kernel) (by decide +kernel)⟩
theorem fk_X5_105 : FOK RX5 105 3 5 (.array .int) true := ⟨RX3, TX3, 8, tyX3, rfl, uwX3, tyX3_ok, nmX3, by decide, rfl, rfl, uw 144 (by decide +kernel) (by decide +kernel)⟩
theorem fk_X3_18 : FOK RX3 18 3 6 (.array .int) true := ⟨RX3, TX3, 8, tyX3, rfl, uwX3, tyX3_ok, nmX3, by decide, rfl, rfl, uw 145 (by decide +kernel) (by decide +kernel)⟩
theorem fk_X3_21 : FOK RX3 21 3 7 (.array .int) true := ⟨RX3, TX3, 8, tyX3, rfl, uwX3, tyX3_ok, nmX3, by decide, rfl, rfl, uw 146 (by decide +kernel) (by decide +kernel)⟩
theorem fk_X4_9 : FOK RX4 9 4 0 (.array .int) true := ⟨RX4, TX4, 6, tyX4, rfl, uwX4, tyX4_ok, nmX4, by decide, rfl, rfl, uw 170 (by decide +kernel) (by decide +kernel)⟩
theorem fk_X4_15 : FOK RX4 15 4 1 (.array .int) true := ⟨RX4, TX4, 6, tyX4, rfl, uwX4, tyX4_ok, nmX4, by decide, rfl, rfl, uw 171 (by decide +kernel) (by decide +kernel)⟩
theorem fk_X4_18 : FOK RX4 18 4 2 (.array .int) true := ⟨RX4, TX4, 6, tyX4, rfl, uwX4, tyX4_ok, nmX4, by decide, rfl, rfl, uw 172 (by decide +kernel) (by decide +kernel)⟩
theorem fk_X4_21 : FOK RX4 21 4 3 (.array .int) true := ⟨RX4, TX4, 6, tyX4, rfl, uwX4, tyX4_ok, nmX4, by decide, rfl, rfl, uw 173 (by decide +kernel) (by decide +kernel)⟩
theorem fk_X4_24 : FOK RX4 24 4 4 (.array .int) true := ⟨RX4, TX4, 6, tyX4, rfl, uwX4, tyX4_ok, nmX4, by decide, rfl, rfl, uw 174 (by decide +kernel) (by decide +kernel)⟩
theorem fk_X4_27 : FOK RX4 27 4 5 (.array .int) true := ⟨RX4, TX4, 6, tyX4, rfl, uwX4, tyX4_ok, nmX4, by decide, rfl, rfl, uw 175 (by decide +kernel) (by decide +kernel)⟩
theorem fk_X0_9 : FOK RX0 9 0 0 .int false := ⟨RX0, TX0, 1, tyX0, rfl, uwX0, tyX0_ok, nmX0, by decide, rfl, rfl, uw 195 (by decide +kernel) (by decide +kernel)⟩
theorem fk_X5_223 : FOK RX5 223 0 0 .int false := ⟨RX0, TX0, 1, tyX0, rfl, uwX0, tyX0_ok, nmX0, by decide, rfl, rfl, uw 196 (by decide +kernel) (by decide +kernel)⟩
theorem fk_X5_10 : FOK RX5 10 5 0 (.object "LeapBoard$Page") true := ⟨RX5, TX5, 9, tyX5, rfl, uwX5, tyX5_ok, nmX5, by decide, rfl, rfl, uw 200 (by decide +kernel) (by decide +kernel)⟩
theorem fk_X5_19 : FOK RX5 19 5 1 (.object "LeapBoard$Ground") true := ⟨RX5, TX5, 9, tyX5, rfl, uwX5, tyX5_ok, nmX5, by decide, rfl, rfl, uw 201 (by decide +kernel) (by decide +kernel)⟩
theorem fk_X5_26 : FOK RX5 26 5 2 (.object "LeapBoard$Scene") true := ⟨RX5, TX5, 9, tyX5, rfl, uwX5, tyX5_ok, nmX5, by decide, rfl, rfl, uw 202 (by decide +kernel) (by decide +kernel)⟩
theorem fk_X5_30 : FOK RX5 30 5 3 (.object "LeapBoard$Scene") true := ⟨RX5, TX5, 9, tyX5, rfl, uwX5, tyX5_ok, nmX5, by decide, rfl, rfl, uw 203 (by decide +kernel) (by decide +kernel)⟩
theorem fk_X5_33 : FOK RX5 33 5 4 (.object "LeapBoard$Scene") true := ⟨RX5, TX5, 9, tyX5, rfl, uwX5, tyX5_ok, nmX5, by decide, rfl, rfl, uw 204 (by decide +kernel) (by decide +kernel)⟩
theorem fk_X5_39 : FOK RX5 39 5 5 (.object "LeapBoard$Trips") true := ⟨RX5, TX5, 9, tyX5, rfl, uwX5, tyX5_ok, nmX5, by decide, rfl, rfl, uw 205 (by decide +kernel) (by decide +kernel)⟩
theorem fk_X5_46 : FOK RX5 46 5 6 (.object "LeapBoard$Draws") true := ⟨RX5, TX5, 9, tyX5, rfl, uwX5, tyX5_ok, nmX5, by decide, rfl, rfl, uw 206 (by decide +kernel) (by decide +kernel)⟩
theorem fk_X5_50 : FOK RX5 50 5 7 .boolean false := ⟨RX5, TX5, 9, tyX5, rfl, uwX5, tyX5_ok, nmX5, by decide, rfl, rfl, uw 207 (by decide +kernel) (by decide +kernel)⟩
theorem fk_X5_54 : FOK RX5 54 5 8 .int false := ⟨RX5, TX5, 9, tyX5, rfl, uwX5, tyX5_ok, nmX5, by decide, rfl, rfl, uw 208 (by decide +kernel) (by decide +kernel)⟩
theorem fk_X6_125 : FOK RX6 125 6 0 .int false := ⟨RX6, TX6, 39, tyX6, rfl, uwX6, tyX6_ok, nmX6, by decide, rfl, rfl, uw 704 (by decide +kernel) (by decide +kernel)⟩
theorem fk_X6_110 : FOK RX6 110 6 1 .int false := ⟨RX6, TX6, 39, tyX6, rfl, uwX6, tyX6_ok, nmX6, by decide, rfl, rfl, uw 705 (by decide +kernel) (by decide +kernel)⟩
theorem fk_X6_113 : FOK RX6 113 6 2 .int false := ⟨RX6, TX6, 39, tyX6, rfl, uwX6, tyX6_ok, nmX6, by decide, rfl, rfl, uw 706 (by decide +kernel) (by decide +kernel)⟩
theorem fk_X6_116 : FOK RX6 116 6 3 .int false := ⟨RX6, TX6, 39, tyX6, rfl, uwX6, tyX6_ok, nmX6, by decide, rfl, rfl, uw 707 (by decide +kernel) (by decide +kernel)⟩
theorem fk_X6_119 : FOK RX6 119 6 4 .int false := ⟨RX6, TX6, 39, tyX6, rfl, uwX6, tyX6_ok, nmX6, by decide, rfl, rfl, uw 708 (by decide +kernel) (by decide +kernel)⟩
theorem fk_X6_7 : FOK RX6 7 6 5 (.array .int) true := ⟨RX6, TX6, 39, tyX6, rfl, uwX6, tyX6_ok, nmX6, by decide, rfl, rfl, uw 709 (by decide +kernel) (by decide +kernel)⟩
theorem fk_X6_13 : FOK RX6 13 6 6 (.array .int) true := ⟨RX6, TX6, 39, tyX6, rfl, uwX6, tyX6_ok, nmX6, by decide, rfl, rfl, uw 710 (by decide +kernel) (by decide +kernel)⟩
theorem fk_X6_122 : FOK RX6 122 6 7 .int false := ⟨RX6, TX6, 39, tyX6, rfl, uwX6, tyX6_ok, nmX6, by decide, rfl, rfl, uw 711 (by decide +kernel) (by decide +kernel)⟩
theorem fk_X6_128 : FOK RX6 128 6 8 .int false := ⟨RX6, TX6, 39, tyX6, rfl, uwX6, tyX6_ok, nmX6, by decide, rfl, rfl, uw 712 (by decide +kernel) (by decide +kernel)⟩
theorem fk_X6_16 : FOK RX6 16 6 9 (.array .int) true := ⟨RX6, TX6, 39, tyX6, rfl, uwX6, tyX6_ok, nmX6, by decide, rfl, rfl, uw 713 (by decide +kernel) (by decide +kernel)⟩
theorem fk_X6_19 : FOK RX6 19 6 10 (.array .int) true := ⟨RX6, TX6, 39, tyX6, rfl, uwX6, tyX6_ok, nmX6, by decide, rfl, rfl, uw 714 (by decide +kernel) (by decide +kernel)⟩
theorem fk_X6_22 : FOK RX6 22 6 11 (.array .int) true := ⟨RX6, TX6, 39, tyX6, rfl, uwX6, tyX6_ok, nmX6, by decide, rfl, rfl, uw 715 (by decide +kernel) (by decide +kernel)⟩
theorem fk_X6_25 : FOK RX6 25 6 12 (.array .int) true := ⟨RX6, TX6, 39, tyX6, rfl, uwX6, tyX6_ok, nmX6, by decide, rfl, rfl, uw 716 (by decide +kernel) (by decide +kernel)⟩
theorem fk_X6_72 : FOK RX6 72 6 13 .int false := ⟨RX6, TX6, 39, tyX6, rfl, uwX6, tyX6_ok, nmX6, by decide, rfl, rfl, uw 717 (by decide +kernel) (by decide +kernel)⟩
theorem fk_X6_28 : FOK RX6 28 6 14 (.array .byte) true := ⟨RX6, TX6, 39, tyX6, rfl, uwX6, tyX6_ok, nmX6, by decide, rfl, rfl, uw 718 (by decide +kernel) (by decide +kernel)⟩
theorem fk_X6_96 : FOK RX6 96 6 15 .boolean false := ⟨RX6, TX6, 39, tyX6, rfl, uwX6, tyX6_ok, nmX6, by decide, rfl, rfl, uw 719 (by decide +kernel) (by decide +kernel)⟩
theorem fk_X6_76 : FOK RX6 76 6 16 .int false := ⟨RX6, TX6, 39, tyX6, rfl, uwX6, tyX6_ok, nmX6, by decide, rfl, rfl, uw 720 (by decide +kernel) (by decide +kernel)⟩
theorem fk_X6_83 : FOK RX6 83 6 17 .int false := ⟨RX6, TX6, 39, tyX6, rfl, uwX6, tyX6_ok, nmX6, by decide, rfl, rfl, uw 721 (by decide +kernel) (by decide +kernel)⟩
theorem fk_X6_86 : FOK RX6 86 6 18 .int false := ⟨RX6, TX6, 39, tyX6, rfl, uwX6, tyX6_ok, nmX6, by decide, rfl, rfl, uw 722 (by decide +kernel) (by decide +kernel)⟩
theorem fk_X6_32 : FOK RX6 32 6 19 (.array .int) true := ⟨RX6, TX6, 39, tyX6, rfl, uwX6, tyX6_ok, nmX6, by decide, rfl, rfl, uw 723 (by decide +kernel) (by decide +kernel)⟩
theorem fk_X6_35 : FOK RX6 35 6 20 (.array .int) true := ⟨RX6, TX6, 39, tyX6, rfl, uwX6, tyX6_ok, nmX6, by decide, rfl, rfl, uw 724 (by decide +kernel) (by decide +kernel)⟩
theorem fk_X6_198 : FOK RX6 198 6 21 .int false := ⟨RX6, TX6, 39, tyX6, rfl, uwX6, tyX6_ok, nmX6, by decide, rfl, rfl, uw 725 (by decide +kernel) (by decide +kernel)⟩
theorem fk_X6_38 : FOK RX6 38 6 22 (.array .int) true := ⟨RX6, TX6, 39, tyX6, rfl, uwX6, tyX6_ok, nmX6, by decide, rfl, rfl, uw 726 (by decide +kernel) (by decide +kernel)⟩
theorem fk_X6_41 : FOK RX6 41 6 23 (.array .int) true := ⟨RX6, TX6, 39, tyX6, rfl, uwX6, tyX6_ok, nmX6, by decide, rfl, rfl, uw 727 (by decide +kernel) (by decide +kernel)⟩
theorem fk_X6_44 : FOK RX6 44 6 24 (.array .int) true := ⟨RX6, TX6, 39, tyX6, rfl, uwX6, tyX6_ok, nmX6, by decide, rfl, rfl, uw 728 (by decide +kernel) (by decide +kernel)⟩
theorem fk_X6_259 : FOK RX6 259 6 25 .long false := ⟨RX6, TX6, 39, tyX6, rfl, uwX6, tyX6_ok, nmX6, by decide, rfl, rfl, uw 729 (by decide +kernel) (by decide +kernel)⟩
theorem fk_X6_47 : FOK RX6 47 6 26 (.array .int) true := ⟨RX6, TX6, 39, tyX6, rfl, uwX6, tyX6_ok, nmX6, by decide, rfl, rfl, uw 730 (by decide +kernel) (by decide +kernel)⟩
theorem fk_X6_281 : FOK RX6 281 6 27 .boolean false := ⟨RX6, TX6, 39, tyX6, rfl, uwX6, tyX6_ok, nmX6, by decide, rfl, rfl, uw 731 (by decide +kernel) (by decide +kernel)⟩
theorem fk_X6_284 : FOK RX6 284 6 28 .int false := ⟨RX6, TX6, 39, tyX6, rfl, uwX6, tyX6_ok, nmX6, by decide, rfl, rfl, uw 732 (by decide +kernel) (by decide +kernel)⟩
theorem fk_X6_287 : FOK RX6 287 6 29 .int false := ⟨RX6, TX6, 39, tyX6, rfl, uwX6, tyX6_ok, nmX6, by decide, rfl, rfl, uw 733 (by decide +kernel) (by decide +kernel)⟩
theorem fk_X6_290 : FOK RX6 290 6 30 .int false := ⟨RX6, TX6, 39, tyX6, rfl, uwX6, tyX6_ok, nmX6, by decide, rfl, rfl, uw 734 (by decide +kernel) (by decide +kernel)⟩
theorem fk_X6_293 : FOK RX6 293 6 31 .int false := ⟨RX6, TX6, 39, tyX6, rfl, uwX6, tyX6_ok, nmX6, by decide, rfl, rfl, uw 735 (by decide +kernel) (by decide +kernel)⟩
theorem fk_X6_50 : FOK RX6 50 6 32 (.array .int) true := ⟨RX6, TX6, 39, tyX6, rfl, uwX6, tyX6_ok, nmX6, by decide, rfl, rfl, uw 736 (by decide +kernel) (by decide +kernel)⟩
theorem fk_X6_53 : FOK RX6 53 6 33 (.array .int) true := ⟨RX6, TX6, 39, tyX6, rfl, uwX6, tyX6_ok, nmX6, by decide, rfl, rfl, uw 737 (by decide +kernel) (by decide +kernel)⟩
theorem fk_X6_56 : FOK RX6 56 6 34 (.array .int) true := ⟨RX6, TX6, 39, tyX6, rfl, uwX6, tyX6_ok, nmX6, by decide, rfl, rfl, uw 738 (by decide +kernel) (by decide +kernel)⟩
theorem fk_X6_59 : FOK RX6 59 6 35 (.array .int) true := ⟨RX6, TX6, 39, tyX6, rfl, uwX6, tyX6_ok, nmX6, by decide, rfl, rfl, uw 739 (by decide +kernel) (by decide +kernel)⟩
theorem fk_X6_62 : FOK RX6 62 6 36 (.array .int) true := ⟨RX6, TX6, 39, tyX6, rfl, uwX6, tyX6_ok, nmX6, by decide, rfl, rfl, uw 740 (by decide +kernel) (by decide +kernel)⟩
theorem fk_X6_65 : FOK RX6 65 6 37 (.array .int) true := ⟨RX6, TX6, 39, tyX6, rfl, uwX6, tyX6_ok, nmX6, by decide, rfl, rfl, uw 741 (by decide +kernel) (by decide +kernel)⟩
theorem fk_X6_301 : FOK RX6 301 6 38 .long false := ⟨RX6, TX6, 39, tyX6, rfl, uwX6, tyX6_ok, nmX6, by decide, rfl, rfl, uw 742 (by decide +kernel) (by decide +kernel)⟩
theorem kc_J2_227 : Cond.constant RJ2 227 (65536) ∈ UW := uw 318 (by decide +kernel) (by decide +kernel)
theorem kc_J11_110 : Cond.constant RJ11 110 (55232) ∈ UW := uw 357 (by decide +kernel) (by decide +kernel)
theorem kc_J11_76 : Cond.constant RJ11 76 (56320) ∈ UW := uw 361 (by decide +kernel) (by decide +kernel)
theorem kc_J6_265 : Cond.constant RJ6 265 (1431655765) ∈ UW := uw 461 (by decide +kernel) (by decide +kernel)
theorem kc_J6_266 : Cond.constant RJ6 266 (858993459) ∈ UW := uw 462 (by decide +kernel) (by decide +kernel)
theorem kc_J6_267 : Cond.constant RJ6 267 (252645135) ∈ UW := uw 463 (by decide +kernel) (by decide +kernel)
theorem kc_X4_68 : Cond.constant RX4 68 (1000000) ∈ UW := uw 610 (by decide +kernel) (by decide +kernel)
theorem kc_X0_7 : Cond.constantLong RX0 7 (1103515245) ∈ UW := uw 647 (by decide +kernel) (by decide +kernel)
theorem kc_X0_15 : Cond.constantLong RX0 15 (12345) ∈ UW := uw 648 (by decide +kernel) (by decide +kernel)
theorem kc_X0_17 : Cond.constantLong RX0 17 (2147483647) ∈ UW := uw 649 (by decide +kernel) (by decide +kernel)
theorem kc_X0_19 : Cond.constant RX0 19 (65536) ∈ UW := uw 650 (by decide +kernel) (by decide +kernel)
theorem kc_X5_234 : Cond.constantLong RX5 234 (1301) ∈ UW := uw 671 (by decide +kernel) (by decide +kernel)
theorem kc_X5_259 : Cond.constantLong RX5 259 (31) ∈ UW := uw 680 (by decide +kernel) (by decide +kernel)
theorem kc_X6_197 : Cond.constant RX6 197 (268435456) ∈ UW := uw 912 (by decide +kernel) (by decide +kernel)
theorem kc_X6_249 : Cond.constant RX6 249 (1000000) ∈ UW := uw 1059 (by decide +kernel) (by decide +kernel)
theorem kc_X6_257 : Cond.constantLong RX6 257 (1103515245) ∈ UW := uw 1084 (by decide +kernel) (by decide +kernel)
theorem kc_X6_263 : Cond.constantLong RX6 263 (12345) ∈ UW := uw 1085 (by decide +kernel) (by decide +kernel)
theorem kc_X6_265 : Cond.constantLong RX6 265 (2147483647) ∈ UW := uw 1086 (by decide +kernel) (by decide +kernel)
theorem kc_X6_267 : Cond.constantLong RX6 267 (65536) ∈ UW := uw 1087 (by decide +kernel) (by decide +kernel)
theorem kc_X6_308 : Cond.constantLong RX6 308 (1301) ∈ UW := uw 1115 (by decide +kernel) (by decide +kernel)
theorem kc_X6_299 : Cond.constantLong RX6 299 (31) ∈ UW := uw 1120 (by decide +kernel) (by decide +kernel)
theorem rk_J0_38 : Cond.fieldLink RJ0 38 "java/lang/String" "COMPACT_STRINGS" "Z" ∈ UW := uw 288 (by decide +kernel) (by decide +kernel)
theorem rk_J0_15 : Cond.fieldLink RJ0 15 "java/lang/String" "coder" "B" ∈ UW := uw 1127 (by decide +kernel) (by decide +kernel)
theorem rk_J0_9 : Cond.fieldLink RJ0 9 "java/lang/String" "value" "[B" ∈ UW := uw 1128 (by decide +kernel) (by decide +kernel)
