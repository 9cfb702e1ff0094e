theorem iX0_init_0 : decode cX0_init 0 = .ok (.aload_n 0, 1) ∧ 0 + 1 = 1 := ⟨by decide +kernel, rfl⟩
theorem iX0_init_1 : decode cX0_init 1 = .ok (.invokespecial 1, 3) ∧ 1 + 3 = 4 := ⟨by decide +kernel, rfl⟩
theorem iX0_init_4 : decode cX0_init 4 = .ok (.return_, 1) ∧ 4 + 1 = 5 := ⟨by decide +kernel, rfl⟩
theorem iX0_next_0 : decode cX0_next 0 = .ok (.aload_n 0, 1) ∧ 0 + 1 = 1 := ⟨by decide +kernel, rfl⟩
theorem iX0_next_1 : decode cX0_next 1 = .ok (.ldc2_w 7, 3) ∧ 1 + 3 = 4 := ⟨by decide +kernel, rfl⟩
theorem iX0_next_4 : decode cX0_next 4 = .ok (.aload_n 0, 1) ∧ 4 + 1 = 5 := ⟨by decide +kernel, rfl⟩
theorem iX0_next_5 : decode cX0_next 5 = .ok (.getfield 9, 3) ∧ 5 + 3 = 8 := ⟨by decide +kernel, rfl⟩
theorem iX0_next_8 : decode cX0_next 8 = .ok (.i2l, 1) ∧ 8 + 1 = 9 := ⟨by decide +kernel, rfl⟩
theorem iX0_next_9 : decode cX0_next 9 = .ok (.lmul, 1) ∧ 9 + 1 = 10 := ⟨by decide +kernel, rfl⟩
theorem iX0_next_10 : decode cX0_next 10 = .ok (.ldc2_w 15, 3) ∧ 10 + 3 = 13 := ⟨by decide +kernel, rfl⟩
theorem iX0_next_13 : decode cX0_next 13 = .ok (.ladd, 1) ∧ 13 + 1 = 14 := ⟨by decide +kernel, rfl⟩
theorem iX0_next_14 : decode cX0_next 14 = .ok (.ldc2_w 17, 3) ∧ 14 + 3 = 17 := ⟨by decide +kernel, rfl⟩
theorem iX0_next_17 : decode cX0_next 17 = .ok (.land, 1) ∧ 17 + 1 = 18 := ⟨by decide +kernel, rfl⟩
theorem iX0_next_18 : decode cX0_next 18 = .ok (.l2i, 1) ∧ 18 + 1 = 19 := ⟨by decide +kernel, rfl⟩
theorem iX0_next_19 : decode cX0_next 19 = .ok (.putfield 9, 3) ∧ 19 + 3 = 22 := ⟨by decide +kernel, rfl⟩
theorem iX0_next_22 : decode cX0_next 22 = .ok (.iload_n 1, 1) ∧ 22 + 1 = 23 := ⟨by decide +kernel, rfl⟩
theorem iX0_next_23 : decode cX0_next 23 = .ok (.ifCond .le 15, 3) ∧ 23 + 3 = 26 := ⟨by decide +kernel, rfl⟩
theorem iX0_next_26 : decode cX0_next 26 = .ok (.aload_n 0, 1) ∧ 26 + 1 = 27 := ⟨by decide +kernel, rfl⟩
theorem iX0_next_27 : decode cX0_next 27 = .ok (.getfield 9, 3) ∧ 27 + 3 = 30 := ⟨by decide +kernel, rfl⟩
theorem iX0_next_30 : decode cX0_next 30 = .ok (.ldc 19, 2) ∧ 30 + 2 = 32 := ⟨by decide +kernel, rfl⟩
theorem iX0_next_32 : decode cX0_next 32 = .ok (.idiv, 1) ∧ 32 + 1 = 33 := ⟨by decide +kernel, rfl⟩
theorem iX0_next_33 : decode cX0_next 33 = .ok (.iload_n 1, 1) ∧ 33 + 1 = 34 := ⟨by decide +kernel, rfl⟩
theorem iX0_next_34 : decode cX0_next 34 = .ok (.irem, 1) ∧ 34 + 1 = 35 := ⟨by decide +kernel, rfl⟩
theorem iX0_next_35 : decode cX0_next 35 = .ok (.goto 4, 3) ∧ 35 + 3 = 38 := ⟨by decide +kernel, rfl⟩
theorem iX0_next_38 : decode cX0_next 38 = .ok (.iconst 0, 1) ∧ 38 + 1 = 39 := ⟨by decide +kernel, rfl⟩
theorem iX0_next_39 : decode cX0_next 39 = .ok (.ireturn, 1) ∧ 39 + 1 = 40 := ⟨by decide +kernel, rfl⟩
theorem iX1_init_0 : decode cX1_init 0 = .ok (.aload_n 0, 1) ∧ 0 + 1 = 1 := ⟨by decide +kernel, rfl⟩
theorem iX1_init_1 : decode cX1_init 1 = .ok (.invokespecial 3, 3) ∧ 1 + 3 = 4 := ⟨by decide +kernel, rfl⟩
theorem iX1_init_4 : decode cX1_init 4 = .ok (.aload_n 0, 1) ∧ 4 + 1 = 5 := ⟨by decide +kernel, rfl⟩
theorem iX1_init_5 : decode cX1_init 5 = .ok (.iconst 5, 1) ∧ 5 + 1 = 6 := ⟨by decide +kernel, rfl⟩
theorem iX1_init_6 : decode cX1_init 6 = .ok (.bipush 12, 2) ∧ 6 + 2 = 8 := ⟨by decide +kernel, rfl⟩
theorem iX1_init_8 : decode cX1_init 8 = .ok (.multianewarray 9 2, 4) ∧ 8 + 4 = 12 := ⟨by decide +kernel, rfl⟩
theorem iX1_init_12 : decode cX1_init 12 = .ok (.putfield 11, 3) ∧ 12 + 3 = 15 := ⟨by decide +kernel, rfl⟩
theorem iX1_init_15 : decode cX1_init 15 = .ok (.return_, 1) ∧ 15 + 1 = 16 := ⟨by decide +kernel, rfl⟩
theorem iX1_lay_0 : decode cX1_lay 0 = .ok (.aload_n 0, 1) ∧ 0 + 1 = 1 := ⟨by decide +kernel, rfl⟩
theorem iX1_lay_1 : decode cX1_lay 1 = .ok (.iload_n 1, 1) ∧ 1 + 1 = 2 := ⟨by decide +kernel, rfl⟩
theorem iX1_lay_2 : decode cX1_lay 2 = .ok (.putfield 16, 3) ∧ 2 + 3 = 5 := ⟨by decide +kernel, rfl⟩
theorem iX1_lay_5 : decode cX1_lay 5 = .ok (.aload_n 0, 1) ∧ 5 + 1 = 6 := ⟨by decide +kernel, rfl⟩
theorem iX1_lay_6 : decode cX1_lay 6 = .ok (.iload_n 2, 1) ∧ 6 + 1 = 7 := ⟨by decide +kernel, rfl⟩
theorem iX1_lay_7 : decode cX1_lay 7 = .ok (.putfield 20, 3) ∧ 7 + 3 = 10 := ⟨by decide +kernel, rfl⟩
theorem iX1_lay_10 : decode cX1_lay 10 = .ok (.aload_n 0, 1) ∧ 10 + 1 = 11 := ⟨by decide +kernel, rfl⟩
theorem iX1_lay_11 : decode cX1_lay 11 = .ok (.aload_n 0, 1) ∧ 11 + 1 = 12 := ⟨by decide +kernel, rfl⟩
theorem iX1_lay_12 : decode cX1_lay 12 = .ok (.getfield 16, 3) ∧ 12 + 3 = 15 := ⟨by decide +kernel, rfl⟩
theorem iX1_lay_15 : decode cX1_lay 15 = .ok (.aload_n 0, 1) ∧ 15 + 1 = 16 := ⟨by decide +kernel, rfl⟩
theorem iX1_lay_16 : decode cX1_lay 16 = .ok (.getfield 20, 3) ∧ 16 + 3 = 19 := ⟨by decide +kernel, rfl⟩
theorem iX1_lay_19 : decode cX1_lay 19 = .ok (.imul, 1) ∧ 19 + 1 = 20 := ⟨by decide +kernel, rfl⟩
theorem iX1_lay_20 : decode cX1_lay 20 = .ok (.putfield 23, 3) ∧ 20 + 3 = 23 := ⟨by decide +kernel, rfl⟩
theorem iX1_lay_23 : decode cX1_lay 23 = .ok (.iconst 0, 1) ∧ 23 + 1 = 24 := ⟨by decide +kernel, rfl⟩
theorem iX1_lay_24 : decode cX1_lay 24 = .ok (.istore_n 3, 1) ∧ 24 + 1 = 25 := ⟨by decide +kernel, rfl⟩
theorem iX1_lay_25 : decode cX1_lay 25 = .ok (.iload_n 3, 1) ∧ 25 + 1 = 26 := ⟨by decide +kernel, rfl⟩
theorem iX1_lay_26 : decode cX1_lay 26 = .ok (.iconst 5, 1) ∧ 26 + 1 = 27 := ⟨by decide +kernel, rfl⟩
theorem iX1_lay_27 : decode cX1_lay 27 = .ok (.if_icmp .ge 41, 3) ∧ 27 + 3 = 30 := ⟨by decide +kernel, rfl⟩
theorem iX1_lay_30 : decode cX1_lay 30 = .ok (.iconst 0, 1) ∧ 30 + 1 = 31 := ⟨by decide +kernel, rfl⟩
theorem iX1_lay_31 : decode cX1_lay 31 = .ok (.istore 4, 2) ∧ 31 + 2 = 33 := ⟨by decide +kernel, rfl⟩
theorem iX1_lay_33 : decode cX1_lay 33 = .ok (.iload 4, 2) ∧ 33 + 2 = 35 := ⟨by decide +kernel, rfl⟩
theorem iX1_lay_35 : decode cX1_lay 35 = .ok (.bipush 12, 2) ∧ 35 + 2 = 37 := ⟨by decide +kernel, rfl⟩
theorem iX1_lay_37 : decode cX1_lay 37 = .ok (.if_icmp .ge 25, 3) ∧ 37 + 3 = 40 := ⟨by decide +kernel, rfl⟩
theorem iX1_lay_40 : decode cX1_lay 40 = .ok (.aload_n 0, 1) ∧ 40 + 1 = 41 := ⟨by decide +kernel, rfl⟩
theorem iX1_lay_41 : decode cX1_lay 41 = .ok (.getfield 11, 3) ∧ 41 + 3 = 44 := ⟨by decide +kernel, rfl⟩
theorem iX1_lay_44 : decode cX1_lay 44 = .ok (.iload_n 3, 1) ∧ 44 + 1 = 45 := ⟨by decide +kernel, rfl⟩
theorem iX1_lay_45 : decode cX1_lay 45 = .ok (.aaload, 1) ∧ 45 + 1 = 46 := ⟨by decide +kernel, rfl⟩
theorem iX1_lay_46 : decode cX1_lay 46 = .ok (.iload 4, 2) ∧ 46 + 2 = 48 := ⟨by decide +kernel, rfl⟩
theorem iX1_lay_48 : decode cX1_lay 48 = .ok (.aload_n 0, 1) ∧ 48 + 1 = 49 := ⟨by decide +kernel, rfl⟩
theorem iX1_lay_49 : decode cX1_lay 49 = .ok (.iload_n 3, 1) ∧ 49 + 1 = 50 := ⟨by decide +kernel, rfl⟩
theorem iX1_lay_50 : decode cX1_lay 50 = .ok (.iload 4, 2) ∧ 50 + 2 = 52 := ⟨by decide +kernel, rfl⟩
theorem iX1_lay_52 : decode cX1_lay 52 = .ok (.invokevirtual 26, 3) ∧ 52 + 3 = 55 := ⟨by decide +kernel, rfl⟩
theorem iX1_lay_55 : decode cX1_lay 55 = .ok (.iastore, 1) ∧ 55 + 1 = 56 := ⟨by decide +kernel, rfl⟩
theorem iX1_lay_56 : decode cX1_lay 56 = .ok (.iinc 4 1, 3) ∧ 56 + 3 = 59 := ⟨by decide +kernel, rfl⟩
theorem iX1_lay_59 : decode cX1_lay 59 = .ok (.goto (-26), 3) ∧ 59 + 3 = 62 := ⟨by decide +kernel, rfl⟩
theorem iX1_lay_62 : decode cX1_lay 62 = .ok (.iinc 3 1, 3) ∧ 62 + 3 = 65 := ⟨by decide +kernel, rfl⟩
theorem iX1_lay_65 : decode cX1_lay 65 = .ok (.goto (-40), 3) ∧ 65 + 3 = 68 := ⟨by decide +kernel, rfl⟩
theorem iX1_lay_68 : decode cX1_lay 68 = .ok (.return_, 1) ∧ 68 + 1 = 69 := ⟨by decide +kernel, rfl⟩
theorem iX1_hasCell_0 : decode cX1_hasCell 0 = .ok (.iload_n 1, 1) ∧ 0 + 1 = 1 := ⟨by decide +kernel, rfl⟩
theorem iX1_hasCell_1 : decode cX1_hasCell 1 = .ok (.ifCond .lt 15, 3) ∧ 1 + 3 = 4 := ⟨by decide +kernel, rfl⟩
theorem iX1_hasCell_4 : decode cX1_hasCell 4 = .ok (.iload_n 1, 1) ∧ 4 + 1 = 5 := ⟨by decide +kernel, rfl⟩
theorem iX1_hasCell_5 : decode cX1_hasCell 5 = .ok (.aload_n 0, 1) ∧ 5 + 1 = 6 := ⟨by decide +kernel, rfl⟩
theorem iX1_hasCell_6 : decode cX1_hasCell 6 = .ok (.getfield 23, 3) ∧ 6 + 3 = 9 := ⟨by decide +kernel, rfl⟩
theorem iX1_hasCell_9 : decode cX1_hasCell 9 = .ok (.if_icmp .ge 7, 3) ∧ 9 + 3 = 12 := ⟨by decide +kernel, rfl⟩
theorem iX1_hasCell_12 : decode cX1_hasCell 12 = .ok (.iconst 1, 1) ∧ 12 + 1 = 13 := ⟨by decide +kernel, rfl⟩
theorem iX1_hasCell_13 : decode cX1_hasCell 13 = .ok (.goto 4, 3) ∧ 13 + 3 = 16 := ⟨by decide +kernel, rfl⟩
theorem iX1_hasCell_16 : decode cX1_hasCell 16 = .ok (.iconst 0, 1) ∧ 16 + 1 = 17 := ⟨by decide +kernel, rfl⟩
theorem iX1_hasCell_17 : decode cX1_hasCell 17 = .ok (.ireturn, 1) ∧ 17 + 1 = 18 := ⟨by decide +kernel, rfl⟩
theorem iX1_fanOf_0 : decode cX1_fanOf 0 = .ok (.aload_n 0, 1) ∧ 0 + 1 = 1 := ⟨by decide +kernel, rfl⟩
theorem iX1_fanOf_1 : decode cX1_fanOf 1 = .ok (.getfield 11, 3) ∧ 1 + 3 = 4 := ⟨by decide +kernel, rfl⟩
theorem iX1_fanOf_4 : decode cX1_fanOf 4 = .ok (.iload_n 1, 1) ∧ 4 + 1 = 5 := ⟨by decide +kernel, rfl⟩
theorem iX1_fanOf_5 : decode cX1_fanOf 5 = .ok (.invokestatic 30, 3) ∧ 5 + 3 = 8 := ⟨by decide +kernel, rfl⟩
theorem iX1_fanOf_8 : decode cX1_fanOf 8 = .ok (.ifCond .eq 7, 3) ∧ 8 + 3 = 11 := ⟨by decide +kernel, rfl⟩
theorem iX1_fanOf_11 : decode cX1_fanOf 11 = .ok (.iload_n 1, 1) ∧ 11 + 1 = 12 := ⟨by decide +kernel, rfl⟩
theorem iX1_fanOf_12 : decode cX1_fanOf 12 = .ok (.goto 4, 3) ∧ 12 + 3 = 15 := ⟨by decide +kernel, rfl⟩
theorem iX1_fanOf_15 : decode cX1_fanOf 15 = .ok (.iconst 0, 1) ∧ 15 + 1 = 16 := ⟨by decide +kernel, rfl⟩
theorem iX1_fanOf_16 : decode cX1_fanOf 16 = .ok (.aaload, 1) ∧ 16 + 1 = 17 := ⟨by decide +kernel, rfl⟩
theorem iX1_fanOf_17 : decode cX1_fanOf 17 = .ok (.areturn, 1) ∧ 17 + 1 = 18 := ⟨by decide +kernel, rfl⟩
theorem iX1_fanFrom_0 : decode cX1_fanFrom 0 = .ok (.iconst 0, 1) ∧ 0 + 1 = 1 := ⟨by decide +kernel, rfl⟩
theorem iX1_fanFrom_1 : decode cX1_fanFrom 1 = .ok (.istore_n 3, 1) ∧ 1 + 1 = 2 := ⟨by decide +kernel, rfl⟩
theorem iX1_fanFrom_2 : decode cX1_fanFrom 2 = .ok (.aload_n 0, 1) ∧ 2 + 1 = 3 := ⟨by decide +kernel, rfl⟩
theorem iX1_fanFrom_3 : decode cX1_fanFrom 3 = .ok (.getfield 20, 3) ∧ 3 + 3 = 6 := ⟨by decide +kernel, rfl⟩
theorem iX1_fanFrom_6 : decode cX1_fanFrom 6 = .ok (.ifCond .le 11, 3) ∧ 6 + 3 = 9 := ⟨by decide +kernel, rfl⟩
theorem iX1_fanFrom_9 : decode cX1_fanFrom 9 = .ok (.iload_n 2, 1) ∧ 9 + 1 = 10 := ⟨by decide +kernel, rfl⟩
theorem iX1_fanFrom_10 : decode cX1_fanFrom 10 = .ok (.aload_n 0, 1) ∧ 10 + 1 = 11 := ⟨by decide +kernel, rfl⟩
theorem iX1_fanFrom_11 : decode cX1_fanFrom 11 = .ok (.getfield 23, 3) ∧ 11 + 3 = 14 := ⟨by decide +kernel, rfl⟩
theorem iX1_fanFrom_14 : decode cX1_fanFrom 14 = .ok (.if_icmp .lt 5, 3) ∧ 14 + 3 = 17 := ⟨by decide +kernel, rfl⟩
theorem iX1_fanFrom_17 : decode cX1_fanFrom 17 = .ok (.iload_n 3, 1) ∧ 17 + 1 = 18 := ⟨by decide +kernel, rfl⟩
theorem iX1_fanFrom_18 : decode cX1_fanFrom 18 = .ok (.ireturn, 1) ∧ 18 + 1 = 19 := ⟨by decide +kernel, rfl⟩
theorem iX1_fanFrom_19 : decode cX1_fanFrom 19 = .ok (.iconst 0, 1) ∧ 19 + 1 = 20 := ⟨by decide +kernel, rfl⟩
theorem iX1_fanFrom_20 : decode cX1_fanFrom 20 = .ok (.istore 4, 2) ∧ 20 + 2 = 22 := ⟨by decide +kernel, rfl⟩
theorem iX1_fanFrom_22 : decode cX1_fanFrom 22 = .ok (.iload 4, 2) ∧ 22 + 2 = 24 := ⟨by decide +kernel, rfl⟩
theorem iX1_fanFrom_24 : decode cX1_fanFrom 24 = .ok (.aload_n 0, 1) ∧ 24 + 1 = 25 := ⟨by decide +kernel, rfl⟩
theorem iX1_fanFrom_25 : decode cX1_fanFrom 25 = .ok (.getfield 23, 3) ∧ 25 + 3 = 28 := ⟨by decide +kernel, rfl⟩
theorem iX1_fanFrom_28 : decode cX1_fanFrom 28 = .ok (.if_icmp .ge 72, 3) ∧ 28 + 3 = 31 := ⟨by decide +kernel, rfl⟩
theorem iX1_fanFrom_31 : decode cX1_fanFrom 31 = .ok (.iload 4, 2) ∧ 31 + 2 = 33 := ⟨by decide +kernel, rfl⟩
theorem iX1_fanFrom_33 : decode cX1_fanFrom 33 = .ok (.bipush 12, 2) ∧ 33 + 2 = 35 := ⟨by decide +kernel, rfl⟩
theorem iX1_fanFrom_35 : decode cX1_fanFrom 35 = .ok (.if_icmp .ge 65, 3) ∧ 35 + 3 = 38 := ⟨by decide +kernel, rfl⟩
theorem iX1_fanFrom_38 : decode cX1_fanFrom 38 = .ok (.iload_n 2, 1) ∧ 38 + 1 = 39 := ⟨by decide +kernel, rfl⟩
theorem iX1_fanFrom_39 : decode cX1_fanFrom 39 = .ok (.aload_n 0, 1) ∧ 39 + 1 = 40 := ⟨by decide +kernel, rfl⟩
theorem iX1_fanFrom_40 : decode cX1_fanFrom 40 = .ok (.getfield 20, 3) ∧ 40 + 3 = 43 := ⟨by decide +kernel, rfl⟩
theorem iX1_fanFrom_43 : decode cX1_fanFrom 43 = .ok (.idiv, 1) ∧ 43 + 1 = 44 := ⟨by decide +kernel, rfl⟩
theorem iX1_fanFrom_44 : decode cX1_fanFrom 44 = .ok (.iload 4, 2) ∧ 44 + 2 = 46 := ⟨by decide +kernel, rfl⟩
theorem iX1_fanFrom_46 : decode cX1_fanFrom 46 = .ok (.aload_n 0, 1) ∧ 46 + 1 = 47 := ⟨by decide +kernel, rfl⟩
theorem iX1_fanFrom_47 : decode cX1_fanFrom 47 = .ok (.getfield 20, 3) ∧ 47 + 3 = 50 := ⟨by decide +kernel, rfl⟩
theorem iX1_fanFrom_50 : decode cX1_fanFrom 50 = .ok (.idiv, 1) ∧ 50 + 1 = 51 := ⟨by decide +kernel, rfl⟩
theorem iX1_fanFrom_51 : decode cX1_fanFrom 51 = .ok (.isub, 1) ∧ 51 + 1 = 52 := ⟨by decide +kernel, rfl⟩
theorem iX1_fanFrom_52 : decode cX1_fanFrom 52 = .ok (.invokestatic 34, 3) ∧ 52 + 3 = 55 := ⟨by decide +kernel, rfl⟩
theorem iX1_fanFrom_55 : decode cX1_fanFrom 55 = .ok (.istore 5, 2) ∧ 55 + 2 = 57 := ⟨by decide +kernel, rfl⟩
theorem iX1_fanFrom_57 : decode cX1_fanFrom 57 = .ok (.iload_n 2, 1) ∧ 57 + 1 = 58 := ⟨by decide +kernel, rfl⟩
theorem iX1_fanFrom_58 : decode cX1_fanFrom 58 = .ok (.aload_n 0, 1) ∧ 58 + 1 = 59 := ⟨by decide +kernel, rfl⟩
theorem iX1_fanFrom_59 : decode cX1_fanFrom 59 = .ok (.getfield 20, 3) ∧ 59 + 3 = 62 := ⟨by decide +kernel, rfl⟩
theorem iX1_fanFrom_62 : decode cX1_fanFrom 62 = .ok (.irem, 1) ∧ 62 + 1 = 63 := ⟨by decide +kernel, rfl⟩
theorem iX1_fanFrom_63 : decode cX1_fanFrom 63 = .ok (.iload 4, 2) ∧ 63 + 2 = 65 := ⟨by decide +kernel, rfl⟩
theorem iX1_fanFrom_65 : decode cX1_fanFrom 65 = .ok (.aload_n 0, 1) ∧ 65 + 1 = 66 := ⟨by decide +kernel, rfl⟩
theorem iX1_fanFrom_66 : decode cX1_fanFrom 66 = .ok (.getfield 20, 3) ∧ 66 + 3 = 69 := ⟨by decide +kernel, rfl⟩
theorem iX1_fanFrom_69 : decode cX1_fanFrom 69 = .ok (.irem, 1) ∧ 69 + 1 = 70 := ⟨by decide +kernel, rfl⟩
theorem iX1_fanFrom_70 : decode cX1_fanFrom 70 = .ok (.isub, 1) ∧ 70 + 1 = 71 := ⟨by decide +kernel, rfl⟩
theorem iX1_fanFrom_71 : decode cX1_fanFrom 71 = .ok (.invokestatic 34, 3) ∧ 71 + 3 = 74 := ⟨by decide +kernel, rfl⟩
theorem iX1_fanFrom_74 : decode cX1_fanFrom 74 = .ok (.istore 6, 2) ∧ 74 + 2 = 76 := ⟨by decide +kernel, rfl⟩
theorem iX1_fanFrom_76 : decode cX1_fanFrom 76 = .ok (.iload_n 1, 1) ∧ 76 + 1 = 77 := ⟨by decide +kernel, rfl⟩
theorem iX1_fanFrom_77 : decode cX1_fanFrom 77 = .ok (.iload 5, 2) ∧ 77 + 2 = 79 := ⟨by decide +kernel, rfl⟩
theorem iX1_fanFrom_79 : decode cX1_fanFrom 79 = .ok (.iload 6, 2) ∧ 79 + 2 = 81 := ⟨by decide +kernel, rfl⟩
theorem iX1_fanFrom_81 : decode cX1_fanFrom 81 = .ok (.invokestatic 40, 3) ∧ 81 + 3 = 84 := ⟨by decide +kernel, rfl⟩
theorem iX1_fanFrom_84 : decode cX1_fanFrom 84 = .ok (.ifCond .eq 10, 3) ∧ 84 + 3 = 87 := ⟨by decide +kernel, rfl⟩
theorem iX1_fanFrom_87 : decode cX1_fanFrom 87 = .ok (.iload_n 3, 1) ∧ 87 + 1 = 88 := ⟨by decide +kernel, rfl⟩
theorem iX1_fanFrom_88 : decode cX1_fanFrom 88 = .ok (.iconst 1, 1) ∧ 88 + 1 = 89 := ⟨by decide +kernel, rfl⟩
theorem iX1_fanFrom_89 : decode cX1_fanFrom 89 = .ok (.iload 4, 2) ∧ 89 + 2 = 91 := ⟨by decide +kernel, rfl⟩
theorem iX1_fanFrom_91 : decode cX1_fanFrom 91 = .ok (.ishl, 1) ∧ 91 + 1 = 92 := ⟨by decide +kernel, rfl⟩
theorem iX1_fanFrom_92 : decode cX1_fanFrom 92 = .ok (.ior, 1) ∧ 92 + 1 = 93 := ⟨by decide +kernel, rfl⟩
theorem iX1_fanFrom_93 : decode cX1_fanFrom 93 = .ok (.istore_n 3, 1) ∧ 93 + 1 = 94 := ⟨by decide +kernel, rfl⟩
theorem iX1_fanFrom_94 : decode cX1_fanFrom 94 = .ok (.iinc 4 1, 3) ∧ 94 + 3 = 97 := ⟨by decide +kernel, rfl⟩
theorem iX1_fanFrom_97 : decode cX1_fanFrom 97 = .ok (.goto (-75), 3) ∧ 97 + 3 = 100 := ⟨by decide +kernel, rfl⟩
theorem iX1_fanFrom_100 : decode cX1_fanFrom 100 = .ok (.iload_n 3, 1) ∧ 100 + 1 = 101 := ⟨by decide +kernel, rfl⟩
theorem iX1_fanFrom_101 : decode cX1_fanFrom 101 = .ok (.ireturn, 1) ∧ 101 + 1 = 102 := ⟨by decide +kernel, rfl⟩
theorem iX1_spread_0 : decode cX1_spread 0 = .ok (.iconst 0, 1) ∧ 0 + 1 = 1 := ⟨by decide +kernel, rfl⟩
theorem iX1_spread_1 : decode cX1_spread 1 = .ok (.istore_n 2, 1) ∧ 1 + 1 = 2 := ⟨by decide +kernel, rfl⟩
theorem iX1_spread_2 : decode cX1_spread 2 = .ok (.iconst 0, 1) ∧ 2 + 1 = 3 := ⟨by decide +kernel, rfl⟩
theorem iX1_spread_3 : decode cX1_spread 3 = .ok (.istore_n 3, 1) ∧ 3 + 1 = 4 := ⟨by decide +kernel, rfl⟩
theorem iX1_spread_4 : decode cX1_spread 4 = .ok (.iload_n 3, 1) ∧ 4 + 1 = 5 := ⟨by decide +kernel, rfl⟩
theorem iX1_spread_5 : decode cX1_spread 5 = .ok (.aload_n 0, 1) ∧ 5 + 1 = 6 := ⟨by decide +kernel, rfl⟩
theorem iX1_spread_6 : decode cX1_spread 6 = .ok (.arraylength, 1) ∧ 6 + 1 = 7 := ⟨by decide +kernel, rfl⟩
theorem iX1_spread_7 : decode cX1_spread 7 = .ok (.if_icmp .ge 24, 3) ∧ 7 + 3 = 10 := ⟨by decide +kernel, rfl⟩
theorem iX1_spread_10 : decode cX1_spread 10 = .ok (.iload_n 1, 1) ∧ 10 + 1 = 11 := ⟨by decide +kernel, rfl⟩
theorem iX1_spread_11 : decode cX1_spread 11 = .ok (.iload_n 3, 1) ∧ 11 + 1 = 12 := ⟨by decide +kernel, rfl⟩
theorem iX1_spread_12 : decode cX1_spread 12 = .ok (.ishr, 1) ∧ 12 + 1 = 13 := ⟨by decide +kernel, rfl⟩
theorem iX1_spread_13 : decode cX1_spread 13 = .ok (.iconst 1, 1) ∧ 13 + 1 = 14 := ⟨by decide +kernel, rfl⟩
theorem iX1_spread_14 : decode cX1_spread 14 = .ok (.iand, 1) ∧ 14 + 1 = 15 := ⟨by decide +kernel, rfl⟩
theorem iX1_spread_15 : decode cX1_spread 15 = .ok (.iconst 1, 1) ∧ 15 + 1 = 16 := ⟨by decide +kernel, rfl⟩
theorem iX1_spread_16 : decode cX1_spread 16 = .ok (.if_icmp .ne 9, 3) ∧ 16 + 3 = 19 := ⟨by decide +kernel, rfl⟩
theorem iX1_spread_19 : decode cX1_spread 19 = .ok (.iload_n 2, 1) ∧ 19 + 1 = 20 := ⟨by decide +kernel, rfl⟩
theorem iX1_spread_20 : decode cX1_spread 20 = .ok (.aload_n 0, 1) ∧ 20 + 1 = 21 := ⟨by decide +kernel, rfl⟩
theorem iX1_spread_21 : decode cX1_spread 21 = .ok (.iload_n 3, 1) ∧ 21 + 1 = 22 := ⟨by decide +kernel, rfl⟩
theorem iX1_spread_22 : decode cX1_spread 22 = .ok (.iaload, 1) ∧ 22 + 1 = 23 := ⟨by decide +kernel, rfl⟩
theorem iX1_spread_23 : decode cX1_spread 23 = .ok (.ior, 1) ∧ 23 + 1 = 24 := ⟨by decide +kernel, rfl⟩
theorem iX1_spread_24 : decode cX1_spread 24 = .ok (.istore_n 2, 1) ∧ 24 + 1 = 25 := ⟨by decide +kernel, rfl⟩
theorem iX1_spread_25 : decode cX1_spread 25 = .ok (.iinc 3 1, 3) ∧ 25 + 3 = 28 := ⟨by decide +kernel, rfl⟩
theorem iX1_spread_28 : decode cX1_spread 28 = .ok (.goto (-24), 3) ∧ 28 + 3 = 31 := ⟨by decide +kernel, rfl⟩
theorem iX1_spread_31 : decode cX1_spread 31 = .ok (.iload_n 2, 1) ∧ 31 + 1 = 32 := ⟨by decide +kernel, rfl⟩
theorem iX1_spread_32 : decode cX1_spread 32 = .ok (.ireturn, 1) ∧ 32 + 1 = 33 := ⟨by decide +kernel, rfl⟩
theorem iX1_partAround_0 : decode cX1_partAround 0 = .ok (.iload_n 2, 1) ∧ 0 + 1 = 1 := ⟨by decide +kernel, rfl⟩
theorem iX1_partAround_1 : decode cX1_partAround 1 = .ok (.istore_n 3, 1) ∧ 1 + 1 = 2 := ⟨by decide +kernel, rfl⟩
theorem iX1_partAround_2 : decode cX1_partAround 2 = .ok (.iconst 0, 1) ∧ 2 + 1 = 3 := ⟨by decide +kernel, rfl⟩
theorem iX1_partAround_3 : decode cX1_partAround 3 = .ok (.istore 4, 2) ∧ 3 + 2 = 5 := ⟨by decide +kernel, rfl⟩
theorem iX1_partAround_5 : decode cX1_partAround 5 = .ok (.iload 4, 2) ∧ 5 + 2 = 7 := ⟨by decide +kernel, rfl⟩
theorem iX1_partAround_7 : decode cX1_partAround 7 = .ok (.bipush 12, 2) ∧ 7 + 2 = 9 := ⟨by decide +kernel, rfl⟩
theorem iX1_partAround_9 : decode cX1_partAround 9 = .ok (.if_icmp .ge 31, 3) ∧ 9 + 3 = 12 := ⟨by decide +kernel, rfl⟩
theorem iX1_partAround_12 : decode cX1_partAround 12 = .ok (.iload_n 3, 1) ∧ 12 + 1 = 13 := ⟨by decide +kernel, rfl⟩
theorem iX1_partAround_13 : decode cX1_partAround 13 = .ok (.aload_n 0, 1) ∧ 13 + 1 = 14 := ⟨by decide +kernel, rfl⟩
theorem iX1_partAround_14 : decode cX1_partAround 14 = .ok (.iload_n 3, 1) ∧ 14 + 1 = 15 := ⟨by decide +kernel, rfl⟩
theorem iX1_partAround_15 : decode cX1_partAround 15 = .ok (.invokestatic 44, 3) ∧ 15 + 3 = 18 := ⟨by decide +kernel, rfl⟩
theorem iX1_partAround_18 : decode cX1_partAround 18 = .ok (.iload_n 1, 1) ∧ 18 + 1 = 19 := ⟨by decide +kernel, rfl⟩
theorem iX1_partAround_19 : decode cX1_partAround 19 = .ok (.iand, 1) ∧ 19 + 1 = 20 := ⟨by decide +kernel, rfl⟩
theorem iX1_partAround_20 : decode cX1_partAround 20 = .ok (.ior, 1) ∧ 20 + 1 = 21 := ⟨by decide +kernel, rfl⟩
theorem iX1_partAround_21 : decode cX1_partAround 21 = .ok (.istore 5, 2) ∧ 21 + 2 = 23 := ⟨by decide +kernel, rfl⟩
theorem iX1_partAround_23 : decode cX1_partAround 23 = .ok (.iload 5, 2) ∧ 23 + 2 = 25 := ⟨by decide +kernel, rfl⟩
theorem iX1_partAround_25 : decode cX1_partAround 25 = .ok (.iload_n 3, 1) ∧ 25 + 1 = 26 := ⟨by decide +kernel, rfl⟩
theorem iX1_partAround_26 : decode cX1_partAround 26 = .ok (.if_icmp .ne 5, 3) ∧ 26 + 3 = 29 := ⟨by decide +kernel, rfl⟩
theorem iX1_partAround_29 : decode cX1_partAround 29 = .ok (.iload_n 3, 1) ∧ 29 + 1 = 30 := ⟨by decide +kernel, rfl⟩
theorem iX1_partAround_30 : decode cX1_partAround 30 = .ok (.ireturn, 1) ∧ 30 + 1 = 31 := ⟨by decide +kernel, rfl⟩
theorem iX1_partAround_31 : decode cX1_partAround 31 = .ok (.iload 5, 2) ∧ 31 + 2 = 33 := ⟨by decide +kernel, rfl⟩
theorem iX1_partAround_33 : decode cX1_partAround 33 = .ok (.istore_n 3, 1) ∧ 33 + 1 = 34 := ⟨by decide +kernel, rfl⟩
theorem iX1_partAround_34 : decode cX1_partAround 34 = .ok (.iinc 4 1, 3) ∧ 34 + 3 = 37 := ⟨by decide +kernel, rfl⟩
theorem iX1_partAround_37 : decode cX1_partAround 37 = .ok (.goto (-32), 3) ∧ 37 + 3 = 40 := ⟨by decide +kernel, rfl⟩
theorem iX1_partAround_40 : decode cX1_partAround 40 = .ok (.iload_n 3, 1) ∧ 40 + 1 = 41 := ⟨by decide +kernel, rfl⟩
theorem iX1_partAround_41 : decode cX1_partAround 41 = .ok (.ireturn, 1) ∧ 41 + 1 = 42 := ⟨by decide +kernel, rfl⟩
theorem iX1_partCount_0 : decode cX1_partCount 0 = .ok (.iload_n 1, 1) ∧ 0 + 1 = 1 := ⟨by decide +kernel, rfl⟩
theorem iX1_partCount_1 : decode cX1_partCount 1 = .ok (.istore_n 2, 1) ∧ 1 + 1 = 2 := ⟨by decide +kernel, rfl⟩
theorem iX1_partCount_2 : decode cX1_partCount 2 = .ok (.iconst 0, 1) ∧ 2 + 1 = 3 := ⟨by decide +kernel, rfl⟩
theorem iX1_partCount_3 : decode cX1_partCount 3 = .ok (.istore_n 3, 1) ∧ 3 + 1 = 4 := ⟨by decide +kernel, rfl⟩
theorem iX1_partCount_4 : decode cX1_partCount 4 = .ok (.iconst 0, 1) ∧ 4 + 1 = 5 := ⟨by decide +kernel, rfl⟩
theorem iX1_partCount_5 : decode cX1_partCount 5 = .ok (.istore 4, 2) ∧ 5 + 2 = 7 := ⟨by decide +kernel, rfl⟩
theorem iX1_partCount_7 : decode cX1_partCount 7 = .ok (.iload 4, 2) ∧ 7 + 2 = 9 := ⟨by decide +kernel, rfl⟩
theorem iX1_partCount_9 : decode cX1_partCount 9 = .ok (.bipush 12, 2) ∧ 9 + 2 = 11 := ⟨by decide +kernel, rfl⟩
theorem iX1_partCount_11 : decode cX1_partCount 11 = .ok (.if_icmp .ge 32, 3) ∧ 11 + 3 = 14 := ⟨by decide +kernel, rfl⟩
theorem iX1_partCount_14 : decode cX1_partCount 14 = .ok (.iload_n 2, 1) ∧ 14 + 1 = 15 := ⟨by decide +kernel, rfl⟩
theorem iX1_partCount_15 : decode cX1_partCount 15 = .ok (.ifCond .eq 28, 3) ∧ 15 + 3 = 18 := ⟨by decide +kernel, rfl⟩
theorem iX1_partCount_18 : decode cX1_partCount 18 = .ok (.iload_n 2, 1) ∧ 18 + 1 = 19 := ⟨by decide +kernel, rfl⟩
theorem iX1_partCount_19 : decode cX1_partCount 19 = .ok (.aload_n 0, 1) ∧ 19 + 1 = 20 := ⟨by decide +kernel, rfl⟩
theorem iX1_partCount_20 : decode cX1_partCount 20 = .ok (.iload_n 1, 1) ∧ 20 + 1 = 21 := ⟨by decide +kernel, rfl⟩
theorem iX1_partCount_21 : decode cX1_partCount 21 = .ok (.iconst 1, 1) ∧ 21 + 1 = 22 := ⟨by decide +kernel, rfl⟩
theorem iX1_partCount_22 : decode cX1_partCount 22 = .ok (.iload_n 2, 1) ∧ 22 + 1 = 23 := ⟨by decide +kernel, rfl⟩
theorem iX1_partCount_23 : decode cX1_partCount 23 = .ok (.invokestatic 48, 3) ∧ 23 + 3 = 26 := ⟨by decide +kernel, rfl⟩
theorem iX1_partCount_26 : decode cX1_partCount 26 = .ok (.ishl, 1) ∧ 26 + 1 = 27 := ⟨by decide +kernel, rfl⟩
theorem iX1_partCount_27 : decode cX1_partCount 27 = .ok (.invokestatic 51, 3) ∧ 27 + 3 = 30 := ⟨by decide +kernel, rfl⟩
theorem iX1_partCount_30 : decode cX1_partCount 30 = .ok (.iconst (-1), 1) ∧ 30 + 1 = 31 := ⟨by decide +kernel, rfl⟩
theorem iX1_partCount_31 : decode cX1_partCount 31 = .ok (.ixor, 1) ∧ 31 + 1 = 32 := ⟨by decide +kernel, rfl⟩
theorem iX1_partCount_32 : decode cX1_partCount 32 = .ok (.iand, 1) ∧ 32 + 1 = 33 := ⟨by decide +kernel, rfl⟩
theorem iX1_partCount_33 : decode cX1_partCount 33 = .ok (.istore_n 2, 1) ∧ 33 + 1 = 34 := ⟨by decide +kernel, rfl⟩
theorem iX1_partCount_34 : decode cX1_partCount 34 = .ok (.iinc 3 1, 3) ∧ 34 + 3 = 37 := ⟨by decide +kernel, rfl⟩
theorem iX1_partCount_37 : decode cX1_partCount 37 = .ok (.iinc 4 1, 3) ∧ 37 + 3 = 40 := ⟨by decide +kernel, rfl⟩
theorem iX1_partCount_40 : decode cX1_partCount 40 = .ok (.goto (-33), 3) ∧ 40 + 3 = 43 := ⟨by decide +kernel, rfl⟩
theorem iX1_partCount_43 : decode cX1_partCount 43 = .ok (.iload_n 3, 1) ∧ 43 + 1 = 44 := ⟨by decide +kernel, rfl⟩
theorem iX1_partCount_44 : decode cX1_partCount 44 = .ok (.ireturn, 1) ∧ 44 + 1 = 45 := ⟨by decide +kernel, rfl⟩
theorem iX1_isTwoShaded_0 : decode cX1_isTwoShaded 0 = .ok (.iload_n 1, 1) ∧ 0 + 1 = 1 := ⟨by decide +kernel, rfl⟩
theorem iX1_isTwoShaded_1 : decode cX1_isTwoShaded 1 = .ok (.istore_n 2, 1) ∧ 1 + 1 = 2 := ⟨by decide +kernel, rfl⟩
theorem iX1_isTwoShaded_2 : decode cX1_isTwoShaded 2 = .ok (.iconst 0, 1) ∧ 2 + 1 = 3 := ⟨by decide +kernel, rfl⟩
theorem iX1_isTwoShaded_3 : decode cX1_isTwoShaded 3 = .ok (.istore_n 3, 1) ∧ 3 + 1 = 4 := ⟨by decide +kernel, rfl⟩
theorem iX1_isTwoShaded_4 : decode cX1_isTwoShaded 4 = .ok (.iload_n 3, 1) ∧ 4 + 1 = 5 := ⟨by decide +kernel, rfl⟩
theorem iX1_isTwoShaded_5 : decode cX1_isTwoShaded 5 = .ok (.bipush 12, 2) ∧ 5 + 2 = 7 := ⟨by decide +kernel, rfl⟩
theorem iX1_isTwoShaded_7 : decode cX1_isTwoShaded 7 = .ok (.if_icmp .ge 86, 3) ∧ 7 + 3 = 10 := ⟨by decide +kernel, rfl⟩
theorem iX1_isTwoShaded_10 : decode cX1_isTwoShaded 10 = .ok (.iload_n 2, 1) ∧ 10 + 1 = 11 := ⟨by decide +kernel, rfl⟩
theorem iX1_isTwoShaded_11 : decode cX1_isTwoShaded 11 = .ok (.ifCond .eq 82, 3) ∧ 11 + 3 = 14 := ⟨by decide +kernel, rfl⟩
theorem iX1_isTwoShaded_14 : decode cX1_isTwoShaded 14 = .ok (.iconst 1, 1) ∧ 14 + 1 = 15 := ⟨by decide +kernel, rfl⟩
theorem iX1_isTwoShaded_15 : decode cX1_isTwoShaded 15 = .ok (.iload_n 2, 1) ∧ 15 + 1 = 16 := ⟨by decide +kernel, rfl⟩
theorem iX1_isTwoShaded_16 : decode cX1_isTwoShaded 16 = .ok (.invokestatic 48, 3) ∧ 16 + 3 = 19 := ⟨by decide +kernel, rfl⟩
theorem iX1_isTwoShaded_19 : decode cX1_isTwoShaded 19 = .ok (.ishl, 1) ∧ 19 + 1 = 20 := ⟨by decide +kernel, rfl⟩
theorem iX1_isTwoShaded_20 : decode cX1_isTwoShaded 20 = .ok (.istore 4, 2) ∧ 20 + 2 = 22 := ⟨by decide +kernel, rfl⟩
theorem iX1_isTwoShaded_22 : decode cX1_isTwoShaded 22 = .ok (.iconst 0, 1) ∧ 22 + 1 = 23 := ⟨by decide +kernel, rfl⟩
theorem iX1_isTwoShaded_23 : decode cX1_isTwoShaded 23 = .ok (.istore 5, 2) ∧ 23 + 2 = 25 := ⟨by decide +kernel, rfl⟩
theorem iX1_isTwoShaded_25 : decode cX1_isTwoShaded 25 = .ok (.iconst 0, 1) ∧ 25 + 1 = 26 := ⟨by decide +kernel, rfl⟩
theorem iX1_isTwoShaded_26 : decode cX1_isTwoShaded 26 = .ok (.istore 6, 2) ∧ 26 + 2 = 28 := ⟨by decide +kernel, rfl⟩
theorem iX1_isTwoShaded_28 : decode cX1_isTwoShaded 28 = .ok (.iload 6, 2) ∧ 28 + 2 = 30 := ⟨by decide +kernel, rfl⟩
theorem iX1_isTwoShaded_30 : decode cX1_isTwoShaded 30 = .ok (.bipush 12, 2) ∧ 30 + 2 = 32 := ⟨by decide +kernel, rfl⟩
theorem iX1_isTwoShaded_32 : decode cX1_isTwoShaded 32 = .ok (.if_icmp .ge 35, 3) ∧ 32 + 3 = 35 := ⟨by decide +kernel, rfl⟩
theorem iX1_isTwoShaded_35 : decode cX1_isTwoShaded 35 = .ok (.iload 5, 2) ∧ 35 + 2 = 37 := ⟨by decide +kernel, rfl⟩
theorem iX1_isTwoShaded_37 : decode cX1_isTwoShaded 37 = .ok (.aload_n 0, 1) ∧ 37 + 1 = 38 := ⟨by decide +kernel, rfl⟩
theorem iX1_isTwoShaded_38 : decode cX1_isTwoShaded 38 = .ok (.iload 4, 2) ∧ 38 + 2 = 40 := ⟨by decide +kernel, rfl⟩
theorem iX1_isTwoShaded_40 : decode cX1_isTwoShaded 40 = .ok (.invokestatic 44, 3) ∧ 40 + 3 = 43 := ⟨by decide +kernel, rfl⟩
theorem iX1_isTwoShaded_43 : decode cX1_isTwoShaded 43 = .ok (.iload_n 1, 1) ∧ 43 + 1 = 44 := ⟨by decide +kernel, rfl⟩
theorem iX1_isTwoShaded_44 : decode cX1_isTwoShaded 44 = .ok (.iand, 1) ∧ 44 + 1 = 45 := ⟨by decide +kernel, rfl⟩
theorem iX1_isTwoShaded_45 : decode cX1_isTwoShaded 45 = .ok (.ior, 1) ∧ 45 + 1 = 46 := ⟨by decide +kernel, rfl⟩
theorem iX1_isTwoShaded_46 : decode cX1_isTwoShaded 46 = .ok (.istore 5, 2) ∧ 46 + 2 = 48 := ⟨by decide +kernel, rfl⟩
theorem iX1_isTwoShaded_48 : decode cX1_isTwoShaded 48 = .ok (.iload 4, 2) ∧ 48 + 2 = 50 := ⟨by decide +kernel, rfl⟩
theorem iX1_isTwoShaded_50 : decode cX1_isTwoShaded 50 = .ok (.aload_n 0, 1) ∧ 50 + 1 = 51 := ⟨by decide +kernel, rfl⟩
theorem iX1_isTwoShaded_51 : decode cX1_isTwoShaded 51 = .ok (.iload 5, 2) ∧ 51 + 2 = 53 := ⟨by decide +kernel, rfl⟩
theorem iX1_isTwoShaded_53 : decode cX1_isTwoShaded 53 = .ok (.invokestatic 44, 3) ∧ 53 + 3 = 56 := ⟨by decide +kernel, rfl⟩
theorem iX1_isTwoShaded_56 : decode cX1_isTwoShaded 56 = .ok (.iload_n 1, 1) ∧ 56 + 1 = 57 := ⟨by decide +kernel, rfl⟩
theorem iX1_isTwoShaded_57 : decode cX1_isTwoShaded 57 = .ok (.iand, 1) ∧ 57 + 1 = 58 := ⟨by decide +kernel, rfl⟩
theorem iX1_isTwoShaded_58 : decode cX1_isTwoShaded 58 = .ok (.ior, 1) ∧ 58 + 1 = 59 := ⟨by decide +kernel, rfl⟩
theorem iX1_isTwoShaded_59 : decode cX1_isTwoShaded 59 = .ok (.istore 4, 2) ∧ 59 + 2 = 61 := ⟨by decide +kernel, rfl⟩
theorem iX1_isTwoShaded_61 : decode cX1_isTwoShaded 61 = .ok (.iinc 6 1, 3) ∧ 61 + 3 = 64 := ⟨by decide +kernel, rfl⟩
theorem iX1_isTwoShaded_64 : decode cX1_isTwoShaded 64 = .ok (.goto (-36), 3) ∧ 64 + 3 = 67 := ⟨by decide +kernel, rfl⟩
theorem iX1_isTwoShaded_67 : decode cX1_isTwoShaded 67 = .ok (.iload 4, 2) ∧ 67 + 2 = 69 := ⟨by decide +kernel, rfl⟩
theorem iX1_isTwoShaded_69 : decode cX1_isTwoShaded 69 = .ok (.iload 5, 2) ∧ 69 + 2 = 71 := ⟨by decide +kernel, rfl⟩
theorem iX1_isTwoShaded_71 : decode cX1_isTwoShaded 71 = .ok (.iand, 1) ∧ 71 + 1 = 72 := ⟨by decide +kernel, rfl⟩
theorem iX1_isTwoShaded_72 : decode cX1_isTwoShaded 72 = .ok (.ifCond .eq 5, 3) ∧ 72 + 3 = 75 := ⟨by decide +kernel, rfl⟩
theorem iX1_isTwoShaded_75 : decode cX1_isTwoShaded 75 = .ok (.iconst 0, 1) ∧ 75 + 1 = 76 := ⟨by decide +kernel, rfl⟩
theorem iX1_isTwoShaded_76 : decode cX1_isTwoShaded 76 = .ok (.ireturn, 1) ∧ 76 + 1 = 77 := ⟨by decide +kernel, rfl⟩
theorem iX1_isTwoShaded_77 : decode cX1_isTwoShaded 77 = .ok (.iload_n 2, 1) ∧ 77 + 1 = 78 := ⟨by decide +kernel, rfl⟩
theorem iX1_isTwoShaded_78 : decode cX1_isTwoShaded 78 = .ok (.iload 4, 2) ∧ 78 + 2 = 80 := ⟨by decide +kernel, rfl⟩
theorem iX1_isTwoShaded_80 : decode cX1_isTwoShaded 80 = .ok (.iload 5, 2) ∧ 80 + 2 = 82 := ⟨by decide +kernel, rfl⟩
theorem iX1_isTwoShaded_82 : decode cX1_isTwoShaded 82 = .ok (.ior, 1) ∧ 82 + 1 = 83 := ⟨by decide +kernel, rfl⟩
theorem iX1_isTwoShaded_83 : decode cX1_isTwoShaded 83 = .ok (.iconst (-1), 1) ∧ 83 + 1 = 84 := ⟨by decide +kernel, rfl⟩
theorem iX1_isTwoShaded_84 : decode cX1_isTwoShaded 84 = .ok (.ixor, 1) ∧ 84 + 1 = 85 := ⟨by decide +kernel, rfl⟩
theorem iX1_isTwoShaded_85 : decode cX1_isTwoShaded 85 = .ok (.iand, 1) ∧ 85 + 1 = 86 := ⟨by decide +kernel, rfl⟩
theorem iX1_isTwoShaded_86 : decode cX1_isTwoShaded 86 = .ok (.istore_n 2, 1) ∧ 86 + 1 = 87 := ⟨by decide +kernel, rfl⟩
theorem iX1_isTwoShaded_87 : decode cX1_isTwoShaded 87 = .ok (.iinc 3 1, 3) ∧ 87 + 3 = 90 := ⟨by decide +kernel, rfl⟩
theorem iX1_isTwoShaded_90 : decode cX1_isTwoShaded 90 = .ok (.goto (-86), 3) ∧ 90 + 3 = 93 := ⟨by decide +kernel, rfl⟩
theorem iX1_isTwoShaded_93 : decode cX1_isTwoShaded 93 = .ok (.iconst 1, 1) ∧ 93 + 1 = 94 := ⟨by decide +kernel, rfl⟩
theorem iX1_isTwoShaded_94 : decode cX1_isTwoShaded 94 = .ok (.ireturn, 1) ∧ 94 + 1 = 95 := ⟨by decide +kernel, rfl⟩
theorem iX1_mostInPeace_0 : decode cX1_mostInPeace 0 = .ok (.iload_n 1, 1) ∧ 0 + 1 = 1 := ⟨by decide +kernel, rfl⟩
theorem iX1_mostInPeace_1 : decode cX1_mostInPeace 1 = .ok (.ifCond .eq 13, 3) ∧ 1 + 3 = 4 := ⟨by decide +kernel, rfl⟩
theorem iX1_mostInPeace_4 : decode cX1_mostInPeace 4 = .ok (.iload_n 2, 1) ∧ 4 + 1 = 5 := ⟨by decide +kernel, rfl⟩
theorem iX1_mostInPeace_5 : decode cX1_mostInPeace 5 = .ok (.ifCond .lt 9, 3) ∧ 5 + 3 = 8 := ⟨by decide +kernel, rfl⟩
theorem iX1_mostInPeace_8 : decode cX1_mostInPeace 8 = .ok (.iload_n 2, 1) ∧ 8 + 1 = 9 := ⟨by decide +kernel, rfl⟩
theorem iX1_mostInPeace_9 : decode cX1_mostInPeace 9 = .ok (.aload_n 0, 1) ∧ 9 + 1 = 10 := ⟨by decide +kernel, rfl⟩
theorem iX1_mostInPeace_10 : decode cX1_mostInPeace 10 = .ok (.arraylength, 1) ∧ 10 + 1 = 11 := ⟨by decide +kernel, rfl⟩
theorem iX1_mostInPeace_11 : decode cX1_mostInPeace 11 = .ok (.if_icmp .lt 5, 3) ∧ 11 + 3 = 14 := ⟨by decide +kernel, rfl⟩
theorem iX1_mostInPeace_14 : decode cX1_mostInPeace 14 = .ok (.iconst 0, 1) ∧ 14 + 1 = 15 := ⟨by decide +kernel, rfl⟩
theorem iX1_mostInPeace_15 : decode cX1_mostInPeace 15 = .ok (.ireturn, 1) ∧ 15 + 1 = 16 := ⟨by decide +kernel, rfl⟩
theorem iX1_mostInPeace_16 : decode cX1_mostInPeace 16 = .ok (.iload_n 1, 1) ∧ 16 + 1 = 17 := ⟨by decide +kernel, rfl⟩
theorem iX1_mostInPeace_17 : decode cX1_mostInPeace 17 = .ok (.iload_n 2, 1) ∧ 17 + 1 = 18 := ⟨by decide +kernel, rfl⟩
theorem iX1_mostInPeace_18 : decode cX1_mostInPeace 18 = .ok (.invokestatic 55, 3) ∧ 18 + 3 = 21 := ⟨by decide +kernel, rfl⟩
theorem iX1_mostInPeace_21 : decode cX1_mostInPeace 21 = .ok (.ifCond .ne 12, 3) ∧ 21 + 3 = 24 := ⟨by decide +kernel, rfl⟩
theorem iX1_mostInPeace_24 : decode cX1_mostInPeace 24 = .ok (.aload_n 0, 1) ∧ 24 + 1 = 25 := ⟨by decide +kernel, rfl⟩
theorem iX1_mostInPeace_25 : decode cX1_mostInPeace 25 = .ok (.iload_n 1, 1) ∧ 25 + 1 = 26 := ⟨by decide +kernel, rfl⟩
theorem iX1_mostInPeace_26 : decode cX1_mostInPeace 26 = .ok (.iload_n 2, 1) ∧ 26 + 1 = 27 := ⟨by decide +kernel, rfl⟩
theorem iX1_mostInPeace_27 : decode cX1_mostInPeace 27 = .ok (.iconst 1, 1) ∧ 27 + 1 = 28 := ⟨by decide +kernel, rfl⟩
theorem iX1_mostInPeace_28 : decode cX1_mostInPeace 28 = .ok (.isub, 1) ∧ 28 + 1 = 29 := ⟨by decide +kernel, rfl⟩
theorem iX1_mostInPeace_29 : decode cX1_mostInPeace 29 = .ok (.invokestatic 59, 3) ∧ 29 + 3 = 32 := ⟨by decide +kernel, rfl⟩
theorem iX1_mostInPeace_32 : decode cX1_mostInPeace 32 = .ok (.ireturn, 1) ∧ 32 + 1 = 33 := ⟨by decide +kernel, rfl⟩
theorem iX1_mostInPeace_33 : decode cX1_mostInPeace 33 = .ok (.iconst 1, 1) ∧ 33 + 1 = 34 := ⟨by decide +kernel, rfl⟩
theorem iX1_mostInPeace_34 : decode cX1_mostInPeace 34 = .ok (.iload_n 2, 1) ∧ 34 + 1 = 35 := ⟨by decide +kernel, rfl⟩
theorem iX1_mostInPeace_35 : decode cX1_mostInPeace 35 = .ok (.ishl, 1) ∧ 35 + 1 = 36 := ⟨by decide +kernel, rfl⟩
theorem iX1_mostInPeace_36 : decode cX1_mostInPeace 36 = .ok (.istore_n 3, 1) ∧ 36 + 1 = 37 := ⟨by decide +kernel, rfl⟩
theorem iX1_mostInPeace_37 : decode cX1_mostInPeace 37 = .ok (.iload_n 1, 1) ∧ 37 + 1 = 38 := ⟨by decide +kernel, rfl⟩
theorem iX1_mostInPeace_38 : decode cX1_mostInPeace 38 = .ok (.iload_n 3, 1) ∧ 38 + 1 = 39 := ⟨by decide +kernel, rfl⟩
theorem iX1_mostInPeace_39 : decode cX1_mostInPeace 39 = .ok (.iconst (-1), 1) ∧ 39 + 1 = 40 := ⟨by decide +kernel, rfl⟩
theorem iX1_mostInPeace_40 : decode cX1_mostInPeace 40 = .ok (.ixor, 1) ∧ 40 + 1 = 41 := ⟨by decide +kernel, rfl⟩
theorem iX1_mostInPeace_41 : decode cX1_mostInPeace 41 = .ok (.iand, 1) ∧ 41 + 1 = 42 := ⟨by decide +kernel, rfl⟩
theorem iX1_mostInPeace_42 : decode cX1_mostInPeace 42 = .ok (.istore 4, 2) ∧ 42 + 2 = 44 := ⟨by decide +kernel, rfl⟩
theorem iX1_mostInPeace_44 : decode cX1_mostInPeace 44 = .ok (.iload_n 3, 1) ∧ 44 + 1 = 45 := ⟨by decide +kernel, rfl⟩
theorem iX1_mostInPeace_45 : decode cX1_mostInPeace 45 = .ok (.aload_n 0, 1) ∧ 45 + 1 = 46 := ⟨by decide +kernel, rfl⟩
theorem iX1_mostInPeace_46 : decode cX1_mostInPeace 46 = .ok (.iload 4, 2) ∧ 46 + 2 = 48 := ⟨by decide +kernel, rfl⟩
theorem iX1_mostInPeace_48 : decode cX1_mostInPeace 48 = .ok (.aload_n 0, 1) ∧ 48 + 1 = 49 := ⟨by decide +kernel, rfl⟩
theorem iX1_mostInPeace_49 : decode cX1_mostInPeace 49 = .ok (.iload_n 2, 1) ∧ 49 + 1 = 50 := ⟨by decide +kernel, rfl⟩
theorem iX1_mostInPeace_50 : decode cX1_mostInPeace 50 = .ok (.iaload, 1) ∧ 50 + 1 = 51 := ⟨by decide +kernel, rfl⟩
theorem iX1_mostInPeace_51 : decode cX1_mostInPeace 51 = .ok (.iconst (-1), 1) ∧ 51 + 1 = 52 := ⟨by decide +kernel, rfl⟩
theorem iX1_mostInPeace_52 : decode cX1_mostInPeace 52 = .ok (.ixor, 1) ∧ 52 + 1 = 53 := ⟨by decide +kernel, rfl⟩
theorem iX1_mostInPeace_53 : decode cX1_mostInPeace 53 = .ok (.iand, 1) ∧ 53 + 1 = 54 := ⟨by decide +kernel, rfl⟩
theorem iX1_mostInPeace_54 : decode cX1_mostInPeace 54 = .ok (.iload_n 2, 1) ∧ 54 + 1 = 55 := ⟨by decide +kernel, rfl⟩
theorem iX1_mostInPeace_55 : decode cX1_mostInPeace 55 = .ok (.iconst 1, 1) ∧ 55 + 1 = 56 := ⟨by decide +kernel, rfl⟩
theorem iX1_mostInPeace_56 : decode cX1_mostInPeace 56 = .ok (.isub, 1) ∧ 56 + 1 = 57 := ⟨by decide +kernel, rfl⟩
theorem iX1_mostInPeace_57 : decode cX1_mostInPeace 57 = .ok (.invokestatic 59, 3) ∧ 57 + 3 = 60 := ⟨by decide +kernel, rfl⟩
theorem iX1_mostInPeace_60 : decode cX1_mostInPeace 60 = .ok (.ior, 1) ∧ 60 + 1 = 61 := ⟨by decide +kernel, rfl⟩
theorem iX1_mostInPeace_61 : decode cX1_mostInPeace 61 = .ok (.istore 5, 2) ∧ 61 + 2 = 63 := ⟨by decide +kernel, rfl⟩
theorem iX1_mostInPeace_63 : decode cX1_mostInPeace 63 = .ok (.iload 4, 2) ∧ 63 + 2 = 65 := ⟨by decide +kernel, rfl⟩
theorem iX1_mostInPeace_65 : decode cX1_mostInPeace 65 = .ok (.aload_n 0, 1) ∧ 65 + 1 = 66 := ⟨by decide +kernel, rfl⟩
theorem iX1_mostInPeace_66 : decode cX1_mostInPeace 66 = .ok (.iload_n 2, 1) ∧ 66 + 1 = 67 := ⟨by decide +kernel, rfl⟩
theorem iX1_mostInPeace_67 : decode cX1_mostInPeace 67 = .ok (.iaload, 1) ∧ 67 + 1 = 68 := ⟨by decide +kernel, rfl⟩
theorem iX1_mostInPeace_68 : decode cX1_mostInPeace 68 = .ok (.iand, 1) ∧ 68 + 1 = 69 := ⟨by decide +kernel, rfl⟩
theorem iX1_mostInPeace_69 : decode cX1_mostInPeace 69 = .ok (.ifCond .ne 6, 3) ∧ 69 + 3 = 72 := ⟨by decide +kernel, rfl⟩
theorem iX1_mostInPeace_72 : decode cX1_mostInPeace 72 = .ok (.iload 5, 2) ∧ 72 + 2 = 74 := ⟨by decide +kernel, rfl⟩
theorem iX1_mostInPeace_74 : decode cX1_mostInPeace 74 = .ok (.ireturn, 1) ∧ 74 + 1 = 75 := ⟨by decide +kernel, rfl⟩
theorem iX1_mostInPeace_75 : decode cX1_mostInPeace 75 = .ok (.aload_n 0, 1) ∧ 75 + 1 = 76 := ⟨by decide +kernel, rfl⟩
theorem iX1_mostInPeace_76 : decode cX1_mostInPeace 76 = .ok (.iload 4, 2) ∧ 76 + 2 = 78 := ⟨by decide +kernel, rfl⟩
theorem iX1_mostInPeace_78 : decode cX1_mostInPeace 78 = .ok (.iload_n 2, 1) ∧ 78 + 1 = 79 := ⟨by decide +kernel, rfl⟩
theorem iX1_mostInPeace_79 : decode cX1_mostInPeace 79 = .ok (.iconst 1, 1) ∧ 79 + 1 = 80 := ⟨by decide +kernel, rfl⟩
theorem iX1_mostInPeace_80 : decode cX1_mostInPeace 80 = .ok (.isub, 1) ∧ 80 + 1 = 81 := ⟨by decide +kernel, rfl⟩
theorem iX1_mostInPeace_81 : decode cX1_mostInPeace 81 = .ok (.invokestatic 59, 3) ∧ 81 + 3 = 84 := ⟨by decide +kernel, rfl⟩
theorem iX1_mostInPeace_84 : decode cX1_mostInPeace 84 = .ok (.istore 6, 2) ∧ 84 + 2 = 86 := ⟨by decide +kernel, rfl⟩
theorem iX1_mostInPeace_86 : decode cX1_mostInPeace 86 = .ok (.iload 5, 2) ∧ 86 + 2 = 88 := ⟨by decide +kernel, rfl⟩
theorem iX1_mostInPeace_88 : decode cX1_mostInPeace 88 = .ok (.iload 6, 2) ∧ 88 + 2 = 90 := ⟨by decide +kernel, rfl⟩
theorem iX1_mostInPeace_90 : decode cX1_mostInPeace 90 = .ok (.invokestatic 62, 3) ∧ 90 + 3 = 93 := ⟨by decide +kernel, rfl⟩
theorem iX1_mostInPeace_93 : decode cX1_mostInPeace 93 = .ok (.ifCond .eq 8, 3) ∧ 93 + 3 = 96 := ⟨by decide +kernel, rfl⟩
theorem iX1_mostInPeace_96 : decode cX1_mostInPeace 96 = .ok (.iload 5, 2) ∧ 96 + 2 = 98 := ⟨by decide +kernel, rfl⟩
theorem iX1_mostInPeace_98 : decode cX1_mostInPeace 98 = .ok (.goto 5, 3) ∧ 98 + 3 = 101 := ⟨by decide +kernel, rfl⟩
theorem iX1_mostInPeace_101 : decode cX1_mostInPeace 101 = .ok (.iload 6, 2) ∧ 101 + 2 = 103 := ⟨by decide +kernel, rfl⟩
theorem iX1_mostInPeace_103 : decode cX1_mostInPeace 103 = .ok (.ireturn, 1) ∧ 103 + 1 = 104 := ⟨by decide +kernel, rfl⟩
theorem iX1_isLarger_0 : decode cX1_isLarger 0 = .ok (.iload_n 0, 1) ∧ 0 + 1 = 1 := ⟨by decide +kernel, rfl⟩
theorem iX1_isLarger_1 : decode cX1_isLarger 1 = .ok (.invokestatic 65, 3) ∧ 1 + 3 = 4 := ⟨by decide +kernel, rfl⟩
theorem iX1_isLarger_4 : decode cX1_isLarger 4 = .ok (.iload_n 1, 1) ∧ 4 + 1 = 5 := ⟨by decide +kernel, rfl⟩
theorem iX1_isLarger_5 : decode cX1_isLarger 5 = .ok (.invokestatic 65, 3) ∧ 5 + 3 = 8 := ⟨by decide +kernel, rfl⟩
theorem iX1_isLarger_8 : decode cX1_isLarger 8 = .ok (.if_icmp .le 7, 3) ∧ 8 + 3 = 11 := ⟨by decide +kernel, rfl⟩
theorem iX1_isLarger_11 : decode cX1_isLarger 11 = .ok (.iconst 1, 1) ∧ 11 + 1 = 12 := ⟨by decide +kernel, rfl⟩
theorem iX1_isLarger_12 : decode cX1_isLarger 12 = .ok (.goto 4, 3) ∧ 12 + 3 = 15 := ⟨by decide +kernel, rfl⟩
theorem iX1_isLarger_15 : decode cX1_isLarger 15 = .ok (.iconst 0, 1) ∧ 15 + 1 = 16 := ⟨by decide +kernel, rfl⟩
theorem iX1_isLarger_16 : decode cX1_isLarger 16 = .ok (.ireturn, 1) ∧ 16 + 1 = 17 := ⟨by decide +kernel, rfl⟩
theorem iX1_fewestGuards_0 : decode cX1_fewestGuards 0 = .ok (.iload_n 1, 1) ∧ 0 + 1 = 1 := ⟨by decide +kernel, rfl⟩
theorem iX1_fewestGuards_1 : decode cX1_fewestGuards 1 = .ok (.iload_n 3, 1) ∧ 1 + 1 = 2 := ⟨by decide +kernel, rfl⟩
theorem iX1_fewestGuards_2 : decode cX1_fewestGuards 2 = .ok (.iconst (-1), 1) ∧ 2 + 1 = 3 := ⟨by decide +kernel, rfl⟩
theorem iX1_fewestGuards_3 : decode cX1_fewestGuards 3 = .ok (.ixor, 1) ∧ 3 + 1 = 4 := ⟨by decide +kernel, rfl⟩
theorem iX1_fewestGuards_4 : decode cX1_fewestGuards 4 = .ok (.iand, 1) ∧ 4 + 1 = 5 := ⟨by decide +kernel, rfl⟩
theorem iX1_fewestGuards_5 : decode cX1_fewestGuards 5 = .ok (.istore 6, 2) ∧ 5 + 2 = 7 := ⟨by decide +kernel, rfl⟩
theorem iX1_fewestGuards_7 : decode cX1_fewestGuards 7 = .ok (.iload 6, 2) ∧ 7 + 2 = 9 := ⟨by decide +kernel, rfl⟩
theorem iX1_fewestGuards_9 : decode cX1_fewestGuards 9 = .ok (.ifCond .ne 46, 3) ∧ 9 + 3 = 12 := ⟨by decide +kernel, rfl⟩
theorem iX1_fewestGuards_12 : decode cX1_fewestGuards 12 = .ok (.iload 4, 2) ∧ 12 + 2 = 14 := ⟨by decide +kernel, rfl⟩
theorem iX1_fewestGuards_14 : decode cX1_fewestGuards 14 = .ok (.iload_n 2, 1) ∧ 14 + 1 = 15 := ⟨by decide +kernel, rfl⟩
theorem iX1_fewestGuards_15 : decode cX1_fewestGuards 15 = .ok (.invokestatic 62, 3) ∧ 15 + 3 = 18 := ⟨by decide +kernel, rfl⟩
theorem iX1_fewestGuards_18 : decode cX1_fewestGuards 18 = .ok (.ifCond .ne 18, 3) ∧ 18 + 3 = 21 := ⟨by decide +kernel, rfl⟩
theorem iX1_fewestGuards_21 : decode cX1_fewestGuards 21 = .ok (.iload_n 2, 1) ∧ 21 + 1 = 22 := ⟨by decide +kernel, rfl⟩
theorem iX1_fewestGuards_22 : decode cX1_fewestGuards 22 = .ok (.iload 4, 2) ∧ 22 + 2 = 24 := ⟨by decide +kernel, rfl⟩
theorem iX1_fewestGuards_24 : decode cX1_fewestGuards 24 = .ok (.invokestatic 62, 3) ∧ 24 + 3 = 27 := ⟨by decide +kernel, rfl⟩
theorem iX1_fewestGuards_27 : decode cX1_fewestGuards 27 = .ok (.ifCond .ne 13, 3) ∧ 27 + 3 = 30 := ⟨by decide +kernel, rfl⟩
theorem iX1_fewestGuards_30 : decode cX1_fewestGuards 30 = .ok (.iload_n 2, 1) ∧ 30 + 1 = 31 := ⟨by decide +kernel, rfl⟩
theorem iX1_fewestGuards_31 : decode cX1_fewestGuards 31 = .ok (.iload 4, 2) ∧ 31 + 2 = 33 := ⟨by decide +kernel, rfl⟩
theorem iX1_fewestGuards_33 : decode cX1_fewestGuards 33 = .ok (.if_icmp .ge 7, 3) ∧ 33 + 3 = 36 := ⟨by decide +kernel, rfl⟩
theorem iX1_fewestGuards_36 : decode cX1_fewestGuards 36 = .ok (.iconst 1, 1) ∧ 36 + 1 = 37 := ⟨by decide +kernel, rfl⟩
theorem iX1_fewestGuards_37 : decode cX1_fewestGuards 37 = .ok (.goto 4, 3) ∧ 37 + 3 = 40 := ⟨by decide +kernel, rfl⟩
theorem iX1_fewestGuards_40 : decode cX1_fewestGuards 40 = .ok (.iconst 0, 1) ∧ 40 + 1 = 41 := ⟨by decide +kernel, rfl⟩
theorem iX1_fewestGuards_41 : decode cX1_fewestGuards 41 = .ok (.istore 7, 2) ∧ 41 + 2 = 43 := ⟨by decide +kernel, rfl⟩
theorem iX1_fewestGuards_43 : decode cX1_fewestGuards 43 = .ok (.iload 7, 2) ∧ 43 + 2 = 45 := ⟨by decide +kernel, rfl⟩
theorem iX1_fewestGuards_45 : decode cX1_fewestGuards 45 = .ok (.ifCond .eq 7, 3) ∧ 45 + 3 = 48 := ⟨by decide +kernel, rfl⟩
theorem iX1_fewestGuards_48 : decode cX1_fewestGuards 48 = .ok (.iload_n 2, 1) ∧ 48 + 1 = 49 := ⟨by decide +kernel, rfl⟩
theorem iX1_fewestGuards_49 : decode cX1_fewestGuards 49 = .ok (.goto 5, 3) ∧ 49 + 3 = 52 := ⟨by decide +kernel, rfl⟩
theorem iX1_fewestGuards_52 : decode cX1_fewestGuards 52 = .ok (.iload 4, 2) ∧ 52 + 2 = 54 := ⟨by decide +kernel, rfl⟩
theorem iX1_fewestGuards_54 : decode cX1_fewestGuards 54 = .ok (.ireturn, 1) ∧ 54 + 1 = 55 := ⟨by decide +kernel, rfl⟩
theorem iX1_fewestGuards_55 : decode cX1_fewestGuards 55 = .ok (.iload 4, 2) ∧ 55 + 2 = 57 := ⟨by decide +kernel, rfl⟩
theorem iX1_fewestGuards_57 : decode cX1_fewestGuards 57 = .ok (.iload_n 2, 1) ∧ 57 + 1 = 58 := ⟨by decide +kernel, rfl⟩
theorem iX1_fewestGuards_58 : decode cX1_fewestGuards 58 = .ok (.invokestatic 62, 3) ∧ 58 + 3 = 61 := ⟨by decide +kernel, rfl⟩
theorem iX1_fewestGuards_61 : decode cX1_fewestGuards 61 = .ok (.ifCond .eq 10, 3) ∧ 61 + 3 = 64 := ⟨by decide +kernel, rfl⟩
theorem iX1_fewestGuards_64 : decode cX1_fewestGuards 64 = .ok (.iload 5, 2) ∧ 64 + 2 = 66 := ⟨by decide +kernel, rfl⟩
theorem iX1_fewestGuards_66 : decode cX1_fewestGuards 66 = .ok (.bipush 12, 2) ∧ 66 + 2 = 68 := ⟨by decide +kernel, rfl⟩
theorem iX1_fewestGuards_68 : decode cX1_fewestGuards 68 = .ok (.if_icmp .lt 6, 3) ∧ 68 + 3 = 71 := ⟨by decide +kernel, rfl⟩
theorem iX1_fewestGuards_71 : decode cX1_fewestGuards 71 = .ok (.iload 4, 2) ∧ 71 + 2 = 73 := ⟨by decide +kernel, rfl⟩
theorem iX1_fewestGuards_73 : decode cX1_fewestGuards 73 = .ok (.ireturn, 1) ∧ 73 + 1 = 74 := ⟨by decide +kernel, rfl⟩
theorem iX1_fewestGuards_74 : decode cX1_fewestGuards 74 = .ok (.iload 6, 2) ∧ 74 + 2 = 76 := ⟨by decide +kernel, rfl⟩
theorem iX1_fewestGuards_76 : decode cX1_fewestGuards 76 = .ok (.invokestatic 48, 3) ∧ 76 + 3 = 79 := ⟨by decide +kernel, rfl⟩
theorem iX1_fewestGuards_79 : decode cX1_fewestGuards 79 = .ok (.istore 7, 2) ∧ 79 + 2 = 81 := ⟨by decide +kernel, rfl⟩
theorem iX1_fewestGuards_81 : decode cX1_fewestGuards 81 = .ok (.iconst 1, 1) ∧ 81 + 1 = 82 := ⟨by decide +kernel, rfl⟩
theorem iX1_fewestGuards_82 : decode cX1_fewestGuards 82 = .ok (.iload 7, 2) ∧ 82 + 2 = 84 := ⟨by decide +kernel, rfl⟩
theorem iX1_fewestGuards_84 : decode cX1_fewestGuards 84 = .ok (.ishl, 1) ∧ 84 + 1 = 85 := ⟨by decide +kernel, rfl⟩
theorem iX1_fewestGuards_85 : decode cX1_fewestGuards 85 = .ok (.aload_n 0, 1) ∧ 85 + 1 = 86 := ⟨by decide +kernel, rfl⟩
theorem iX1_fewestGuards_86 : decode cX1_fewestGuards 86 = .ok (.iconst 1, 1) ∧ 86 + 1 = 87 := ⟨by decide +kernel, rfl⟩
theorem iX1_fewestGuards_87 : decode cX1_fewestGuards 87 = .ok (.iload 7, 2) ∧ 87 + 2 = 89 := ⟨by decide +kernel, rfl⟩
theorem iX1_fewestGuards_89 : decode cX1_fewestGuards 89 = .ok (.ishl, 1) ∧ 89 + 1 = 90 := ⟨by decide +kernel, rfl⟩
theorem iX1_fewestGuards_90 : decode cX1_fewestGuards 90 = .ok (.invokestatic 44, 3) ∧ 90 + 3 = 93 := ⟨by decide +kernel, rfl⟩
theorem iX1_fewestGuards_93 : decode cX1_fewestGuards 93 = .ok (.ior, 1) ∧ 93 + 1 = 94 := ⟨by decide +kernel, rfl⟩
theorem iX1_fewestGuards_94 : decode cX1_fewestGuards 94 = .ok (.iload_n 1, 1) ∧ 94 + 1 = 95 := ⟨by decide +kernel, rfl⟩
theorem iX1_fewestGuards_95 : decode cX1_fewestGuards 95 = .ok (.iand, 1) ∧ 95 + 1 = 96 := ⟨by decide +kernel, rfl⟩
theorem iX1_fewestGuards_96 : decode cX1_fewestGuards 96 = .ok (.istore 8, 2) ∧ 96 + 2 = 98 := ⟨by decide +kernel, rfl⟩
theorem iX1_fewestGuards_98 : decode cX1_fewestGuards 98 = .ok (.iload 4, 2) ∧ 98 + 2 = 100 := ⟨by decide +kernel, rfl⟩
theorem iX1_fewestGuards_100 : decode cX1_fewestGuards 100 = .ok (.istore 9, 2) ∧ 100 + 2 = 102 := ⟨by decide +kernel, rfl⟩
theorem iX1_fewestGuards_102 : decode cX1_fewestGuards 102 = .ok (.iconst 0, 1) ∧ 102 + 1 = 103 := ⟨by decide +kernel, rfl⟩
theorem iX1_fewestGuards_103 : decode cX1_fewestGuards 103 = .ok (.istore 10, 2) ∧ 103 + 2 = 105 := ⟨by decide +kernel, rfl⟩
theorem iX1_fewestGuards_105 : decode cX1_fewestGuards 105 = .ok (.iload 10, 2) ∧ 105 + 2 = 107 := ⟨by decide +kernel, rfl⟩
theorem iX1_fewestGuards_107 : decode cX1_fewestGuards 107 = .ok (.aload_n 0, 1) ∧ 107 + 1 = 108 := ⟨by decide +kernel, rfl⟩
theorem iX1_fewestGuards_108 : decode cX1_fewestGuards 108 = .ok (.arraylength, 1) ∧ 108 + 1 = 109 := ⟨by decide +kernel, rfl⟩
theorem iX1_fewestGuards_109 : decode cX1_fewestGuards 109 = .ok (.if_icmp .ge 53, 3) ∧ 109 + 3 = 112 := ⟨by decide +kernel, rfl⟩
theorem iX1_fewestGuards_112 : decode cX1_fewestGuards 112 = .ok (.iload 8, 2) ∧ 112 + 2 = 114 := ⟨by decide +kernel, rfl⟩
theorem iX1_fewestGuards_114 : decode cX1_fewestGuards 114 = .ok (.iload 10, 2) ∧ 114 + 2 = 116 := ⟨by decide +kernel, rfl⟩
theorem iX1_fewestGuards_116 : decode cX1_fewestGuards 116 = .ok (.invokestatic 55, 3) ∧ 116 + 3 = 119 := ⟨by decide +kernel, rfl⟩
theorem iX1_fewestGuards_119 : decode cX1_fewestGuards 119 = .ok (.ifCond .eq 37, 3) ∧ 119 + 3 = 122 := ⟨by decide +kernel, rfl⟩
theorem iX1_fewestGuards_122 : decode cX1_fewestGuards 122 = .ok (.iload_n 3, 1) ∧ 122 + 1 = 123 := ⟨by decide +kernel, rfl⟩
theorem iX1_fewestGuards_123 : decode cX1_fewestGuards 123 = .ok (.aload_n 0, 1) ∧ 123 + 1 = 124 := ⟨by decide +kernel, rfl⟩
theorem iX1_fewestGuards_124 : decode cX1_fewestGuards 124 = .ok (.iload 10, 2) ∧ 124 + 2 = 126 := ⟨by decide +kernel, rfl⟩
theorem iX1_fewestGuards_126 : decode cX1_fewestGuards 126 = .ok (.iaload, 1) ∧ 126 + 1 = 127 := ⟨by decide +kernel, rfl⟩
theorem iX1_fewestGuards_127 : decode cX1_fewestGuards 127 = .ok (.ior, 1) ∧ 127 + 1 = 128 := ⟨by decide +kernel, rfl⟩
theorem iX1_fewestGuards_128 : decode cX1_fewestGuards 128 = .ok (.iconst 1, 1) ∧ 128 + 1 = 129 := ⟨by decide +kernel, rfl⟩
theorem iX1_fewestGuards_129 : decode cX1_fewestGuards 129 = .ok (.iload 10, 2) ∧ 129 + 2 = 131 := ⟨by decide +kernel, rfl⟩
theorem iX1_fewestGuards_131 : decode cX1_fewestGuards 131 = .ok (.ishl, 1) ∧ 131 + 1 = 132 := ⟨by decide +kernel, rfl⟩
theorem iX1_fewestGuards_132 : decode cX1_fewestGuards 132 = .ok (.ior, 1) ∧ 132 + 1 = 133 := ⟨by decide +kernel, rfl⟩
theorem iX1_fewestGuards_133 : decode cX1_fewestGuards 133 = .ok (.istore 11, 2) ∧ 133 + 2 = 135 := ⟨by decide +kernel, rfl⟩
theorem iX1_fewestGuards_135 : decode cX1_fewestGuards 135 = .ok (.aload_n 0, 1) ∧ 135 + 1 = 136 := ⟨by decide +kernel, rfl⟩
theorem iX1_fewestGuards_136 : decode cX1_fewestGuards 136 = .ok (.iload_n 1, 1) ∧ 136 + 1 = 137 := ⟨by decide +kernel, rfl⟩
theorem iX1_fewestGuards_137 : decode cX1_fewestGuards 137 = .ok (.iload_n 2, 1) ∧ 137 + 1 = 138 := ⟨by decide +kernel, rfl⟩
theorem iX1_fewestGuards_138 : decode cX1_fewestGuards 138 = .ok (.iconst 1, 1) ∧ 138 + 1 = 139 := ⟨by decide +kernel, rfl⟩
theorem iX1_fewestGuards_139 : decode cX1_fewestGuards 139 = .ok (.iload 10, 2) ∧ 139 + 2 = 141 := ⟨by decide +kernel, rfl⟩
theorem iX1_fewestGuards_141 : decode cX1_fewestGuards 141 = .ok (.ishl, 1) ∧ 141 + 1 = 142 := ⟨by decide +kernel, rfl⟩
theorem iX1_fewestGuards_142 : decode cX1_fewestGuards 142 = .ok (.ior, 1) ∧ 142 + 1 = 143 := ⟨by decide +kernel, rfl⟩
theorem iX1_fewestGuards_143 : decode cX1_fewestGuards 143 = .ok (.iload 11, 2) ∧ 143 + 2 = 145 := ⟨by decide +kernel, rfl⟩
theorem iX1_fewestGuards_145 : decode cX1_fewestGuards 145 = .ok (.iload 9, 2) ∧ 145 + 2 = 147 := ⟨by decide +kernel, rfl⟩
theorem iX1_fewestGuards_147 : decode cX1_fewestGuards 147 = .ok (.iload 5, 2) ∧ 147 + 2 = 149 := ⟨by decide +kernel, rfl⟩
theorem iX1_fewestGuards_149 : decode cX1_fewestGuards 149 = .ok (.iconst 1, 1) ∧ 149 + 1 = 150 := ⟨by decide +kernel, rfl⟩
theorem iX1_fewestGuards_150 : decode cX1_fewestGuards 150 = .ok (.iadd, 1) ∧ 150 + 1 = 151 := ⟨by decide +kernel, rfl⟩
theorem iX1_fewestGuards_151 : decode cX1_fewestGuards 151 = .ok (.invokestatic 70, 3) ∧ 151 + 3 = 154 := ⟨by decide +kernel, rfl⟩
theorem iX1_fewestGuards_154 : decode cX1_fewestGuards 154 = .ok (.istore 9, 2) ∧ 154 + 2 = 156 := ⟨by decide +kernel, rfl⟩
theorem iX1_fewestGuards_156 : decode cX1_fewestGuards 156 = .ok (.iinc 10 1, 3) ∧ 156 + 3 = 159 := ⟨by decide +kernel, rfl⟩
theorem iX1_fewestGuards_159 : decode cX1_fewestGuards 159 = .ok (.goto (-54), 3) ∧ 159 + 3 = 162 := ⟨by decide +kernel, rfl⟩
theorem iX1_fewestGuards_162 : decode cX1_fewestGuards 162 = .ok (.iload 9, 2) ∧ 162 + 2 = 164 := ⟨by decide +kernel, rfl⟩
theorem iX1_fewestGuards_164 : decode cX1_fewestGuards 164 = .ok (.ireturn, 1) ∧ 164 + 1 = 165 := ⟨by decide +kernel, rfl⟩
theorem iX2_init_0 : decode cX2_init 0 = .ok (.aload_n 0, 1) ∧ 0 + 1 = 1 := ⟨by decide +kernel, rfl⟩
theorem iX2_init_1 : decode cX2_init 1 = .ok (.invokespecial 3, 3) ∧ 1 + 3 = 4 := ⟨by decide +kernel, rfl⟩
theorem iX2_init_4 : decode cX2_init 4 = .ok (.aload_n 0, 1) ∧ 4 + 1 = 5 := ⟨by decide +kernel, rfl⟩
theorem iX2_init_5 : decode cX2_init 5 = .ok (.bipush 30, 2) ∧ 5 + 2 = 7 := ⟨by decide +kernel, rfl⟩
theorem iX2_init_7 : decode cX2_init 7 = .ok (.newarray .int, 2) ∧ 7 + 2 = 9 := ⟨by decide +kernel, rfl⟩
theorem iX2_init_9 : decode cX2_init 9 = .ok (.putfield 9, 3) ∧ 9 + 3 = 12 := ⟨by decide +kernel, rfl⟩
theorem iX2_init_12 : decode cX2_init 12 = .ok (.return_, 1) ∧ 12 + 1 = 13 := ⟨by decide +kernel, rfl⟩
theorem iX2_put_0 : decode cX2_put 0 = .ok (.aload_n 0, 1) ∧ 0 + 1 = 1 := ⟨by decide +kernel, rfl⟩
theorem iX2_put_1 : decode cX2_put 1 = .ok (.getfield 15, 3) ∧ 1 + 3 = 4 := ⟨by decide +kernel, rfl⟩
theorem iX2_put_4 : decode cX2_put 4 = .ok (.ifCond .lt 12, 3) ∧ 4 + 3 = 7 := ⟨by decide +kernel, rfl⟩
theorem iX2_put_7 : decode cX2_put 7 = .ok (.aload_n 0, 1) ∧ 7 + 1 = 8 := ⟨by decide +kernel, rfl⟩
theorem iX2_put_8 : decode cX2_put 8 = .ok (.getfield 15, 3) ∧ 8 + 3 = 11 := ⟨by decide +kernel, rfl⟩
theorem iX2_put_11 : decode cX2_put 11 = .ok (.bipush 30, 2) ∧ 11 + 2 = 13 := ⟨by decide +kernel, rfl⟩
theorem iX2_put_13 : decode cX2_put 13 = .ok (.if_icmp .lt 5, 3) ∧ 13 + 3 = 16 := ⟨by decide +kernel, rfl⟩
theorem iX2_put_16 : decode cX2_put 16 = .ok (.iconst 0, 1) ∧ 16 + 1 = 17 := ⟨by decide +kernel, rfl⟩
theorem iX2_put_17 : decode cX2_put 17 = .ok (.ireturn, 1) ∧ 17 + 1 = 18 := ⟨by decide +kernel, rfl⟩
theorem iX2_put_18 : decode cX2_put 18 = .ok (.aload_n 0, 1) ∧ 18 + 1 = 19 := ⟨by decide +kernel, rfl⟩
theorem iX2_put_19 : decode cX2_put 19 = .ok (.getfield 9, 3) ∧ 19 + 3 = 22 := ⟨by decide +kernel, rfl⟩
theorem iX2_put_22 : decode cX2_put 22 = .ok (.aload_n 0, 1) ∧ 22 + 1 = 23 := ⟨by decide +kernel, rfl⟩
theorem iX2_put_23 : decode cX2_put 23 = .ok (.getfield 15, 3) ∧ 23 + 3 = 26 := ⟨by decide +kernel, rfl⟩
theorem iX2_put_26 : decode cX2_put 26 = .ok (.iload_n 1, 1) ∧ 26 + 1 = 27 := ⟨by decide +kernel, rfl⟩
theorem iX2_put_27 : decode cX2_put 27 = .ok (.iastore, 1) ∧ 27 + 1 = 28 := ⟨by decide +kernel, rfl⟩
theorem iX2_put_28 : decode cX2_put 28 = .ok (.aload_n 0, 1) ∧ 28 + 1 = 29 := ⟨by decide +kernel, rfl⟩
theorem iX2_put_29 : decode cX2_put 29 = .ok (.dup, 1) ∧ 29 + 1 = 30 := ⟨by decide +kernel, rfl⟩
theorem iX2_put_30 : decode cX2_put 30 = .ok (.getfield 15, 3) ∧ 30 + 3 = 33 := ⟨by decide +kernel, rfl⟩
theorem iX2_put_33 : decode cX2_put 33 = .ok (.iconst 1, 1) ∧ 33 + 1 = 34 := ⟨by decide +kernel, rfl⟩
theorem iX2_put_34 : decode cX2_put 34 = .ok (.iadd, 1) ∧ 34 + 1 = 35 := ⟨by decide +kernel, rfl⟩
theorem iX2_put_35 : decode cX2_put 35 = .ok (.putfield 15, 3) ∧ 35 + 3 = 38 := ⟨by decide +kernel, rfl⟩
theorem iX2_put_38 : decode cX2_put 38 = .ok (.aload_n 0, 1) ∧ 38 + 1 = 39 := ⟨by decide +kernel, rfl⟩
theorem iX2_put_39 : decode cX2_put 39 = .ok (.getfield 15, 3) ∧ 39 + 3 = 42 := ⟨by decide +kernel, rfl⟩
theorem iX2_put_42 : decode cX2_put 42 = .ok (.iconst 2, 1) ∧ 42 + 1 = 43 := ⟨by decide +kernel, rfl⟩
theorem iX2_put_43 : decode cX2_put 43 = .ok (.if_icmp .ne 16, 3) ∧ 43 + 3 = 46 := ⟨by decide +kernel, rfl⟩
theorem iX2_put_46 : decode cX2_put 46 = .ok (.aload_n 0, 1) ∧ 46 + 1 = 47 := ⟨by decide +kernel, rfl⟩
theorem iX2_put_47 : decode cX2_put 47 = .ok (.aload_n 0, 1) ∧ 47 + 1 = 48 := ⟨by decide +kernel, rfl⟩
theorem iX2_put_48 : decode cX2_put 48 = .ok (.invokevirtual 19, 3) ∧ 48 + 3 = 51 := ⟨by decide +kernel, rfl⟩
theorem iX2_put_51 : decode cX2_put 51 = .ok (.aload_n 0, 1) ∧ 51 + 1 = 52 := ⟨by decide +kernel, rfl⟩
theorem iX2_put_52 : decode cX2_put 52 = .ok (.invokevirtual 23, 3) ∧ 52 + 3 = 55 := ⟨by decide +kernel, rfl⟩
theorem iX2_put_55 : decode cX2_put 55 = .ok (.imul, 1) ∧ 55 + 1 = 56 := ⟨by decide +kernel, rfl⟩
theorem iX2_put_56 : decode cX2_put 56 = .ok (.putfield 26, 3) ∧ 56 + 3 = 59 := ⟨by decide +kernel, rfl⟩
theorem iX2_put_59 : decode cX2_put 59 = .ok (.iconst 1, 1) ∧ 59 + 1 = 60 := ⟨by decide +kernel, rfl⟩
theorem iX2_put_60 : decode cX2_put 60 = .ok (.ireturn, 1) ∧ 60 + 1 = 61 := ⟨by decide +kernel, rfl⟩
theorem iX2_clear_0 : decode cX2_clear 0 = .ok (.aload_n 0, 1) ∧ 0 + 1 = 1 := ⟨by decide +kernel, rfl⟩
theorem iX2_clear_1 : decode cX2_clear 1 = .ok (.getfield 15, 3) ∧ 1 + 3 = 4 := ⟨by decide +kernel, rfl⟩
theorem iX2_clear_4 : decode cX2_clear 4 = .ok (.istore_n 1, 1) ∧ 4 + 1 = 5 := ⟨by decide +kernel, rfl⟩
theorem iX2_clear_5 : decode cX2_clear 5 = .ok (.aload_n 0, 1) ∧ 5 + 1 = 6 := ⟨by decide +kernel, rfl⟩
theorem iX2_clear_6 : decode cX2_clear 6 = .ok (.iconst 0, 1) ∧ 6 + 1 = 7 := ⟨by decide +kernel, rfl⟩
theorem iX2_clear_7 : decode cX2_clear 7 = .ok (.putfield 15, 3) ∧ 7 + 3 = 10 := ⟨by decide +kernel, rfl⟩
theorem iX2_clear_10 : decode cX2_clear 10 = .ok (.aload_n 0, 1) ∧ 10 + 1 = 11 := ⟨by decide +kernel, rfl⟩
theorem iX2_clear_11 : decode cX2_clear 11 = .ok (.iconst 0, 1) ∧ 11 + 1 = 12 := ⟨by decide +kernel, rfl⟩
theorem iX2_clear_12 : decode cX2_clear 12 = .ok (.putfield 26, 3) ∧ 12 + 3 = 15 := ⟨by decide +kernel, rfl⟩
theorem iX2_clear_15 : decode cX2_clear 15 = .ok (.iload_n 1, 1) ∧ 15 + 1 = 16 := ⟨by decide +kernel, rfl⟩
theorem iX2_clear_16 : decode cX2_clear 16 = .ok (.ireturn, 1) ∧ 16 + 1 = 17 := ⟨by decide +kernel, rfl⟩
theorem iX2_at_0 : decode cX2_at 0 = .ok (.iload_n 1, 1) ∧ 0 + 1 = 1 := ⟨by decide +kernel, rfl⟩
theorem iX2_at_1 : decode cX2_at 1 = .ok (.ifCond .lt 26, 3) ∧ 1 + 3 = 4 := ⟨by decide +kernel, rfl⟩
theorem iX2_at_4 : decode cX2_at 4 = .ok (.iload_n 1, 1) ∧ 4 + 1 = 5 := ⟨by decide +kernel, rfl⟩
theorem iX2_at_5 : decode cX2_at 5 = .ok (.aload_n 0, 1) ∧ 5 + 1 = 6 := ⟨by decide +kernel, rfl⟩
theorem iX2_at_6 : decode cX2_at 6 = .ok (.getfield 15, 3) ∧ 6 + 3 = 9 := ⟨by decide +kernel, rfl⟩
theorem iX2_at_9 : decode cX2_at 9 = .ok (.if_icmp .ge 18, 3) ∧ 9 + 3 = 12 := ⟨by decide +kernel, rfl⟩
theorem iX2_at_12 : decode cX2_at 12 = .ok (.iload_n 1, 1) ∧ 12 + 1 = 13 := ⟨by decide +kernel, rfl⟩
theorem iX2_at_13 : decode cX2_at 13 = .ok (.bipush 30, 2) ∧ 13 + 2 = 15 := ⟨by decide +kernel, rfl⟩
theorem iX2_at_15 : decode cX2_at 15 = .ok (.if_icmp .ge 12, 3) ∧ 15 + 3 = 18 := ⟨by decide +kernel, rfl⟩
theorem iX2_at_18 : decode cX2_at 18 = .ok (.aload_n 0, 1) ∧ 18 + 1 = 19 := ⟨by decide +kernel, rfl⟩
theorem iX2_at_19 : decode cX2_at 19 = .ok (.getfield 9, 3) ∧ 19 + 3 = 22 := ⟨by decide +kernel, rfl⟩
theorem iX2_at_22 : decode cX2_at 22 = .ok (.iload_n 1, 1) ∧ 22 + 1 = 23 := ⟨by decide +kernel, rfl⟩
theorem iX2_at_23 : decode cX2_at 23 = .ok (.iaload, 1) ∧ 23 + 1 = 24 := ⟨by decide +kernel, rfl⟩
theorem iX2_at_24 : decode cX2_at 24 = .ok (.goto 4, 3) ∧ 24 + 3 = 27 := ⟨by decide +kernel, rfl⟩
theorem iX2_at_27 : decode cX2_at 27 = .ok (.iconst (-1), 1) ∧ 27 + 1 = 28 := ⟨by decide +kernel, rfl⟩
theorem iX2_at_28 : decode cX2_at 28 = .ok (.ireturn, 1) ∧ 28 + 1 = 29 := ⟨by decide +kernel, rfl⟩
theorem iX2_firstFault_0 : decode cX2_firstFault 0 = .ok (.iconst 0, 1) ∧ 0 + 1 = 1 := ⟨by decide +kernel, rfl⟩
theorem iX2_firstFault_1 : decode cX2_firstFault 1 = .ok (.istore_n 1, 1) ∧ 1 + 1 = 2 := ⟨by decide +kernel, rfl⟩
theorem iX2_firstFault_2 : decode cX2_firstFault 2 = .ok (.iload_n 1, 1) ∧ 2 + 1 = 3 := ⟨by decide +kernel, rfl⟩
theorem iX2_firstFault_3 : decode cX2_firstFault 3 = .ok (.aload_n 0, 1) ∧ 3 + 1 = 4 := ⟨by decide +kernel, rfl⟩
theorem iX2_firstFault_4 : decode cX2_firstFault 4 = .ok (.getfield 15, 3) ∧ 4 + 3 = 7 := ⟨by decide +kernel, rfl⟩
theorem iX2_firstFault_7 : decode cX2_firstFault 7 = .ok (.if_icmp .ge 19, 3) ∧ 7 + 3 = 10 := ⟨by decide +kernel, rfl⟩
theorem iX2_firstFault_10 : decode cX2_firstFault 10 = .ok (.aload_n 0, 1) ∧ 10 + 1 = 11 := ⟨by decide +kernel, rfl⟩
theorem iX2_firstFault_11 : decode cX2_firstFault 11 = .ok (.iload_n 1, 1) ∧ 11 + 1 = 12 := ⟨by decide +kernel, rfl⟩
theorem iX2_firstFault_12 : decode cX2_firstFault 12 = .ok (.invokevirtual 29, 3) ∧ 12 + 3 = 15 := ⟨by decide +kernel, rfl⟩
theorem iX2_firstFault_15 : decode cX2_firstFault 15 = .ok (.ifCond .ne 5, 3) ∧ 15 + 3 = 18 := ⟨by decide +kernel, rfl⟩
theorem iX2_firstFault_18 : decode cX2_firstFault 18 = .ok (.iload_n 1, 1) ∧ 18 + 1 = 19 := ⟨by decide +kernel, rfl⟩
theorem iX2_firstFault_19 : decode cX2_firstFault 19 = .ok (.ireturn, 1) ∧ 19 + 1 = 20 := ⟨by decide +kernel, rfl⟩
theorem iX2_firstFault_20 : decode cX2_firstFault 20 = .ok (.iinc 1 1, 3) ∧ 20 + 3 = 23 := ⟨by decide +kernel, rfl⟩
theorem iX2_firstFault_23 : decode cX2_firstFault 23 = .ok (.goto (-21), 3) ∧ 23 + 3 = 26 := ⟨by decide +kernel, rfl⟩
theorem iX2_firstFault_26 : decode cX2_firstFault 26 = .ok (.aload_n 0, 1) ∧ 26 + 1 = 27 := ⟨by decide +kernel, rfl⟩
theorem iX2_firstFault_27 : decode cX2_firstFault 27 = .ok (.getfield 15, 3) ∧ 27 + 3 = 30 := ⟨by decide +kernel, rfl⟩
theorem iX2_firstFault_30 : decode cX2_firstFault 30 = .ok (.ireturn, 1) ∧ 30 + 1 = 31 := ⟨by decide +kernel, rfl⟩
theorem iX2_isWhole_0 : decode cX2_isWhole 0 = .ok (.aload_n 0, 1) ∧ 0 + 1 = 1 := ⟨by decide +kernel, rfl⟩
theorem iX2_isWhole_1 : decode cX2_isWhole 1 = .ok (.getfield 15, 3) ∧ 1 + 3 = 4 := ⟨by decide +kernel, rfl⟩
theorem iX2_isWhole_4 : decode cX2_isWhole 4 = .ok (.aload_n 0, 1) ∧ 4 + 1 = 5 := ⟨by decide +kernel, rfl⟩
theorem iX2_isWhole_5 : decode cX2_isWhole 5 = .ok (.iconst 0, 1) ∧ 5 + 1 = 6 := ⟨by decide +kernel, rfl⟩
theorem iX2_isWhole_6 : decode cX2_isWhole 6 = .ok (.invokevirtual 33, 3) ∧ 6 + 3 = 9 := ⟨by decide +kernel, rfl⟩
theorem iX2_isWhole_9 : decode cX2_isWhole 9 = .ok (.isub, 1) ∧ 9 + 1 = 10 := ⟨by decide +kernel, rfl⟩
theorem iX2_isWhole_10 : decode cX2_isWhole 10 = .ok (.istore_n 1, 1) ∧ 10 + 1 = 11 := ⟨by decide +kernel, rfl⟩
theorem iX2_isWhole_11 : decode cX2_isWhole 11 = .ok (.aload_n 0, 1) ∧ 11 + 1 = 12 := ⟨by decide +kernel, rfl⟩
theorem iX2_isWhole_12 : decode cX2_isWhole 12 = .ok (.invokevirtual 37, 3) ∧ 12 + 3 = 15 := ⟨by decide +kernel, rfl⟩
theorem iX2_isWhole_15 : decode cX2_isWhole 15 = .ok (.aload_n 0, 1) ∧ 15 + 1 = 16 := ⟨by decide +kernel, rfl⟩
theorem iX2_isWhole_16 : decode cX2_isWhole 16 = .ok (.getfield 15, 3) ∧ 16 + 3 = 19 := ⟨by decide +kernel, rfl⟩
theorem iX2_isWhole_19 : decode cX2_isWhole 19 = .ok (.if_icmp .ne 18, 3) ∧ 19 + 3 = 22 := ⟨by decide +kernel, rfl⟩
theorem iX2_isWhole_22 : decode cX2_isWhole 22 = .ok (.iload_n 1, 1) ∧ 22 + 1 = 23 := ⟨by decide +kernel, rfl⟩
theorem iX2_isWhole_23 : decode cX2_isWhole 23 = .ok (.ifCond .le 14, 3) ∧ 23 + 3 = 26 := ⟨by decide +kernel, rfl⟩
theorem iX2_isWhole_26 : decode cX2_isWhole 26 = .ok (.iload_n 1, 1) ∧ 26 + 1 = 27 := ⟨by decide +kernel, rfl⟩
theorem iX2_isWhole_27 : decode cX2_isWhole 27 = .ok (.iconst 3, 1) ∧ 27 + 1 = 28 := ⟨by decide +kernel, rfl⟩
theorem iX2_isWhole_28 : decode cX2_isWhole 28 = .ok (.irem, 1) ∧ 28 + 1 = 29 := ⟨by decide +kernel, rfl⟩
theorem iX2_isWhole_29 : decode cX2_isWhole 29 = .ok (.iconst 2, 1) ∧ 29 + 1 = 30 := ⟨by decide +kernel, rfl⟩
theorem iX2_isWhole_30 : decode cX2_isWhole 30 = .ok (.if_icmp .ne 7, 3) ∧ 30 + 3 = 33 := ⟨by decide +kernel, rfl⟩
theorem iX2_isWhole_33 : decode cX2_isWhole 33 = .ok (.iconst 1, 1) ∧ 33 + 1 = 34 := ⟨by decide +kernel, rfl⟩
theorem iX2_isWhole_34 : decode cX2_isWhole 34 = .ok (.goto 4, 3) ∧ 34 + 3 = 37 := ⟨by decide +kernel, rfl⟩
theorem iX2_isWhole_37 : decode cX2_isWhole 37 = .ok (.iconst 0, 1) ∧ 37 + 1 = 38 := ⟨by decide +kernel, rfl⟩
theorem iX2_isWhole_38 : decode cX2_isWhole 38 = .ok (.ireturn, 1) ∧ 38 + 1 = 39 := ⟨by decide +kernel, rfl⟩
theorem iX2_rows_0 : decode cX2_rows 0 = .ok (.aload_n 0, 1) ∧ 0 + 1 = 1 := ⟨by decide +kernel, rfl⟩
theorem iX2_rows_1 : decode cX2_rows 1 = .ok (.iconst 0, 1) ∧ 1 + 1 = 2 := ⟨by decide +kernel, rfl⟩
theorem iX2_rows_2 : decode cX2_rows 2 = .ok (.invokevirtual 40, 3) ∧ 2 + 3 = 5 := ⟨by decide +kernel, rfl⟩
theorem iX2_rows_5 : decode cX2_rows 5 = .ok (.bipush 48, 2) ∧ 5 + 2 = 7 := ⟨by decide +kernel, rfl⟩
theorem iX2_rows_7 : decode cX2_rows 7 = .ok (.isub, 1) ∧ 7 + 1 = 8 := ⟨by decide +kernel, rfl⟩
theorem iX2_rows_8 : decode cX2_rows 8 = .ok (.ireturn, 1) ∧ 8 + 1 = 9 := ⟨by decide +kernel, rfl⟩
theorem iX2_columns_0 : decode cX2_columns 0 = .ok (.aload_n 0, 1) ∧ 0 + 1 = 1 := ⟨by decide +kernel, rfl⟩
theorem iX2_columns_1 : decode cX2_columns 1 = .ok (.iconst 1, 1) ∧ 1 + 1 = 2 := ⟨by decide +kernel, rfl⟩
theorem iX2_columns_2 : decode cX2_columns 2 = .ok (.invokevirtual 40, 3) ∧ 2 + 3 = 5 := ⟨by decide +kernel, rfl⟩
theorem iX2_columns_5 : decode cX2_columns 5 = .ok (.bipush 48, 2) ∧ 5 + 2 = 7 := ⟨by decide +kernel, rfl⟩
theorem iX2_columns_7 : decode cX2_columns 7 = .ok (.isub, 1) ∧ 7 + 1 = 8 := ⟨by decide +kernel, rfl⟩
theorem iX2_columns_8 : decode cX2_columns 8 = .ok (.ireturn, 1) ∧ 8 + 1 = 9 := ⟨by decide +kernel, rfl⟩
theorem iX2_freeCells_0 : decode cX2_freeCells 0 = .ok (.iconst 0, 1) ∧ 0 + 1 = 1 := ⟨by decide +kernel, rfl⟩
theorem iX2_freeCells_1 : decode cX2_freeCells 1 = .ok (.istore_n 1, 1) ∧ 1 + 1 = 2 := ⟨by decide +kernel, rfl⟩
theorem iX2_freeCells_2 : decode cX2_freeCells 2 = .ok (.iconst 0, 1) ∧ 2 + 1 = 3 := ⟨by decide +kernel, rfl⟩
theorem iX2_freeCells_3 : decode cX2_freeCells 3 = .ok (.istore_n 2, 1) ∧ 3 + 1 = 4 := ⟨by decide +kernel, rfl⟩
theorem iX2_freeCells_4 : decode cX2_freeCells 4 = .ok (.iload_n 2, 1) ∧ 4 + 1 = 5 := ⟨by decide +kernel, rfl⟩
theorem iX2_freeCells_5 : decode cX2_freeCells 5 = .ok (.aload_n 0, 1) ∧ 5 + 1 = 6 := ⟨by decide +kernel, rfl⟩
theorem iX2_freeCells_6 : decode cX2_freeCells 6 = .ok (.getfield 26, 3) ∧ 6 + 3 = 9 := ⟨by decide +kernel, rfl⟩
theorem iX2_freeCells_9 : decode cX2_freeCells 9 = .ok (.if_icmp .ge 27, 3) ∧ 9 + 3 = 12 := ⟨by decide +kernel, rfl⟩
theorem iX2_freeCells_12 : decode cX2_freeCells 12 = .ok (.aload_n 0, 1) ∧ 12 + 1 = 13 := ⟨by decide +kernel, rfl⟩
theorem iX2_freeCells_13 : decode cX2_freeCells 13 = .ok (.iconst 3, 1) ∧ 13 + 1 = 14 := ⟨by decide +kernel, rfl⟩
theorem iX2_freeCells_14 : decode cX2_freeCells 14 = .ok (.iload_n 2, 1) ∧ 14 + 1 = 15 := ⟨by decide +kernel, rfl⟩
theorem iX2_freeCells_15 : decode cX2_freeCells 15 = .ok (.iadd, 1) ∧ 15 + 1 = 16 := ⟨by decide +kernel, rfl⟩
theorem iX2_freeCells_16 : decode cX2_freeCells 16 = .ok (.invokevirtual 40, 3) ∧ 16 + 3 = 19 := ⟨by decide +kernel, rfl⟩
theorem iX2_freeCells_19 : decode cX2_freeCells 19 = .ok (.bipush 46, 2) ∧ 19 + 2 = 21 := ⟨by decide +kernel, rfl⟩
theorem iX2_freeCells_21 : decode cX2_freeCells 21 = .ok (.if_icmp .ne 9, 3) ∧ 21 + 3 = 24 := ⟨by decide +kernel, rfl⟩
theorem iX2_freeCells_24 : decode cX2_freeCells 24 = .ok (.iload_n 1, 1) ∧ 24 + 1 = 25 := ⟨by decide +kernel, rfl⟩
theorem iX2_freeCells_25 : decode cX2_freeCells 25 = .ok (.iconst 1, 1) ∧ 25 + 1 = 26 := ⟨by decide +kernel, rfl⟩
theorem iX2_freeCells_26 : decode cX2_freeCells 26 = .ok (.iload_n 2, 1) ∧ 26 + 1 = 27 := ⟨by decide +kernel, rfl⟩
theorem iX2_freeCells_27 : decode cX2_freeCells 27 = .ok (.ishl, 1) ∧ 27 + 1 = 28 := ⟨by decide +kernel, rfl⟩
theorem iX2_freeCells_28 : decode cX2_freeCells 28 = .ok (.ior, 1) ∧ 28 + 1 = 29 := ⟨by decide +kernel, rfl⟩
theorem iX2_freeCells_29 : decode cX2_freeCells 29 = .ok (.istore_n 1, 1) ∧ 29 + 1 = 30 := ⟨by decide +kernel, rfl⟩
theorem iX2_freeCells_30 : decode cX2_freeCells 30 = .ok (.iinc 2 1, 3) ∧ 30 + 3 = 33 := ⟨by decide +kernel, rfl⟩
theorem iX2_freeCells_33 : decode cX2_freeCells 33 = .ok (.goto (-29), 3) ∧ 33 + 3 = 36 := ⟨by decide +kernel, rfl⟩
theorem iX2_freeCells_36 : decode cX2_freeCells 36 = .ok (.iload_n 1, 1) ∧ 36 + 1 = 37 := ⟨by decide +kernel, rfl⟩
theorem iX2_freeCells_37 : decode cX2_freeCells 37 = .ok (.ireturn, 1) ∧ 37 + 1 = 38 := ⟨by decide +kernel, rfl⟩
theorem iX2_leapers_0 : decode cX2_leapers 0 = .ok (.aload_n 0, 1) ∧ 0 + 1 = 1 := ⟨by decide +kernel, rfl⟩
theorem iX2_leapers_1 : decode cX2_leapers 1 = .ok (.getfield 15, 3) ∧ 1 + 3 = 4 := ⟨by decide +kernel, rfl⟩
theorem iX2_leapers_4 : decode cX2_leapers 4 = .ok (.aload_n 0, 1) ∧ 4 + 1 = 5 := ⟨by decide +kernel, rfl⟩
theorem iX2_leapers_5 : decode cX2_leapers 5 = .ok (.iconst 0, 1) ∧ 5 + 1 = 6 := ⟨by decide +kernel, rfl⟩
theorem iX2_leapers_6 : decode cX2_leapers 6 = .ok (.invokevirtual 33, 3) ∧ 6 + 3 = 9 := ⟨by decide +kernel, rfl⟩
theorem iX2_leapers_9 : decode cX2_leapers 9 = .ok (.isub, 1) ∧ 9 + 1 = 10 := ⟨by decide +kernel, rfl⟩
theorem iX2_leapers_10 : decode cX2_leapers 10 = .ok (.iconst 1, 1) ∧ 10 + 1 = 11 := ⟨by decide +kernel, rfl⟩
theorem iX2_leapers_11 : decode cX2_leapers 11 = .ok (.iadd, 1) ∧ 11 + 1 = 12 := ⟨by decide +kernel, rfl⟩
theorem iX2_leapers_12 : decode cX2_leapers 12 = .ok (.iconst 3, 1) ∧ 12 + 1 = 13 := ⟨by decide +kernel, rfl⟩
theorem iX2_leapers_13 : decode cX2_leapers 13 = .ok (.idiv, 1) ∧ 13 + 1 = 14 := ⟨by decide +kernel, rfl⟩
theorem iX2_leapers_14 : decode cX2_leapers 14 = .ok (.ireturn, 1) ∧ 14 + 1 = 15 := ⟨by decide +kernel, rfl⟩
theorem iX2_kindOf_0 : decode cX2_kindOf 0 = .ok (.aload_n 0, 1) ∧ 0 + 1 = 1 := ⟨by decide +kernel, rfl⟩
theorem iX2_kindOf_1 : decode cX2_kindOf 1 = .ok (.aload_n 0, 1) ∧ 1 + 1 = 2 := ⟨by decide +kernel, rfl⟩
theorem iX2_kindOf_2 : decode cX2_kindOf 2 = .ok (.iload_n 1, 1) ∧ 2 + 1 = 3 := ⟨by decide +kernel, rfl⟩
theorem iX2_kindOf_3 : decode cX2_kindOf 3 = .ok (.invokevirtual 33, 3) ∧ 3 + 3 = 6 := ⟨by decide +kernel, rfl⟩
theorem iX2_kindOf_6 : decode cX2_kindOf 6 = .ok (.invokevirtual 40, 3) ∧ 6 + 3 = 9 := ⟨by decide +kernel, rfl⟩
theorem iX2_kindOf_9 : decode cX2_kindOf 9 = .ok (.invokestatic 43, 3) ∧ 9 + 3 = 12 := ⟨by decide +kernel, rfl⟩
theorem iX2_kindOf_12 : decode cX2_kindOf 12 = .ok (.ireturn, 1) ∧ 12 + 1 = 13 := ⟨by decide +kernel, rfl⟩
theorem iX2_standOf_0 : decode cX2_standOf 0 = .ok (.aload_n 0, 1) ∧ 0 + 1 = 1 := ⟨by decide +kernel, rfl⟩
theorem iX2_standOf_1 : decode cX2_standOf 1 = .ok (.aload_n 0, 1) ∧ 1 + 1 = 2 := ⟨by decide +kernel, rfl⟩
theorem iX2_standOf_2 : decode cX2_standOf 2 = .ok (.iload_n 1, 1) ∧ 2 + 1 = 3 := ⟨by decide +kernel, rfl⟩
theorem iX2_standOf_3 : decode cX2_standOf 3 = .ok (.invokevirtual 33, 3) ∧ 3 + 3 = 6 := ⟨by decide +kernel, rfl⟩
theorem iX2_standOf_6 : decode cX2_standOf 6 = .ok (.iconst 1, 1) ∧ 6 + 1 = 7 := ⟨by decide +kernel, rfl⟩
theorem iX2_standOf_7 : decode cX2_standOf 7 = .ok (.iadd, 1) ∧ 7 + 1 = 8 := ⟨by decide +kernel, rfl⟩
theorem iX2_standOf_8 : decode cX2_standOf 8 = .ok (.invokevirtual 40, 3) ∧ 8 + 3 = 11 := ⟨by decide +kernel, rfl⟩
theorem iX2_standOf_11 : decode cX2_standOf 11 = .ok (.bipush 97, 2) ∧ 11 + 2 = 13 := ⟨by decide +kernel, rfl⟩
theorem iX2_standOf_13 : decode cX2_standOf 13 = .ok (.isub, 1) ∧ 13 + 1 = 14 := ⟨by decide +kernel, rfl⟩
theorem iX2_standOf_14 : decode cX2_standOf 14 = .ok (.ireturn, 1) ∧ 14 + 1 = 15 := ⟨by decide +kernel, rfl⟩
theorem iX2_kindPlace_0 : decode cX2_kindPlace 0 = .ok (.iconst 3, 1) ∧ 0 + 1 = 1 := ⟨by decide +kernel, rfl⟩
theorem iX2_kindPlace_1 : decode cX2_kindPlace 1 = .ok (.aload_n 0, 1) ∧ 1 + 1 = 2 := ⟨by decide +kernel, rfl⟩
theorem iX2_kindPlace_2 : decode cX2_kindPlace 2 = .ok (.getfield 26, 3) ∧ 2 + 3 = 5 := ⟨by decide +kernel, rfl⟩
theorem iX2_kindPlace_5 : decode cX2_kindPlace 5 = .ok (.iadd, 1) ∧ 5 + 1 = 6 := ⟨by decide +kernel, rfl⟩
theorem iX2_kindPlace_6 : decode cX2_kindPlace 6 = .ok (.iconst 1, 1) ∧ 6 + 1 = 7 := ⟨by decide +kernel, rfl⟩
theorem iX2_kindPlace_7 : decode cX2_kindPlace 7 = .ok (.iadd, 1) ∧ 7 + 1 = 8 := ⟨by decide +kernel, rfl⟩
theorem iX2_kindPlace_8 : decode cX2_kindPlace 8 = .ok (.iconst 3, 1) ∧ 8 + 1 = 9 := ⟨by decide +kernel, rfl⟩
theorem iX2_kindPlace_9 : decode cX2_kindPlace 9 = .ok (.iload_n 1, 1) ∧ 9 + 1 = 10 := ⟨by decide +kernel, rfl⟩
theorem iX2_kindPlace_10 : decode cX2_kindPlace 10 = .ok (.imul, 1) ∧ 10 + 1 = 11 := ⟨by decide +kernel, rfl⟩
theorem iX2_kindPlace_11 : decode cX2_kindPlace 11 = .ok (.iadd, 1) ∧ 11 + 1 = 12 := ⟨by decide +kernel, rfl⟩
theorem iX2_kindPlace_12 : decode cX2_kindPlace 12 = .ok (.ireturn, 1) ∧ 12 + 1 = 13 := ⟨by decide +kernel, rfl⟩
theorem iX2_kindFor_0 : decode cX2_kindFor 0 = .ok (.ldc 46, 2) ∧ 0 + 2 = 2 := ⟨by decide +kernel, rfl⟩
theorem iX2_kindFor_2 : decode cX2_kindFor 2 = .ok (.iload_n 0, 1) ∧ 2 + 1 = 3 := ⟨by decide +kernel, rfl⟩
theorem iX2_kindFor_3 : decode cX2_kindFor 3 = .ok (.i2c, 1) ∧ 3 + 1 = 4 := ⟨by decide +kernel, rfl⟩
theorem iX2_kindFor_4 : decode cX2_kindFor 4 = .ok (.invokevirtual 48, 3) ∧ 4 + 3 = 7 := ⟨by decide +kernel, rfl⟩
theorem iX2_kindFor_7 : decode cX2_kindFor 7 = .ok (.ireturn, 1) ∧ 7 + 1 = 8 := ⟨by decide +kernel, rfl⟩
theorem iX2_fits_0 : decode cX2_fits 0 = .ok (.aload_n 0, 1) ∧ 0 + 1 = 1 := ⟨by decide +kernel, rfl⟩
theorem iX2_fits_1 : decode cX2_fits 1 = .ok (.iload_n 1, 1) ∧ 1 + 1 = 2 := ⟨by decide +kernel, rfl⟩
theorem iX2_fits_2 : decode cX2_fits 2 = .ok (.invokevirtual 40, 3) ∧ 2 + 3 = 5 := ⟨by decide +kernel, rfl⟩
theorem iX2_fits_5 : decode cX2_fits 5 = .ok (.istore_n 2, 1) ∧ 5 + 1 = 6 := ⟨by decide +kernel, rfl⟩
theorem iX2_fits_6 : decode cX2_fits 6 = .ok (.iload_n 1, 1) ∧ 6 + 1 = 7 := ⟨by decide +kernel, rfl⟩
theorem iX2_fits_7 : decode cX2_fits 7 = .ok (.ifCond .ne 21, 3) ∧ 7 + 3 = 10 := ⟨by decide +kernel, rfl⟩
theorem iX2_fits_10 : decode cX2_fits 10 = .ok (.iload_n 2, 1) ∧ 10 + 1 = 11 := ⟨by decide +kernel, rfl⟩
theorem iX2_fits_11 : decode cX2_fits 11 = .ok (.bipush 50, 2) ∧ 11 + 2 = 13 := ⟨by decide +kernel, rfl⟩
theorem iX2_fits_13 : decode cX2_fits 13 = .ok (.if_icmp .eq 9, 3) ∧ 13 + 3 = 16 := ⟨by decide +kernel, rfl⟩
theorem iX2_fits_16 : decode cX2_fits 16 = .ok (.iload_n 2, 1) ∧ 16 + 1 = 17 := ⟨by decide +kernel, rfl⟩
theorem iX2_fits_17 : decode cX2_fits 17 = .ok (.bipush 51, 2) ∧ 17 + 2 = 19 := ⟨by decide +kernel, rfl⟩
theorem iX2_fits_19 : decode cX2_fits 19 = .ok (.if_icmp .ne 7, 3) ∧ 19 + 3 = 22 := ⟨by decide +kernel, rfl⟩
theorem iX2_fits_22 : decode cX2_fits 22 = .ok (.iconst 1, 1) ∧ 22 + 1 = 23 := ⟨by decide +kernel, rfl⟩
theorem iX2_fits_23 : decode cX2_fits 23 = .ok (.goto 4, 3) ∧ 23 + 3 = 26 := ⟨by decide +kernel, rfl⟩
theorem iX2_fits_26 : decode cX2_fits 26 = .ok (.iconst 0, 1) ∧ 26 + 1 = 27 := ⟨by decide +kernel, rfl⟩
theorem iX2_fits_27 : decode cX2_fits 27 = .ok (.ireturn, 1) ∧ 27 + 1 = 28 := ⟨by decide +kernel, rfl⟩
theorem iX2_fits_28 : decode cX2_fits 28 = .ok (.iload_n 1, 1) ∧ 28 + 1 = 29 := ⟨by decide +kernel, rfl⟩
theorem iX2_fits_29 : decode cX2_fits 29 = .ok (.iconst 1, 1) ∧ 29 + 1 = 30 := ⟨by decide +kernel, rfl⟩
theorem iX2_fits_30 : decode cX2_fits 30 = .ok (.if_icmp .ne 21, 3) ∧ 30 + 3 = 33 := ⟨by decide +kernel, rfl⟩
theorem iX2_fits_33 : decode cX2_fits 33 = .ok (.iload_n 2, 1) ∧ 33 + 1 = 34 := ⟨by decide +kernel, rfl⟩
theorem iX2_fits_34 : decode cX2_fits 34 = .ok (.bipush 50, 2) ∧ 34 + 2 = 36 := ⟨by decide +kernel, rfl⟩
theorem iX2_fits_36 : decode cX2_fits 36 = .ok (.if_icmp .lt 13, 3) ∧ 36 + 3 = 39 := ⟨by decide +kernel, rfl⟩
theorem iX2_fits_39 : decode cX2_fits 39 = .ok (.iload_n 2, 1) ∧ 39 + 1 = 40 := ⟨by decide +kernel, rfl⟩
theorem iX2_fits_40 : decode cX2_fits 40 = .ok (.bipush 52, 2) ∧ 40 + 2 = 42 := ⟨by decide +kernel, rfl⟩
theorem iX2_fits_42 : decode cX2_fits 42 = .ok (.if_icmp .gt 7, 3) ∧ 42 + 3 = 45 := ⟨by decide +kernel, rfl⟩
theorem iX2_fits_45 : decode cX2_fits 45 = .ok (.iconst 1, 1) ∧ 45 + 1 = 46 := ⟨by decide +kernel, rfl⟩
theorem iX2_fits_46 : decode cX2_fits 46 = .ok (.goto 4, 3) ∧ 46 + 3 = 49 := ⟨by decide +kernel, rfl⟩
theorem iX2_fits_49 : decode cX2_fits 49 = .ok (.iconst 0, 1) ∧ 49 + 1 = 50 := ⟨by decide +kernel, rfl⟩
theorem iX2_fits_50 : decode cX2_fits 50 = .ok (.ireturn, 1) ∧ 50 + 1 = 51 := ⟨by decide +kernel, rfl⟩
theorem iX2_fits_51 : decode cX2_fits 51 = .ok (.iload_n 1, 1) ∧ 51 + 1 = 52 := ⟨by decide +kernel, rfl⟩
theorem iX2_fits_52 : decode cX2_fits 52 = .ok (.iconst 2, 1) ∧ 52 + 1 = 53 := ⟨by decide +kernel, rfl⟩
theorem iX2_fits_53 : decode cX2_fits 53 = .ok (.if_icmp .eq 13, 3) ∧ 53 + 3 = 56 := ⟨by decide +kernel, rfl⟩
theorem iX2_fits_56 : decode cX2_fits 56 = .ok (.iload_n 1, 1) ∧ 56 + 1 = 57 := ⟨by decide +kernel, rfl⟩
theorem iX2_fits_57 : decode cX2_fits 57 = .ok (.iconst 3, 1) ∧ 57 + 1 = 58 := ⟨by decide +kernel, rfl⟩
theorem iX2_fits_58 : decode cX2_fits 58 = .ok (.aload_n 0, 1) ∧ 58 + 1 = 59 := ⟨by decide +kernel, rfl⟩
theorem iX2_fits_59 : decode cX2_fits 59 = .ok (.getfield 26, 3) ∧ 59 + 3 = 62 := ⟨by decide +kernel, rfl⟩
theorem iX2_fits_62 : decode cX2_fits 62 = .ok (.iadd, 1) ∧ 62 + 1 = 63 := ⟨by decide +kernel, rfl⟩
theorem iX2_fits_63 : decode cX2_fits 63 = .ok (.if_icmp .ne 15, 3) ∧ 63 + 3 = 66 := ⟨by decide +kernel, rfl⟩
theorem iX2_fits_66 : decode cX2_fits 66 = .ok (.iload_n 2, 1) ∧ 66 + 1 = 67 := ⟨by decide +kernel, rfl⟩
theorem iX2_fits_67 : decode cX2_fits 67 = .ok (.bipush 59, 2) ∧ 67 + 2 = 69 := ⟨by decide +kernel, rfl⟩
theorem iX2_fits_69 : decode cX2_fits 69 = .ok (.if_icmp .ne 7, 3) ∧ 69 + 3 = 72 := ⟨by decide +kernel, rfl⟩
theorem iX2_fits_72 : decode cX2_fits 72 = .ok (.iconst 1, 1) ∧ 72 + 1 = 73 := ⟨by decide +kernel, rfl⟩
theorem iX2_fits_73 : decode cX2_fits 73 = .ok (.goto 4, 3) ∧ 73 + 3 = 76 := ⟨by decide +kernel, rfl⟩
theorem iX2_fits_76 : decode cX2_fits 76 = .ok (.iconst 0, 1) ∧ 76 + 1 = 77 := ⟨by decide +kernel, rfl⟩
theorem iX2_fits_77 : decode cX2_fits 77 = .ok (.ireturn, 1) ∧ 77 + 1 = 78 := ⟨by decide +kernel, rfl⟩
theorem iX2_fits_78 : decode cX2_fits 78 = .ok (.iload_n 1, 1) ∧ 78 + 1 = 79 := ⟨by decide +kernel, rfl⟩
theorem iX2_fits_79 : decode cX2_fits 79 = .ok (.iconst 3, 1) ∧ 79 + 1 = 80 := ⟨by decide +kernel, rfl⟩
theorem iX2_fits_80 : decode cX2_fits 80 = .ok (.aload_n 0, 1) ∧ 80 + 1 = 81 := ⟨by decide +kernel, rfl⟩
theorem iX2_fits_81 : decode cX2_fits 81 = .ok (.getfield 26, 3) ∧ 81 + 3 = 84 := ⟨by decide +kernel, rfl⟩
theorem iX2_fits_84 : decode cX2_fits 84 = .ok (.iadd, 1) ∧ 84 + 1 = 85 := ⟨by decide +kernel, rfl⟩
theorem iX2_fits_85 : decode cX2_fits 85 = .ok (.if_icmp .ge 21, 3) ∧ 85 + 3 = 88 := ⟨by decide +kernel, rfl⟩
theorem iX2_fits_88 : decode cX2_fits 88 = .ok (.iload_n 2, 1) ∧ 88 + 1 = 89 := ⟨by decide +kernel, rfl⟩
theorem iX2_fits_89 : decode cX2_fits 89 = .ok (.bipush 46, 2) ∧ 89 + 2 = 91 := ⟨by decide +kernel, rfl⟩
theorem iX2_fits_91 : decode cX2_fits 91 = .ok (.if_icmp .eq 9, 3) ∧ 91 + 3 = 94 := ⟨by decide +kernel, rfl⟩
theorem iX2_fits_94 : decode cX2_fits 94 = .ok (.iload_n 2, 1) ∧ 94 + 1 = 95 := ⟨by decide +kernel, rfl⟩
theorem iX2_fits_95 : decode cX2_fits 95 = .ok (.bipush 35, 2) ∧ 95 + 2 = 97 := ⟨by decide +kernel, rfl⟩
theorem iX2_fits_97 : decode cX2_fits 97 = .ok (.if_icmp .ne 7, 3) ∧ 97 + 3 = 100 := ⟨by decide +kernel, rfl⟩
theorem iX2_fits_100 : decode cX2_fits 100 = .ok (.iconst 1, 1) ∧ 100 + 1 = 101 := ⟨by decide +kernel, rfl⟩
theorem iX2_fits_101 : decode cX2_fits 101 = .ok (.goto 4, 3) ∧ 101 + 3 = 104 := ⟨by decide +kernel, rfl⟩
theorem iX2_fits_104 : decode cX2_fits 104 = .ok (.iconst 0, 1) ∧ 104 + 1 = 105 := ⟨by decide +kernel, rfl⟩
theorem iX2_fits_105 : decode cX2_fits 105 = .ok (.ireturn, 1) ∧ 105 + 1 = 106 := ⟨by decide +kernel, rfl⟩
theorem iX2_fits_106 : decode cX2_fits 106 = .ok (.iload_n 1, 1) ∧ 106 + 1 = 107 := ⟨by decide +kernel, rfl⟩
theorem iX2_fits_107 : decode cX2_fits 107 = .ok (.aload_n 0, 1) ∧ 107 + 1 = 108 := ⟨by decide +kernel, rfl⟩
theorem iX2_fits_108 : decode cX2_fits 108 = .ok (.iconst 0, 1) ∧ 108 + 1 = 109 := ⟨by decide +kernel, rfl⟩
theorem iX2_fits_109 : decode cX2_fits 109 = .ok (.invokevirtual 33, 3) ∧ 109 + 3 = 112 := ⟨by decide +kernel, rfl⟩
theorem iX2_fits_112 : decode cX2_fits 112 = .ok (.isub, 1) ∧ 112 + 1 = 113 := ⟨by decide +kernel, rfl⟩
theorem iX2_fits_113 : decode cX2_fits 113 = .ok (.iconst 3, 1) ∧ 113 + 1 = 114 := ⟨by decide +kernel, rfl⟩
theorem iX2_fits_114 : decode cX2_fits 114 = .ok (.idiv, 1) ∧ 114 + 1 = 115 := ⟨by decide +kernel, rfl⟩
theorem iX2_fits_115 : decode cX2_fits 115 = .ok (.istore_n 3, 1) ∧ 115 + 1 = 116 := ⟨by decide +kernel, rfl⟩
theorem iX2_fits_116 : decode cX2_fits 116 = .ok (.iload_n 1, 1) ∧ 116 + 1 = 117 := ⟨by decide +kernel, rfl⟩
theorem iX2_fits_117 : decode cX2_fits 117 = .ok (.aload_n 0, 1) ∧ 117 + 1 = 118 := ⟨by decide +kernel, rfl⟩
theorem iX2_fits_118 : decode cX2_fits 118 = .ok (.iconst 0, 1) ∧ 118 + 1 = 119 := ⟨by decide +kernel, rfl⟩
theorem iX2_fits_119 : decode cX2_fits 119 = .ok (.invokevirtual 33, 3) ∧ 119 + 3 = 122 := ⟨by decide +kernel, rfl⟩
theorem iX2_fits_122 : decode cX2_fits 122 = .ok (.isub, 1) ∧ 122 + 1 = 123 := ⟨by decide +kernel, rfl⟩
theorem iX2_fits_123 : decode cX2_fits 123 = .ok (.iconst 3, 1) ∧ 123 + 1 = 124 := ⟨by decide +kernel, rfl⟩
theorem iX2_fits_124 : decode cX2_fits 124 = .ok (.irem, 1) ∧ 124 + 1 = 125 := ⟨by decide +kernel, rfl⟩
theorem iX2_fits_125 : decode cX2_fits 125 = .ok (.istore 4, 2) ∧ 125 + 2 = 127 := ⟨by decide +kernel, rfl⟩
theorem iX2_fits_127 : decode cX2_fits 127 = .ok (.iload 4, 2) ∧ 127 + 2 = 129 := ⟨by decide +kernel, rfl⟩
theorem iX2_fits_129 : decode cX2_fits 129 = .ok (.ifCond .ne 16, 3) ∧ 129 + 3 = 132 := ⟨by decide +kernel, rfl⟩
theorem iX2_fits_132 : decode cX2_fits 132 = .ok (.iload_n 2, 1) ∧ 132 + 1 = 133 := ⟨by decide +kernel, rfl⟩
theorem iX2_fits_133 : decode cX2_fits 133 = .ok (.invokestatic 43, 3) ∧ 133 + 3 = 136 := ⟨by decide +kernel, rfl⟩
theorem iX2_fits_136 : decode cX2_fits 136 = .ok (.ifCond .lt 7, 3) ∧ 136 + 3 = 139 := ⟨by decide +kernel, rfl⟩
theorem iX2_fits_139 : decode cX2_fits 139 = .ok (.iconst 1, 1) ∧ 139 + 1 = 140 := ⟨by decide +kernel, rfl⟩
theorem iX2_fits_140 : decode cX2_fits 140 = .ok (.goto 4, 3) ∧ 140 + 3 = 143 := ⟨by decide +kernel, rfl⟩
theorem iX2_fits_143 : decode cX2_fits 143 = .ok (.iconst 0, 1) ∧ 143 + 1 = 144 := ⟨by decide +kernel, rfl⟩
theorem iX2_fits_144 : decode cX2_fits 144 = .ok (.ireturn, 1) ∧ 144 + 1 = 145 := ⟨by decide +kernel, rfl⟩
theorem iX2_fits_145 : decode cX2_fits 145 = .ok (.iload 4, 2) ∧ 145 + 2 = 147 := ⟨by decide +kernel, rfl⟩
theorem iX2_fits_147 : decode cX2_fits 147 = .ok (.iconst 1, 1) ∧ 147 + 1 = 148 := ⟨by decide +kernel, rfl⟩
theorem iX2_fits_148 : decode cX2_fits 148 = .ok (.if_icmp .ne 9, 3) ∧ 148 + 3 = 151 := ⟨by decide +kernel, rfl⟩
theorem iX2_fits_151 : decode cX2_fits 151 = .ok (.aload_n 0, 1) ∧ 151 + 1 = 152 := ⟨by decide +kernel, rfl⟩
theorem iX2_fits_152 : decode cX2_fits 152 = .ok (.iload_n 3, 1) ∧ 152 + 1 = 153 := ⟨by decide +kernel, rfl⟩
theorem iX2_fits_153 : decode cX2_fits 153 = .ok (.invokevirtual 53, 3) ∧ 153 + 3 = 156 := ⟨by decide +kernel, rfl⟩
theorem iX2_fits_156 : decode cX2_fits 156 = .ok (.ireturn, 1) ∧ 156 + 1 = 157 := ⟨by decide +kernel, rfl⟩
theorem iX2_fits_157 : decode cX2_fits 157 = .ok (.iload_n 2, 1) ∧ 157 + 1 = 158 := ⟨by decide +kernel, rfl⟩
theorem iX2_fits_158 : decode cX2_fits 158 = .ok (.bipush 44, 2) ∧ 158 + 2 = 160 := ⟨by decide +kernel, rfl⟩
theorem iX2_fits_160 : decode cX2_fits 160 = .ok (.if_icmp .ne 12, 3) ∧ 160 + 3 = 163 := ⟨by decide +kernel, rfl⟩
theorem iX2_fits_163 : decode cX2_fits 163 = .ok (.iload_n 3, 1) ∧ 163 + 1 = 164 := ⟨by decide +kernel, rfl⟩
theorem iX2_fits_164 : decode cX2_fits 164 = .ok (.iconst 3, 1) ∧ 164 + 1 = 165 := ⟨by decide +kernel, rfl⟩
theorem iX2_fits_165 : decode cX2_fits 165 = .ok (.if_icmp .ge 7, 3) ∧ 165 + 3 = 168 := ⟨by decide +kernel, rfl⟩
theorem iX2_fits_168 : decode cX2_fits 168 = .ok (.iconst 1, 1) ∧ 168 + 1 = 169 := ⟨by decide +kernel, rfl⟩
theorem iX2_fits_169 : decode cX2_fits 169 = .ok (.goto 4, 3) ∧ 169 + 3 = 172 := ⟨by decide +kernel, rfl⟩
theorem iX2_fits_172 : decode cX2_fits 172 = .ok (.iconst 0, 1) ∧ 172 + 1 = 173 := ⟨by decide +kernel, rfl⟩
theorem iX2_fits_173 : decode cX2_fits 173 = .ok (.ireturn, 1) ∧ 173 + 1 = 174 := ⟨by decide +kernel, rfl⟩
theorem iX2_isOpenTo_0 : decode cX2_isOpenTo 0 = .ok (.aload_n 0, 1) ∧ 0 + 1 = 1 := ⟨by decide +kernel, rfl⟩
theorem iX2_isOpenTo_1 : decode cX2_isOpenTo 1 = .ok (.iload_n 1, 1) ∧ 1 + 1 = 2 := ⟨by decide +kernel, rfl⟩
theorem iX2_isOpenTo_2 : decode cX2_isOpenTo 2 = .ok (.invokevirtual 56, 3) ∧ 2 + 3 = 5 := ⟨by decide +kernel, rfl⟩
theorem iX2_isOpenTo_5 : decode cX2_isOpenTo 5 = .ok (.istore_n 2, 1) ∧ 5 + 1 = 6 := ⟨by decide +kernel, rfl⟩
theorem iX2_isOpenTo_6 : decode cX2_isOpenTo 6 = .ok (.iload_n 2, 1) ∧ 6 + 1 = 7 := ⟨by decide +kernel, rfl⟩
theorem iX2_isOpenTo_7 : decode cX2_isOpenTo 7 = .ok (.ifCond .lt 23, 3) ∧ 7 + 3 = 10 := ⟨by decide +kernel, rfl⟩
theorem iX2_isOpenTo_10 : decode cX2_isOpenTo 10 = .ok (.iload_n 2, 1) ∧ 10 + 1 = 11 := ⟨by decide +kernel, rfl⟩
theorem iX2_isOpenTo_11 : decode cX2_isOpenTo 11 = .ok (.aload_n 0, 1) ∧ 11 + 1 = 12 := ⟨by decide +kernel, rfl⟩
theorem iX2_isOpenTo_12 : decode cX2_isOpenTo 12 = .ok (.getfield 26, 3) ∧ 12 + 3 = 15 := ⟨by decide +kernel, rfl⟩
theorem iX2_isOpenTo_15 : decode cX2_isOpenTo 15 = .ok (.if_icmp .ge 15, 3) ∧ 15 + 3 = 18 := ⟨by decide +kernel, rfl⟩
theorem iX2_isOpenTo_18 : decode cX2_isOpenTo 18 = .ok (.aload_n 0, 1) ∧ 18 + 1 = 19 := ⟨by decide +kernel, rfl⟩
theorem iX2_isOpenTo_19 : decode cX2_isOpenTo 19 = .ok (.iconst 3, 1) ∧ 19 + 1 = 20 := ⟨by decide +kernel, rfl⟩
theorem iX2_isOpenTo_20 : decode cX2_isOpenTo 20 = .ok (.iload_n 2, 1) ∧ 20 + 1 = 21 := ⟨by decide +kernel, rfl⟩
theorem iX2_isOpenTo_21 : decode cX2_isOpenTo 21 = .ok (.iadd, 1) ∧ 21 + 1 = 22 := ⟨by decide +kernel, rfl⟩
theorem iX2_isOpenTo_22 : decode cX2_isOpenTo 22 = .ok (.invokevirtual 40, 3) ∧ 22 + 3 = 25 := ⟨by decide +kernel, rfl⟩
theorem iX2_isOpenTo_25 : decode cX2_isOpenTo 25 = .ok (.bipush 46, 2) ∧ 25 + 2 = 27 := ⟨by decide +kernel, rfl⟩
theorem iX2_isOpenTo_27 : decode cX2_isOpenTo 27 = .ok (.if_icmp .eq 5, 3) ∧ 27 + 3 = 30 := ⟨by decide +kernel, rfl⟩
theorem iX2_isOpenTo_30 : decode cX2_isOpenTo 30 = .ok (.iconst 0, 1) ∧ 30 + 1 = 31 := ⟨by decide +kernel, rfl⟩
theorem iX2_isOpenTo_31 : decode cX2_isOpenTo 31 = .ok (.ireturn, 1) ∧ 31 + 1 = 32 := ⟨by decide +kernel, rfl⟩
theorem iX2_isOpenTo_32 : decode cX2_isOpenTo 32 = .ok (.iconst 0, 1) ∧ 32 + 1 = 33 := ⟨by decide +kernel, rfl⟩
theorem iX2_isOpenTo_33 : decode cX2_isOpenTo 33 = .ok (.istore_n 3, 1) ∧ 33 + 1 = 34 := ⟨by decide +kernel, rfl⟩
theorem iX2_isOpenTo_34 : decode cX2_isOpenTo 34 = .ok (.iload_n 3, 1) ∧ 34 + 1 = 35 := ⟨by decide +kernel, rfl⟩
theorem iX2_isOpenTo_35 : decode cX2_isOpenTo 35 = .ok (.iload_n 1, 1) ∧ 35 + 1 = 36 := ⟨by decide +kernel, rfl⟩
theorem iX2_isOpenTo_36 : decode cX2_isOpenTo 36 = .ok (.if_icmp .ge 25, 3) ∧ 36 + 3 = 39 := ⟨by decide +kernel, rfl⟩
theorem iX2_isOpenTo_39 : decode cX2_isOpenTo 39 = .ok (.iload_n 3, 1) ∧ 39 + 1 = 40 := ⟨by decide +kernel, rfl⟩
theorem iX2_isOpenTo_40 : decode cX2_isOpenTo 40 = .ok (.iconst 4, 1) ∧ 40 + 1 = 41 := ⟨by decide +kernel, rfl⟩
theorem iX2_isOpenTo_41 : decode cX2_isOpenTo 41 = .ok (.if_icmp .ge 20, 3) ∧ 41 + 3 = 44 := ⟨by decide +kernel, rfl⟩
theorem iX2_isOpenTo_44 : decode cX2_isOpenTo 44 = .ok (.aload_n 0, 1) ∧ 44 + 1 = 45 := ⟨by decide +kernel, rfl⟩
theorem iX2_isOpenTo_45 : decode cX2_isOpenTo 45 = .ok (.iload_n 3, 1) ∧ 45 + 1 = 46 := ⟨by decide +kernel, rfl⟩
theorem iX2_isOpenTo_46 : decode cX2_isOpenTo 46 = .ok (.invokevirtual 56, 3) ∧ 46 + 3 = 49 := ⟨by decide +kernel, rfl⟩
theorem iX2_isOpenTo_49 : decode cX2_isOpenTo 49 = .ok (.iload_n 2, 1) ∧ 49 + 1 = 50 := ⟨by decide +kernel, rfl⟩
theorem iX2_isOpenTo_50 : decode cX2_isOpenTo 50 = .ok (.if_icmp .ne 5, 3) ∧ 50 + 3 = 53 := ⟨by decide +kernel, rfl⟩
theorem iX2_isOpenTo_53 : decode cX2_isOpenTo 53 = .ok (.iconst 0, 1) ∧ 53 + 1 = 54 := ⟨by decide +kernel, rfl⟩
theorem iX2_isOpenTo_54 : decode cX2_isOpenTo 54 = .ok (.ireturn, 1) ∧ 54 + 1 = 55 := ⟨by decide +kernel, rfl⟩
theorem iX2_isOpenTo_55 : decode cX2_isOpenTo 55 = .ok (.iinc 3 1, 3) ∧ 55 + 3 = 58 := ⟨by decide +kernel, rfl⟩
theorem iX2_isOpenTo_58 : decode cX2_isOpenTo 58 = .ok (.goto (-24), 3) ∧ 58 + 3 = 61 := ⟨by decide +kernel, rfl⟩
theorem iX2_isOpenTo_61 : decode cX2_isOpenTo 61 = .ok (.iconst 1, 1) ∧ 61 + 1 = 62 := ⟨by decide +kernel, rfl⟩
theorem iX2_isOpenTo_62 : decode cX2_isOpenTo 62 = .ok (.ireturn, 1) ∧ 62 + 1 = 63 := ⟨by decide +kernel, rfl⟩
theorem iX3_init_0 : decode cX3_init 0 = .ok (.aload_n 0, 1) ∧ 0 + 1 = 1 := ⟨by decide +kernel, rfl⟩
theorem iX3_init_1 : decode cX3_init 1 = .ok (.invokespecial 3, 3) ∧ 1 + 3 = 4 := ⟨by decide +kernel, rfl⟩
theorem iX3_init_4 : decode cX3_init 4 = .ok (.aload_n 0, 1) ∧ 4 + 1 = 5 := ⟨by decide +kernel, rfl⟩
theorem iX3_init_5 : decode cX3_init 5 = .ok (.iconst 4, 1) ∧ 5 + 1 = 6 := ⟨by decide +kernel, rfl⟩
theorem iX3_init_6 : decode cX3_init 6 = .ok (.newarray .int, 2) ∧ 6 + 2 = 8 := ⟨by decide +kernel, rfl⟩
theorem iX3_init_8 : decode cX3_init 8 = .ok (.putfield 9, 3) ∧ 8 + 3 = 11 := ⟨by decide +kernel, rfl⟩
theorem iX3_init_11 : decode cX3_init 11 = .ok (.aload_n 0, 1) ∧ 11 + 1 = 12 := ⟨by decide +kernel, rfl⟩
theorem iX3_init_12 : decode cX3_init 12 = .ok (.iconst 4, 1) ∧ 12 + 1 = 13 := ⟨by decide +kernel, rfl⟩
theorem iX3_init_13 : decode cX3_init 13 = .ok (.newarray .int, 2) ∧ 13 + 2 = 15 := ⟨by decide +kernel, rfl⟩
theorem iX3_init_15 : decode cX3_init 15 = .ok (.putfield 15, 3) ∧ 15 + 3 = 18 := ⟨by decide +kernel, rfl⟩
theorem iX3_init_18 : decode cX3_init 18 = .ok (.aload_n 0, 1) ∧ 18 + 1 = 19 := ⟨by decide +kernel, rfl⟩
theorem iX3_init_19 : decode cX3_init 19 = .ok (.bipush 6, 2) ∧ 19 + 2 = 21 := ⟨by decide +kernel, rfl⟩
theorem iX3_init_21 : decode cX3_init 21 = .ok (.newarray .int, 2) ∧ 21 + 2 = 23 := ⟨by decide +kernel, rfl⟩
theorem iX3_init_23 : decode cX3_init 23 = .ok (.putfield 18, 3) ∧ 23 + 3 = 26 := ⟨by decide +kernel, rfl⟩
theorem iX3_init_26 : decode cX3_init 26 = .ok (.aload_n 0, 1) ∧ 26 + 1 = 27 := ⟨by decide +kernel, rfl⟩
theorem iX3_init_27 : decode cX3_init 27 = .ok (.bipush 6, 2) ∧ 27 + 2 = 29 := ⟨by decide +kernel, rfl⟩
theorem iX3_init_29 : decode cX3_init 29 = .ok (.newarray .int, 2) ∧ 29 + 2 = 31 := ⟨by decide +kernel, rfl⟩
theorem iX3_init_31 : decode cX3_init 31 = .ok (.putfield 21, 3) ∧ 31 + 3 = 34 := ⟨by decide +kernel, rfl⟩
theorem iX3_init_34 : decode cX3_init 34 = .ok (.return_, 1) ∧ 34 + 1 = 35 := ⟨by decide +kernel, rfl⟩
theorem iX3_isThere_0 : decode cX3_isThere 0 = .ok (.aload_n 0, 1) ∧ 0 + 1 = 1 := ⟨by decide +kernel, rfl⟩
theorem iX3_isThere_1 : decode cX3_isThere 1 = .ok (.getfield 24, 3) ∧ 1 + 3 = 4 := ⟨by decide +kernel, rfl⟩
theorem iX3_isThere_4 : decode cX3_isThere 4 = .ok (.ifCond .le 7, 3) ∧ 4 + 3 = 7 := ⟨by decide +kernel, rfl⟩
theorem iX3_isThere_7 : decode cX3_isThere 7 = .ok (.iconst 1, 1) ∧ 7 + 1 = 8 := ⟨by decide +kernel, rfl⟩
theorem iX3_isThere_8 : decode cX3_isThere 8 = .ok (.goto 4, 3) ∧ 8 + 3 = 11 := ⟨by decide +kernel, rfl⟩
theorem iX3_isThere_11 : decode cX3_isThere 11 = .ok (.iconst 0, 1) ∧ 11 + 1 = 12 := ⟨by decide +kernel, rfl⟩
theorem iX3_isThere_12 : decode cX3_isThere 12 = .ok (.ireturn, 1) ∧ 12 + 1 = 13 := ⟨by decide +kernel, rfl⟩
theorem iX3_hasLeaper_0 : decode cX3_hasLeaper 0 = .ok (.iload_n 1, 1) ∧ 0 + 1 = 1 := ⟨by decide +kernel, rfl⟩
theorem iX3_hasLeaper_1 : decode cX3_hasLeaper 1 = .ok (.ifCond .lt 20, 3) ∧ 1 + 3 = 4 := ⟨by decide +kernel, rfl⟩
theorem iX3_hasLeaper_4 : decode cX3_hasLeaper 4 = .ok (.iload_n 1, 1) ∧ 4 + 1 = 5 := ⟨by decide +kernel, rfl⟩
theorem iX3_hasLeaper_5 : decode cX3_hasLeaper 5 = .ok (.aload_n 0, 1) ∧ 5 + 1 = 6 := ⟨by decide +kernel, rfl⟩
theorem iX3_hasLeaper_6 : decode cX3_hasLeaper 6 = .ok (.getfield 24, 3) ∧ 6 + 3 = 9 := ⟨by decide +kernel, rfl⟩
theorem iX3_hasLeaper_9 : decode cX3_hasLeaper 9 = .ok (.if_icmp .ge 12, 3) ∧ 9 + 3 = 12 := ⟨by decide +kernel, rfl⟩
theorem iX3_hasLeaper_12 : decode cX3_hasLeaper 12 = .ok (.iload_n 1, 1) ∧ 12 + 1 = 13 := ⟨by decide +kernel, rfl⟩
theorem iX3_hasLeaper_13 : decode cX3_hasLeaper 13 = .ok (.iconst 4, 1) ∧ 13 + 1 = 14 := ⟨by decide +kernel, rfl⟩
theorem iX3_hasLeaper_14 : decode cX3_hasLeaper 14 = .ok (.if_icmp .ge 7, 3) ∧ 14 + 3 = 17 := ⟨by decide +kernel, rfl⟩
theorem iX3_hasLeaper_17 : decode cX3_hasLeaper 17 = .ok (.iconst 1, 1) ∧ 17 + 1 = 18 := ⟨by decide +kernel, rfl⟩
theorem iX3_hasLeaper_18 : decode cX3_hasLeaper 18 = .ok (.goto 4, 3) ∧ 18 + 3 = 21 := ⟨by decide +kernel, rfl⟩
theorem iX3_hasLeaper_21 : decode cX3_hasLeaper 21 = .ok (.iconst 0, 1) ∧ 21 + 1 = 22 := ⟨by decide +kernel, rfl⟩
theorem iX3_hasLeaper_22 : decode cX3_hasLeaper 22 = .ok (.ireturn, 1) ∧ 22 + 1 = 23 := ⟨by decide +kernel, rfl⟩
theorem iX3_kindOf_0 : decode cX3_kindOf 0 = .ok (.aload_n 0, 1) ∧ 0 + 1 = 1 := ⟨by decide +kernel, rfl⟩
theorem iX3_kindOf_1 : decode cX3_kindOf 1 = .ok (.iload_n 1, 1) ∧ 1 + 1 = 2 := ⟨by decide +kernel, rfl⟩
theorem iX3_kindOf_2 : decode cX3_kindOf 2 = .ok (.invokevirtual 28, 3) ∧ 2 + 3 = 5 := ⟨by decide +kernel, rfl⟩
theorem iX3_kindOf_5 : decode cX3_kindOf 5 = .ok (.ifCond .eq 12, 3) ∧ 5 + 3 = 8 := ⟨by decide +kernel, rfl⟩
theorem iX3_kindOf_8 : decode cX3_kindOf 8 = .ok (.aload_n 0, 1) ∧ 8 + 1 = 9 := ⟨by decide +kernel, rfl⟩
theorem iX3_kindOf_9 : decode cX3_kindOf 9 = .ok (.getfield 9, 3) ∧ 9 + 3 = 12 := ⟨by decide +kernel, rfl⟩
theorem iX3_kindOf_12 : decode cX3_kindOf 12 = .ok (.iload_n 1, 1) ∧ 12 + 1 = 13 := ⟨by decide +kernel, rfl⟩
theorem iX3_kindOf_13 : decode cX3_kindOf 13 = .ok (.iaload, 1) ∧ 13 + 1 = 14 := ⟨by decide +kernel, rfl⟩
theorem iX3_kindOf_14 : decode cX3_kindOf 14 = .ok (.goto 4, 3) ∧ 14 + 3 = 17 := ⟨by decide +kernel, rfl⟩
theorem iX3_kindOf_17 : decode cX3_kindOf 17 = .ok (.iconst (-1), 1) ∧ 17 + 1 = 18 := ⟨by decide +kernel, rfl⟩
theorem iX3_kindOf_18 : decode cX3_kindOf 18 = .ok (.ireturn, 1) ∧ 18 + 1 = 19 := ⟨by decide +kernel, rfl⟩
theorem iX3_standOf_0 : decode cX3_standOf 0 = .ok (.aload_n 0, 1) ∧ 0 + 1 = 1 := ⟨by decide +kernel, rfl⟩
theorem iX3_standOf_1 : decode cX3_standOf 1 = .ok (.iload_n 1, 1) ∧ 1 + 1 = 2 := ⟨by decide +kernel, rfl⟩
theorem iX3_standOf_2 : decode cX3_standOf 2 = .ok (.invokevirtual 28, 3) ∧ 2 + 3 = 5 := ⟨by decide +kernel, rfl⟩
theorem iX3_standOf_5 : decode cX3_standOf 5 = .ok (.ifCond .eq 12, 3) ∧ 5 + 3 = 8 := ⟨by decide +kernel, rfl⟩
theorem iX3_standOf_8 : decode cX3_standOf 8 = .ok (.aload_n 0, 1) ∧ 8 + 1 = 9 := ⟨by decide +kernel, rfl⟩
theorem iX3_standOf_9 : decode cX3_standOf 9 = .ok (.getfield 15, 3) ∧ 9 + 3 = 12 := ⟨by decide +kernel, rfl⟩
theorem iX3_standOf_12 : decode cX3_standOf 12 = .ok (.iload_n 1, 1) ∧ 12 + 1 = 13 := ⟨by decide +kernel, rfl⟩
theorem iX3_standOf_13 : decode cX3_standOf 13 = .ok (.iaload, 1) ∧ 13 + 1 = 14 := ⟨by decide +kernel, rfl⟩
theorem iX3_standOf_14 : decode cX3_standOf 14 = .ok (.goto 4, 3) ∧ 14 + 3 = 17 := ⟨by decide +kernel, rfl⟩
theorem iX3_standOf_17 : decode cX3_standOf 17 = .ok (.iconst (-1), 1) ∧ 17 + 1 = 18 := ⟨by decide +kernel, rfl⟩
theorem iX3_standOf_18 : decode cX3_standOf 18 = .ok (.ireturn, 1) ∧ 18 + 1 = 19 := ⟨by decide +kernel, rfl⟩
theorem iX3_empty_0 : decode cX3_empty 0 = .ok (.aload_n 0, 1) ∧ 0 + 1 = 1 := ⟨by decide +kernel, rfl⟩
theorem iX3_empty_1 : decode cX3_empty 1 = .ok (.getfield 32, 3) ∧ 1 + 3 = 4 := ⟨by decide +kernel, rfl⟩
theorem iX3_empty_4 : decode cX3_empty 4 = .ok (.istore_n 1, 1) ∧ 4 + 1 = 5 := ⟨by decide +kernel, rfl⟩
theorem iX3_empty_5 : decode cX3_empty 5 = .ok (.iconst 0, 1) ∧ 5 + 1 = 6 := ⟨by decide +kernel, rfl⟩
theorem iX3_empty_6 : decode cX3_empty 6 = .ok (.istore_n 2, 1) ∧ 6 + 1 = 7 := ⟨by decide +kernel, rfl⟩
theorem iX3_empty_7 : decode cX3_empty 7 = .ok (.iload_n 2, 1) ∧ 7 + 1 = 8 := ⟨by decide +kernel, rfl⟩
theorem iX3_empty_8 : decode cX3_empty 8 = .ok (.aload_n 0, 1) ∧ 8 + 1 = 9 := ⟨by decide +kernel, rfl⟩
theorem iX3_empty_9 : decode cX3_empty 9 = .ok (.getfield 24, 3) ∧ 9 + 3 = 12 := ⟨by decide +kernel, rfl⟩
theorem iX3_empty_12 : decode cX3_empty 12 = .ok (.if_icmp .ge 27, 3) ∧ 12 + 3 = 15 := ⟨by decide +kernel, rfl⟩
theorem iX3_empty_15 : decode cX3_empty 15 = .ok (.iload_n 2, 1) ∧ 15 + 1 = 16 := ⟨by decide +kernel, rfl⟩
theorem iX3_empty_16 : decode cX3_empty 16 = .ok (.iconst 4, 1) ∧ 16 + 1 = 17 := ⟨by decide +kernel, rfl⟩
theorem iX3_empty_17 : decode cX3_empty 17 = .ok (.if_icmp .ge 22, 3) ∧ 17 + 3 = 20 := ⟨by decide +kernel, rfl⟩
theorem iX3_empty_20 : decode cX3_empty 20 = .ok (.iload_n 1, 1) ∧ 20 + 1 = 21 := ⟨by decide +kernel, rfl⟩
theorem iX3_empty_21 : decode cX3_empty 21 = .ok (.iconst 1, 1) ∧ 21 + 1 = 22 := ⟨by decide +kernel, rfl⟩
theorem iX3_empty_22 : decode cX3_empty 22 = .ok (.aload_n 0, 1) ∧ 22 + 1 = 23 := ⟨by decide +kernel, rfl⟩
theorem iX3_empty_23 : decode cX3_empty 23 = .ok (.getfield 15, 3) ∧ 23 + 3 = 26 := ⟨by decide +kernel, rfl⟩
theorem iX3_empty_26 : decode cX3_empty 26 = .ok (.iload_n 2, 1) ∧ 26 + 1 = 27 := ⟨by decide +kernel, rfl⟩
theorem iX3_empty_27 : decode cX3_empty 27 = .ok (.iaload, 1) ∧ 27 + 1 = 28 := ⟨by decide +kernel, rfl⟩
theorem iX3_empty_28 : decode cX3_empty 28 = .ok (.ishl, 1) ∧ 28 + 1 = 29 := ⟨by decide +kernel, rfl⟩
theorem iX3_empty_29 : decode cX3_empty 29 = .ok (.iconst (-1), 1) ∧ 29 + 1 = 30 := ⟨by decide +kernel, rfl⟩
theorem iX3_empty_30 : decode cX3_empty 30 = .ok (.ixor, 1) ∧ 30 + 1 = 31 := ⟨by decide +kernel, rfl⟩
theorem iX3_empty_31 : decode cX3_empty 31 = .ok (.iand, 1) ∧ 31 + 1 = 32 := ⟨by decide +kernel, rfl⟩
theorem iX3_empty_32 : decode cX3_empty 32 = .ok (.istore_n 1, 1) ∧ 32 + 1 = 33 := ⟨by decide +kernel, rfl⟩
theorem iX3_empty_33 : decode cX3_empty 33 = .ok (.iinc 2 1, 3) ∧ 33 + 3 = 36 := ⟨by decide +kernel, rfl⟩
theorem iX3_empty_36 : decode cX3_empty 36 = .ok (.goto (-29), 3) ∧ 36 + 3 = 39 := ⟨by decide +kernel, rfl⟩
theorem iX3_empty_39 : decode cX3_empty 39 = .ok (.iload_n 1, 1) ∧ 39 + 1 = 40 := ⟨by decide +kernel, rfl⟩
theorem iX3_empty_40 : decode cX3_empty 40 = .ok (.ireturn, 1) ∧ 40 + 1 = 41 := ⟨by decide +kernel, rfl⟩
theorem iX3_whoStands_0 : decode cX3_whoStands 0 = .ok (.iconst 0, 1) ∧ 0 + 1 = 1 := ⟨by decide +kernel, rfl⟩
theorem iX3_whoStands_1 : decode cX3_whoStands 1 = .ok (.istore_n 2, 1) ∧ 1 + 1 = 2 := ⟨by decide +kernel, rfl⟩
theorem iX3_whoStands_2 : decode cX3_whoStands 2 = .ok (.iload_n 2, 1) ∧ 2 + 1 = 3 := ⟨by decide +kernel, rfl⟩
theorem iX3_whoStands_3 : decode cX3_whoStands 3 = .ok (.aload_n 0, 1) ∧ 3 + 1 = 4 := ⟨by decide +kernel, rfl⟩
theorem iX3_whoStands_4 : decode cX3_whoStands 4 = .ok (.getfield 24, 3) ∧ 4 + 3 = 7 := ⟨by decide +kernel, rfl⟩
theorem iX3_whoStands_7 : decode cX3_whoStands 7 = .ok (.if_icmp .ge 26, 3) ∧ 7 + 3 = 10 := ⟨by decide +kernel, rfl⟩
theorem iX3_whoStands_10 : decode cX3_whoStands 10 = .ok (.iload_n 2, 1) ∧ 10 + 1 = 11 := ⟨by decide +kernel, rfl⟩
theorem iX3_whoStands_11 : decode cX3_whoStands 11 = .ok (.iconst 4, 1) ∧ 11 + 1 = 12 := ⟨by decide +kernel, rfl⟩
theorem iX3_whoStands_12 : decode cX3_whoStands 12 = .ok (.if_icmp .ge 21, 3) ∧ 12 + 3 = 15 := ⟨by decide +kernel, rfl⟩
theorem iX3_whoStands_15 : decode cX3_whoStands 15 = .ok (.aload_n 0, 1) ∧ 15 + 1 = 16 := ⟨by decide +kernel, rfl⟩
theorem iX3_whoStands_16 : decode cX3_whoStands 16 = .ok (.getfield 15, 3) ∧ 16 + 3 = 19 := ⟨by decide +kernel, rfl⟩
theorem iX3_whoStands_19 : decode cX3_whoStands 19 = .ok (.iload_n 2, 1) ∧ 19 + 1 = 20 := ⟨by decide +kernel, rfl⟩
theorem iX3_whoStands_20 : decode cX3_whoStands 20 = .ok (.iaload, 1) ∧ 20 + 1 = 21 := ⟨by decide +kernel, rfl⟩
theorem iX3_whoStands_21 : decode cX3_whoStands 21 = .ok (.iload_n 1, 1) ∧ 21 + 1 = 22 := ⟨by decide +kernel, rfl⟩
theorem iX3_whoStands_22 : decode cX3_whoStands 22 = .ok (.if_icmp .ne 5, 3) ∧ 22 + 3 = 25 := ⟨by decide +kernel, rfl⟩
theorem iX3_whoStands_25 : decode cX3_whoStands 25 = .ok (.iload_n 2, 1) ∧ 25 + 1 = 26 := ⟨by decide +kernel, rfl⟩
theorem iX3_whoStands_26 : decode cX3_whoStands 26 = .ok (.ireturn, 1) ∧ 26 + 1 = 27 := ⟨by decide +kernel, rfl⟩
theorem iX3_whoStands_27 : decode cX3_whoStands 27 = .ok (.iinc 2 1, 3) ∧ 27 + 3 = 30 := ⟨by decide +kernel, rfl⟩
theorem iX3_whoStands_30 : decode cX3_whoStands 30 = .ok (.goto (-28), 3) ∧ 30 + 3 = 33 := ⟨by decide +kernel, rfl⟩
theorem iX3_whoStands_33 : decode cX3_whoStands 33 = .ok (.iconst (-1), 1) ∧ 33 + 1 = 34 := ⟨by decide +kernel, rfl⟩
theorem iX3_whoStands_34 : decode cX3_whoStands 34 = .ok (.ireturn, 1) ∧ 34 + 1 = 35 := ⟨by decide +kernel, rfl⟩
theorem iX3_note_0 : decode cX3_note 0 = .ok (.aload_n 0, 1) ∧ 0 + 1 = 1 := ⟨by decide +kernel, rfl⟩
theorem iX3_note_1 : decode cX3_note 1 = .ok (.getfield 35, 3) ∧ 1 + 3 = 4 := ⟨by decide +kernel, rfl⟩
theorem iX3_note_4 : decode cX3_note 4 = .ok (.ifCond .lt 12, 3) ∧ 4 + 3 = 7 := ⟨by decide +kernel, rfl⟩
theorem iX3_note_7 : decode cX3_note 7 = .ok (.aload_n 0, 1) ∧ 7 + 1 = 8 := ⟨by decide +kernel, rfl⟩
theorem iX3_note_8 : decode cX3_note 8 = .ok (.getfield 35, 3) ∧ 8 + 3 = 11 := ⟨by decide +kernel, rfl⟩
theorem iX3_note_11 : decode cX3_note 11 = .ok (.bipush 6, 2) ∧ 11 + 2 = 13 := ⟨by decide +kernel, rfl⟩
theorem iX3_note_13 : decode cX3_note 13 = .ok (.if_icmp .lt 5, 3) ∧ 13 + 3 = 16 := ⟨by decide +kernel, rfl⟩
theorem iX3_note_16 : decode cX3_note 16 = .ok (.iconst 0, 1) ∧ 16 + 1 = 17 := ⟨by decide +kernel, rfl⟩
theorem iX3_note_17 : decode cX3_note 17 = .ok (.ireturn, 1) ∧ 17 + 1 = 18 := ⟨by decide +kernel, rfl⟩
theorem iX3_note_18 : decode cX3_note 18 = .ok (.aload_n 0, 1) ∧ 18 + 1 = 19 := ⟨by decide +kernel, rfl⟩
theorem iX3_note_19 : decode cX3_note 19 = .ok (.getfield 18, 3) ∧ 19 + 3 = 22 := ⟨by decide +kernel, rfl⟩
theorem iX3_note_22 : decode cX3_note 22 = .ok (.aload_n 0, 1) ∧ 22 + 1 = 23 := ⟨by decide +kernel, rfl⟩
theorem iX3_note_23 : decode cX3_note 23 = .ok (.getfield 35, 3) ∧ 23 + 3 = 26 := ⟨by decide +kernel, rfl⟩
theorem iX3_note_26 : decode cX3_note 26 = .ok (.iload_n 1, 1) ∧ 26 + 1 = 27 := ⟨by decide +kernel, rfl⟩
theorem iX3_note_27 : decode cX3_note 27 = .ok (.iastore, 1) ∧ 27 + 1 = 28 := ⟨by decide +kernel, rfl⟩
theorem iX3_note_28 : decode cX3_note 28 = .ok (.aload_n 0, 1) ∧ 28 + 1 = 29 := ⟨by decide +kernel, rfl⟩
theorem iX3_note_29 : decode cX3_note 29 = .ok (.getfield 21, 3) ∧ 29 + 3 = 32 := ⟨by decide +kernel, rfl⟩
theorem iX3_note_32 : decode cX3_note 32 = .ok (.aload_n 0, 1) ∧ 32 + 1 = 33 := ⟨by decide +kernel, rfl⟩
theorem iX3_note_33 : decode cX3_note 33 = .ok (.getfield 35, 3) ∧ 33 + 3 = 36 := ⟨by decide +kernel, rfl⟩
theorem iX3_note_36 : decode cX3_note 36 = .ok (.iload_n 2, 1) ∧ 36 + 1 = 37 := ⟨by decide +kernel, rfl⟩
theorem iX3_note_37 : decode cX3_note 37 = .ok (.iastore, 1) ∧ 37 + 1 = 38 := ⟨by decide +kernel, rfl⟩
theorem iX3_note_38 : decode cX3_note 38 = .ok (.aload_n 0, 1) ∧ 38 + 1 = 39 := ⟨by decide +kernel, rfl⟩
theorem iX3_note_39 : decode cX3_note 39 = .ok (.dup, 1) ∧ 39 + 1 = 40 := ⟨by decide +kernel, rfl⟩
theorem iX3_note_40 : decode cX3_note 40 = .ok (.getfield 35, 3) ∧ 40 + 3 = 43 := ⟨by decide +kernel, rfl⟩
theorem iX3_note_43 : decode cX3_note 43 = .ok (.iconst 1, 1) ∧ 43 + 1 = 44 := ⟨by decide +kernel, rfl⟩
theorem iX3_note_44 : decode cX3_note 44 = .ok (.iadd, 1) ∧ 44 + 1 = 45 := ⟨by decide +kernel, rfl⟩
theorem iX3_note_45 : decode cX3_note 45 = .ok (.putfield 35, 3) ∧ 45 + 3 = 48 := ⟨by decide +kernel, rfl⟩
theorem iX3_note_48 : decode cX3_note 48 = .ok (.iconst 1, 1) ∧ 48 + 1 = 49 := ⟨by decide +kernel, rfl⟩
theorem iX3_note_49 : decode cX3_note 49 = .ok (.ireturn, 1) ∧ 49 + 1 = 50 := ⟨by decide +kernel, rfl⟩
theorem iX3_sorts_0 : decode cX3_sorts 0 = .ok (.bipush 31, 2) ∧ 0 + 2 = 2 := ⟨by decide +kernel, rfl⟩
theorem iX3_sorts_2 : decode cX3_sorts 2 = .ok (.istore_n 2, 1) ∧ 2 + 1 = 3 := ⟨by decide +kernel, rfl⟩
theorem iX3_sorts_3 : decode cX3_sorts 3 = .ok (.iconst 0, 1) ∧ 3 + 1 = 4 := ⟨by decide +kernel, rfl⟩
theorem iX3_sorts_4 : decode cX3_sorts 4 = .ok (.istore_n 3, 1) ∧ 4 + 1 = 5 := ⟨by decide +kernel, rfl⟩
theorem iX3_sorts_5 : decode cX3_sorts 5 = .ok (.iload_n 3, 1) ∧ 5 + 1 = 6 := ⟨by decide +kernel, rfl⟩
theorem iX3_sorts_6 : decode cX3_sorts 6 = .ok (.aload_n 0, 1) ∧ 6 + 1 = 7 := ⟨by decide +kernel, rfl⟩
theorem iX3_sorts_7 : decode cX3_sorts 7 = .ok (.getfield 35, 3) ∧ 7 + 3 = 10 := ⟨by decide +kernel, rfl⟩
theorem iX3_sorts_10 : decode cX3_sorts 10 = .ok (.if_icmp .ge 34, 3) ∧ 10 + 3 = 13 := ⟨by decide +kernel, rfl⟩
theorem iX3_sorts_13 : decode cX3_sorts 13 = .ok (.iload_n 3, 1) ∧ 13 + 1 = 14 := ⟨by decide +kernel, rfl⟩
theorem iX3_sorts_14 : decode cX3_sorts 14 = .ok (.bipush 6, 2) ∧ 14 + 2 = 16 := ⟨by decide +kernel, rfl⟩
theorem iX3_sorts_16 : decode cX3_sorts 16 = .ok (.if_icmp .ge 28, 3) ∧ 16 + 3 = 19 := ⟨by decide +kernel, rfl⟩
theorem iX3_sorts_19 : decode cX3_sorts 19 = .ok (.aload_n 0, 1) ∧ 19 + 1 = 20 := ⟨by decide +kernel, rfl⟩
theorem iX3_sorts_20 : decode cX3_sorts 20 = .ok (.getfield 18, 3) ∧ 20 + 3 = 23 := ⟨by decide +kernel, rfl⟩
theorem iX3_sorts_23 : decode cX3_sorts 23 = .ok (.iload_n 3, 1) ∧ 23 + 1 = 24 := ⟨by decide +kernel, rfl⟩
theorem iX3_sorts_24 : decode cX3_sorts 24 = .ok (.iaload, 1) ∧ 24 + 1 = 25 := ⟨by decide +kernel, rfl⟩
theorem iX3_sorts_25 : decode cX3_sorts 25 = .ok (.iload_n 1, 1) ∧ 25 + 1 = 26 := ⟨by decide +kernel, rfl⟩
theorem iX3_sorts_26 : decode cX3_sorts 26 = .ok (.if_icmp .ne 12, 3) ∧ 26 + 3 = 29 := ⟨by decide +kernel, rfl⟩
theorem iX3_sorts_29 : decode cX3_sorts 29 = .ok (.iload_n 2, 1) ∧ 29 + 1 = 30 := ⟨by decide +kernel, rfl⟩
theorem iX3_sorts_30 : decode cX3_sorts 30 = .ok (.aload_n 0, 1) ∧ 30 + 1 = 31 := ⟨by decide +kernel, rfl⟩
theorem iX3_sorts_31 : decode cX3_sorts 31 = .ok (.getfield 21, 3) ∧ 31 + 3 = 34 := ⟨by decide +kernel, rfl⟩
theorem iX3_sorts_34 : decode cX3_sorts 34 = .ok (.iload_n 3, 1) ∧ 34 + 1 = 35 := ⟨by decide +kernel, rfl⟩
theorem iX3_sorts_35 : decode cX3_sorts 35 = .ok (.iaload, 1) ∧ 35 + 1 = 36 := ⟨by decide +kernel, rfl⟩
theorem iX3_sorts_36 : decode cX3_sorts 36 = .ok (.iand, 1) ∧ 36 + 1 = 37 := ⟨by decide +kernel, rfl⟩
theorem iX3_sorts_37 : decode cX3_sorts 37 = .ok (.istore_n 2, 1) ∧ 37 + 1 = 38 := ⟨by decide +kernel, rfl⟩
theorem iX3_sorts_38 : decode cX3_sorts 38 = .ok (.iinc 3 1, 3) ∧ 38 + 3 = 41 := ⟨by decide +kernel, rfl⟩
theorem iX3_sorts_41 : decode cX3_sorts 41 = .ok (.goto (-36), 3) ∧ 41 + 3 = 44 := ⟨by decide +kernel, rfl⟩
theorem iX3_sorts_44 : decode cX3_sorts 44 = .ok (.iload_n 2, 1) ∧ 44 + 1 = 45 := ⟨by decide +kernel, rfl⟩
theorem iX3_sorts_45 : decode cX3_sorts 45 = .ok (.ireturn, 1) ∧ 45 + 1 = 46 := ⟨by decide +kernel, rfl⟩
theorem iX3_copy_0 : decode cX3_copy 0 = .ok (.aload_n 0, 1) ∧ 0 + 1 = 1 := ⟨by decide +kernel, rfl⟩
theorem iX3_copy_1 : decode cX3_copy 1 = .ok (.aload_n 1, 1) ∧ 1 + 1 = 2 := ⟨by decide +kernel, rfl⟩
theorem iX3_copy_2 : decode cX3_copy 2 = .ok (.getfield 32, 3) ∧ 2 + 3 = 5 := ⟨by decide +kernel, rfl⟩
theorem iX3_copy_5 : decode cX3_copy 5 = .ok (.putfield 32, 3) ∧ 5 + 3 = 8 := ⟨by decide +kernel, rfl⟩
theorem iX3_copy_8 : decode cX3_copy 8 = .ok (.aload_n 0, 1) ∧ 8 + 1 = 9 := ⟨by decide +kernel, rfl⟩
theorem iX3_copy_9 : decode cX3_copy 9 = .ok (.aload_n 1, 1) ∧ 9 + 1 = 10 := ⟨by decide +kernel, rfl⟩
theorem iX3_copy_10 : decode cX3_copy 10 = .ok (.getfield 24, 3) ∧ 10 + 3 = 13 := ⟨by decide +kernel, rfl⟩
theorem iX3_copy_13 : decode cX3_copy 13 = .ok (.putfield 24, 3) ∧ 13 + 3 = 16 := ⟨by decide +kernel, rfl⟩
theorem iX3_copy_16 : decode cX3_copy 16 = .ok (.aload_n 0, 1) ∧ 16 + 1 = 17 := ⟨by decide +kernel, rfl⟩
theorem iX3_copy_17 : decode cX3_copy 17 = .ok (.aload_n 1, 1) ∧ 17 + 1 = 18 := ⟨by decide +kernel, rfl⟩
theorem iX3_copy_18 : decode cX3_copy 18 = .ok (.getfield 38, 3) ∧ 18 + 3 = 21 := ⟨by decide +kernel, rfl⟩
theorem iX3_copy_21 : decode cX3_copy 21 = .ok (.putfield 38, 3) ∧ 21 + 3 = 24 := ⟨by decide +kernel, rfl⟩
theorem iX3_copy_24 : decode cX3_copy 24 = .ok (.aload_n 0, 1) ∧ 24 + 1 = 25 := ⟨by decide +kernel, rfl⟩
theorem iX3_copy_25 : decode cX3_copy 25 = .ok (.aload_n 1, 1) ∧ 25 + 1 = 26 := ⟨by decide +kernel, rfl⟩
theorem iX3_copy_26 : decode cX3_copy 26 = .ok (.getfield 35, 3) ∧ 26 + 3 = 29 := ⟨by decide +kernel, rfl⟩
theorem iX3_copy_29 : decode cX3_copy 29 = .ok (.putfield 35, 3) ∧ 29 + 3 = 32 := ⟨by decide +kernel, rfl⟩
theorem iX3_copy_32 : decode cX3_copy 32 = .ok (.iconst 0, 1) ∧ 32 + 1 = 33 := ⟨by decide +kernel, rfl⟩
theorem iX3_copy_33 : decode cX3_copy 33 = .ok (.istore_n 2, 1) ∧ 33 + 1 = 34 := ⟨by decide +kernel, rfl⟩
theorem iX3_copy_34 : decode cX3_copy 34 = .ok (.iload_n 2, 1) ∧ 34 + 1 = 35 := ⟨by decide +kernel, rfl⟩
theorem iX3_copy_35 : decode cX3_copy 35 = .ok (.iconst 4, 1) ∧ 35 + 1 = 36 := ⟨by decide +kernel, rfl⟩
theorem iX3_copy_36 : decode cX3_copy 36 = .ok (.if_icmp .ge 33, 3) ∧ 36 + 3 = 39 := ⟨by decide +kernel, rfl⟩
theorem iX3_copy_39 : decode cX3_copy 39 = .ok (.aload_n 0, 1) ∧ 39 + 1 = 40 := ⟨by decide +kernel, rfl⟩
theorem iX3_copy_40 : decode cX3_copy 40 = .ok (.getfield 9, 3) ∧ 40 + 3 = 43 := ⟨by decide +kernel, rfl⟩
theorem iX3_copy_43 : decode cX3_copy 43 = .ok (.iload_n 2, 1) ∧ 43 + 1 = 44 := ⟨by decide +kernel, rfl⟩
theorem iX3_copy_44 : decode cX3_copy 44 = .ok (.aload_n 1, 1) ∧ 44 + 1 = 45 := ⟨by decide +kernel, rfl⟩
theorem iX3_copy_45 : decode cX3_copy 45 = .ok (.getfield 9, 3) ∧ 45 + 3 = 48 := ⟨by decide +kernel, rfl⟩
theorem iX3_copy_48 : decode cX3_copy 48 = .ok (.iload_n 2, 1) ∧ 48 + 1 = 49 := ⟨by decide +kernel, rfl⟩
theorem iX3_copy_49 : decode cX3_copy 49 = .ok (.iaload, 1) ∧ 49 + 1 = 50 := ⟨by decide +kernel, rfl⟩
theorem iX3_copy_50 : decode cX3_copy 50 = .ok (.iastore, 1) ∧ 50 + 1 = 51 := ⟨by decide +kernel, rfl⟩
theorem iX3_copy_51 : decode cX3_copy 51 = .ok (.aload_n 0, 1) ∧ 51 + 1 = 52 := ⟨by decide +kernel, rfl⟩
theorem iX3_copy_52 : decode cX3_copy 52 = .ok (.getfield 15, 3) ∧ 52 + 3 = 55 := ⟨by decide +kernel, rfl⟩
theorem iX3_copy_55 : decode cX3_copy 55 = .ok (.iload_n 2, 1) ∧ 55 + 1 = 56 := ⟨by decide +kernel, rfl⟩
theorem iX3_copy_56 : decode cX3_copy 56 = .ok (.aload_n 1, 1) ∧ 56 + 1 = 57 := ⟨by decide +kernel, rfl⟩
theorem iX3_copy_57 : decode cX3_copy 57 = .ok (.getfield 15, 3) ∧ 57 + 3 = 60 := ⟨by decide +kernel, rfl⟩
theorem iX3_copy_60 : decode cX3_copy 60 = .ok (.iload_n 2, 1) ∧ 60 + 1 = 61 := ⟨by decide +kernel, rfl⟩
theorem iX3_copy_61 : decode cX3_copy 61 = .ok (.iaload, 1) ∧ 61 + 1 = 62 := ⟨by decide +kernel, rfl⟩
theorem iX3_copy_62 : decode cX3_copy 62 = .ok (.iastore, 1) ∧ 62 + 1 = 63 := ⟨by decide +kernel, rfl⟩
theorem iX3_copy_63 : decode cX3_copy 63 = .ok (.iinc 2 1, 3) ∧ 63 + 3 = 66 := ⟨by decide +kernel, rfl⟩
theorem iX3_copy_66 : decode cX3_copy 66 = .ok (.goto (-32), 3) ∧ 66 + 3 = 69 := ⟨by decide +kernel, rfl⟩
theorem iX3_copy_69 : decode cX3_copy 69 = .ok (.iconst 0, 1) ∧ 69 + 1 = 70 := ⟨by decide +kernel, rfl⟩
theorem iX3_copy_70 : decode cX3_copy 70 = .ok (.istore_n 2, 1) ∧ 70 + 1 = 71 := ⟨by decide +kernel, rfl⟩
theorem iX3_copy_71 : decode cX3_copy 71 = .ok (.iload_n 2, 1) ∧ 71 + 1 = 72 := ⟨by decide +kernel, rfl⟩
theorem iX3_copy_72 : decode cX3_copy 72 = .ok (.bipush 6, 2) ∧ 72 + 2 = 74 := ⟨by decide +kernel, rfl⟩
theorem iX3_copy_74 : decode cX3_copy 74 = .ok (.if_icmp .ge 33, 3) ∧ 74 + 3 = 77 := ⟨by decide +kernel, rfl⟩
theorem iX3_copy_77 : decode cX3_copy 77 = .ok (.aload_n 0, 1) ∧ 77 + 1 = 78 := ⟨by decide +kernel, rfl⟩
theorem iX3_copy_78 : decode cX3_copy 78 = .ok (.getfield 18, 3) ∧ 78 + 3 = 81 := ⟨by decide +kernel, rfl⟩
theorem iX3_copy_81 : decode cX3_copy 81 = .ok (.iload_n 2, 1) ∧ 81 + 1 = 82 := ⟨by decide +kernel, rfl⟩
theorem iX3_copy_82 : decode cX3_copy 82 = .ok (.aload_n 1, 1) ∧ 82 + 1 = 83 := ⟨by decide +kernel, rfl⟩
theorem iX3_copy_83 : decode cX3_copy 83 = .ok (.getfield 18, 3) ∧ 83 + 3 = 86 := ⟨by decide +kernel, rfl⟩
theorem iX3_copy_86 : decode cX3_copy 86 = .ok (.iload_n 2, 1) ∧ 86 + 1 = 87 := ⟨by decide +kernel, rfl⟩
theorem iX3_copy_87 : decode cX3_copy 87 = .ok (.iaload, 1) ∧ 87 + 1 = 88 := ⟨by decide +kernel, rfl⟩
theorem iX3_copy_88 : decode cX3_copy 88 = .ok (.iastore, 1) ∧ 88 + 1 = 89 := ⟨by decide +kernel, rfl⟩
theorem iX3_copy_89 : decode cX3_copy 89 = .ok (.aload_n 0, 1) ∧ 89 + 1 = 90 := ⟨by decide +kernel, rfl⟩
theorem iX3_copy_90 : decode cX3_copy 90 = .ok (.getfield 21, 3) ∧ 90 + 3 = 93 := ⟨by decide +kernel, rfl⟩
theorem iX3_copy_93 : decode cX3_copy 93 = .ok (.iload_n 2, 1) ∧ 93 + 1 = 94 := ⟨by decide +kernel, rfl⟩
theorem iX3_copy_94 : decode cX3_copy 94 = .ok (.aload_n 1, 1) ∧ 94 + 1 = 95 := ⟨by decide +kernel, rfl⟩
theorem iX3_copy_95 : decode cX3_copy 95 = .ok (.getfield 21, 3) ∧ 95 + 3 = 98 := ⟨by decide +kernel, rfl⟩
theorem iX3_copy_98 : decode cX3_copy 98 = .ok (.iload_n 2, 1) ∧ 98 + 1 = 99 := ⟨by decide +kernel, rfl⟩
theorem iX3_copy_99 : decode cX3_copy 99 = .ok (.iaload, 1) ∧ 99 + 1 = 100 := ⟨by decide +kernel, rfl⟩
theorem iX3_copy_100 : decode cX3_copy 100 = .ok (.iastore, 1) ∧ 100 + 1 = 101 := ⟨by decide +kernel, rfl⟩
theorem iX3_copy_101 : decode cX3_copy 101 = .ok (.iinc 2 1, 3) ∧ 101 + 3 = 104 := ⟨by decide +kernel, rfl⟩
theorem iX3_copy_104 : decode cX3_copy 104 = .ok (.goto (-33), 3) ∧ 104 + 3 = 107 := ⟨by decide +kernel, rfl⟩
theorem iX3_copy_107 : decode cX3_copy 107 = .ok (.return_, 1) ∧ 107 + 1 = 108 := ⟨by decide +kernel, rfl⟩
theorem iX4_init_0 : decode cX4_init 0 = .ok (.aload_n 0, 1) ∧ 0 + 1 = 1 := ⟨by decide +kernel, rfl⟩
theorem iX4_init_1 : decode cX4_init 1 = .ok (.invokespecial 3, 3) ∧ 1 + 3 = 4 := ⟨by decide +kernel, rfl⟩
theorem iX4_init_4 : decode cX4_init 4 = .ok (.aload_n 0, 1) ∧ 4 + 1 = 5 := ⟨by decide +kernel, rfl⟩
theorem iX4_init_5 : decode cX4_init 5 = .ok (.sipush 4096, 3) ∧ 5 + 3 = 8 := ⟨by decide +kernel, rfl⟩
theorem iX4_init_8 : decode cX4_init 8 = .ok (.newarray .int, 2) ∧ 8 + 2 = 10 := ⟨by decide +kernel, rfl⟩
theorem iX4_init_10 : decode cX4_init 10 = .ok (.putfield 9, 3) ∧ 10 + 3 = 13 := ⟨by decide +kernel, rfl⟩
theorem iX4_init_13 : decode cX4_init 13 = .ok (.aload_n 0, 1) ∧ 13 + 1 = 14 := ⟨by decide +kernel, rfl⟩
theorem iX4_init_14 : decode cX4_init 14 = .ok (.bipush 13, 2) ∧ 14 + 2 = 16 := ⟨by decide +kernel, rfl⟩
theorem iX4_init_16 : decode cX4_init 16 = .ok (.newarray .int, 2) ∧ 16 + 2 = 18 := ⟨by decide +kernel, rfl⟩
theorem iX4_init_18 : decode cX4_init 18 = .ok (.putfield 15, 3) ∧ 18 + 3 = 21 := ⟨by decide +kernel, rfl⟩
theorem iX4_init_21 : decode cX4_init 21 = .ok (.aload_n 0, 1) ∧ 21 + 1 = 22 := ⟨by decide +kernel, rfl⟩
theorem iX4_init_22 : decode cX4_init 22 = .ok (.bipush 12, 2) ∧ 22 + 2 = 24 := ⟨by decide +kernel, rfl⟩
theorem iX4_init_24 : decode cX4_init 24 = .ok (.newarray .int, 2) ∧ 24 + 2 = 26 := ⟨by decide +kernel, rfl⟩
theorem iX4_init_26 : decode cX4_init 26 = .ok (.putfield 18, 3) ∧ 26 + 3 = 29 := ⟨by decide +kernel, rfl⟩
theorem iX4_init_29 : decode cX4_init 29 = .ok (.aload_n 0, 1) ∧ 29 + 1 = 30 := ⟨by decide +kernel, rfl⟩
theorem iX4_init_30 : decode cX4_init 30 = .ok (.bipush 12, 2) ∧ 30 + 2 = 32 := ⟨by decide +kernel, rfl⟩
theorem iX4_init_32 : decode cX4_init 32 = .ok (.newarray .int, 2) ∧ 32 + 2 = 34 := ⟨by decide +kernel, rfl⟩
theorem iX4_init_34 : decode cX4_init 34 = .ok (.putfield 21, 3) ∧ 34 + 3 = 37 := ⟨by decide +kernel, rfl⟩
theorem iX4_init_37 : decode cX4_init 37 = .ok (.aload_n 0, 1) ∧ 37 + 1 = 38 := ⟨by decide +kernel, rfl⟩
theorem iX4_init_38 : decode cX4_init 38 = .ok (.bipush 12, 2) ∧ 38 + 2 = 40 := ⟨by decide +kernel, rfl⟩
theorem iX4_init_40 : decode cX4_init 40 = .ok (.newarray .int, 2) ∧ 40 + 2 = 42 := ⟨by decide +kernel, rfl⟩
theorem iX4_init_42 : decode cX4_init 42 = .ok (.putfield 24, 3) ∧ 42 + 3 = 45 := ⟨by decide +kernel, rfl⟩
theorem iX4_init_45 : decode cX4_init 45 = .ok (.aload_n 0, 1) ∧ 45 + 1 = 46 := ⟨by decide +kernel, rfl⟩
theorem iX4_init_46 : decode cX4_init 46 = .ok (.bipush 12, 2) ∧ 46 + 2 = 48 := ⟨by decide +kernel, rfl⟩
theorem iX4_init_48 : decode cX4_init 48 = .ok (.newarray .int, 2) ∧ 48 + 2 = 50 := ⟨by decide +kernel, rfl⟩
theorem iX4_init_50 : decode cX4_init 50 = .ok (.putfield 27, 3) ∧ 50 + 3 = 53 := ⟨by decide +kernel, rfl⟩
theorem iX4_init_53 : decode cX4_init 53 = .ok (.return_, 1) ∧ 53 + 1 = 54 := ⟨by decide +kernel, rfl⟩
theorem iX4_fewest_0 : decode cX4_fewest 0 = .ok (.iconst 1, 1) ∧ 0 + 1 = 1 := ⟨by decide +kernel, rfl⟩
theorem iX4_fewest_1 : decode cX4_fewest 1 = .ok (.iload_n 1, 1) ∧ 1 + 1 = 2 := ⟨by decide +kernel, rfl⟩
theorem iX4_fewest_2 : decode cX4_fewest 2 = .ok (.ishl, 1) ∧ 2 + 1 = 3 := ⟨by decide +kernel, rfl⟩
theorem iX4_fewest_3 : decode cX4_fewest 3 = .ok (.istore 4, 2) ∧ 3 + 2 = 5 := ⟨by decide +kernel, rfl⟩
theorem iX4_fewest_5 : decode cX4_fewest 5 = .ok (.iconst 0, 1) ∧ 5 + 1 = 6 := ⟨by decide +kernel, rfl⟩
theorem iX4_fewest_6 : decode cX4_fewest 6 = .ok (.istore 5, 2) ∧ 6 + 2 = 8 := ⟨by decide +kernel, rfl⟩
theorem iX4_fewest_8 : decode cX4_fewest 8 = .ok (.iload 5, 2) ∧ 8 + 2 = 10 := ⟨by decide +kernel, rfl⟩
theorem iX4_fewest_10 : decode cX4_fewest 10 = .ok (.bipush 12, 2) ∧ 10 + 2 = 12 := ⟨by decide +kernel, rfl⟩
theorem iX4_fewest_12 : decode cX4_fewest 12 = .ok (.if_icmp .ge 34, 3) ∧ 12 + 3 = 15 := ⟨by decide +kernel, rfl⟩
theorem iX4_fewest_15 : decode cX4_fewest 15 = .ok (.iload 4, 2) ∧ 15 + 2 = 17 := ⟨by decide +kernel, rfl⟩
theorem iX4_fewest_17 : decode cX4_fewest 17 = .ok (.iload_n 2, 1) ∧ 17 + 1 = 18 := ⟨by decide +kernel, rfl⟩
theorem iX4_fewest_18 : decode cX4_fewest 18 = .ok (.invokestatic 30, 3) ∧ 18 + 3 = 21 := ⟨by decide +kernel, rfl⟩
theorem iX4_fewest_21 : decode cX4_fewest 21 = .ok (.ifCond .eq 6, 3) ∧ 21 + 3 = 24 := ⟨by decide +kernel, rfl⟩
theorem iX4_fewest_24 : decode cX4_fewest 24 = .ok (.iload 5, 2) ∧ 24 + 2 = 26 := ⟨by decide +kernel, rfl⟩
theorem iX4_fewest_26 : decode cX4_fewest 26 = .ok (.ireturn, 1) ∧ 26 + 1 = 27 := ⟨by decide +kernel, rfl⟩
theorem iX4_fewest_27 : decode cX4_fewest 27 = .ok (.iload 4, 2) ∧ 27 + 2 = 29 := ⟨by decide +kernel, rfl⟩
theorem iX4_fewest_29 : decode cX4_fewest 29 = .ok (.aload_n 0, 1) ∧ 29 + 1 = 30 := ⟨by decide +kernel, rfl⟩
theorem iX4_fewest_30 : decode cX4_fewest 30 = .ok (.iload 4, 2) ∧ 30 + 2 = 32 := ⟨by decide +kernel, rfl⟩
theorem iX4_fewest_32 : decode cX4_fewest 32 = .ok (.invokestatic 34, 3) ∧ 32 + 3 = 35 := ⟨by decide +kernel, rfl⟩
theorem iX4_fewest_35 : decode cX4_fewest 35 = .ok (.iload_n 3, 1) ∧ 35 + 1 = 36 := ⟨by decide +kernel, rfl⟩
theorem iX4_fewest_36 : decode cX4_fewest 36 = .ok (.iand, 1) ∧ 36 + 1 = 37 := ⟨by decide +kernel, rfl⟩
theorem iX4_fewest_37 : decode cX4_fewest 37 = .ok (.ior, 1) ∧ 37 + 1 = 38 := ⟨by decide +kernel, rfl⟩
theorem iX4_fewest_38 : decode cX4_fewest 38 = .ok (.istore 4, 2) ∧ 38 + 2 = 40 := ⟨by decide +kernel, rfl⟩
theorem iX4_fewest_40 : decode cX4_fewest 40 = .ok (.iinc 5 1, 3) ∧ 40 + 3 = 43 := ⟨by decide +kernel, rfl⟩
theorem iX4_fewest_43 : decode cX4_fewest 43 = .ok (.goto (-35), 3) ∧ 43 + 3 = 46 := ⟨by decide +kernel, rfl⟩
theorem iX4_fewest_46 : decode cX4_fewest 46 = .ok (.iconst (-1), 1) ∧ 46 + 1 = 47 := ⟨by decide +kernel, rfl⟩
theorem iX4_fewest_47 : decode cX4_fewest 47 = .ok (.ireturn, 1) ∧ 47 + 1 = 48 := ⟨by decide +kernel, rfl⟩
theorem iX4_longest_0 : decode cX4_longest 0 = .ok (.aload_n 0, 1) ∧ 0 + 1 = 1 := ⟨by decide +kernel, rfl⟩
theorem iX4_longest_1 : decode cX4_longest 1 = .ok (.aload_n 1, 1) ∧ 1 + 1 = 2 := ⟨by decide +kernel, rfl⟩
theorem iX4_longest_2 : decode cX4_longest 2 = .ok (.iload_n 2, 1) ∧ 2 + 1 = 3 := ⟨by decide +kernel, rfl⟩
theorem iX4_longest_3 : decode cX4_longest 3 = .ok (.iload_n 3, 1) ∧ 3 + 1 = 4 := ⟨by decide +kernel, rfl⟩
theorem iX4_longest_4 : decode cX4_longest 4 = .ok (.invokevirtual 40, 3) ∧ 4 + 3 = 7 := ⟨by decide +kernel, rfl⟩
theorem iX4_longest_7 : decode cX4_longest 7 = .ok (.iconst 1, 1) ∧ 7 + 1 = 8 := ⟨by decide +kernel, rfl⟩
theorem iX4_longest_8 : decode cX4_longest 8 = .ok (.aload_n 0, 1) ∧ 8 + 1 = 9 := ⟨by decide +kernel, rfl⟩
theorem iX4_longest_9 : decode cX4_longest 9 = .ok (.invokevirtual 44, 3) ∧ 9 + 3 = 12 := ⟨by decide +kernel, rfl⟩
theorem iX4_longest_12 : decode cX4_longest 12 = .ok (.iadd, 1) ∧ 12 + 1 = 13 := ⟨by decide +kernel, rfl⟩
theorem iX4_longest_13 : decode cX4_longest 13 = .ok (.ireturn, 1) ∧ 13 + 1 = 14 := ⟨by decide +kernel, rfl⟩
theorem iX4_firstOfLongest_0 : decode cX4_firstOfLongest 0 = .ok (.aload_n 0, 1) ∧ 0 + 1 = 1 := ⟨by decide +kernel, rfl⟩
theorem iX4_firstOfLongest_1 : decode cX4_firstOfLongest 1 = .ok (.aload_n 1, 1) ∧ 1 + 1 = 2 := ⟨by decide +kernel, rfl⟩
theorem iX4_firstOfLongest_2 : decode cX4_firstOfLongest 2 = .ok (.iload_n 2, 1) ∧ 2 + 1 = 3 := ⟨by decide +kernel, rfl⟩
theorem iX4_firstOfLongest_3 : decode cX4_firstOfLongest 3 = .ok (.iload_n 3, 1) ∧ 3 + 1 = 4 := ⟨by decide +kernel, rfl⟩
theorem iX4_firstOfLongest_4 : decode cX4_firstOfLongest 4 = .ok (.invokevirtual 40, 3) ∧ 4 + 3 = 7 := ⟨by decide +kernel, rfl⟩
theorem iX4_firstOfLongest_7 : decode cX4_firstOfLongest 7 = .ok (.aload_n 0, 1) ∧ 7 + 1 = 8 := ⟨by decide +kernel, rfl⟩
theorem iX4_firstOfLongest_8 : decode cX4_firstOfLongest 8 = .ok (.getfield 15, 3) ∧ 8 + 3 = 11 := ⟨by decide +kernel, rfl⟩
theorem iX4_firstOfLongest_11 : decode cX4_firstOfLongest 11 = .ok (.aload_n 0, 1) ∧ 11 + 1 = 12 := ⟨by decide +kernel, rfl⟩
theorem iX4_firstOfLongest_12 : decode cX4_firstOfLongest 12 = .ok (.invokevirtual 44, 3) ∧ 12 + 3 = 15 := ⟨by decide +kernel, rfl⟩
theorem iX4_firstOfLongest_15 : decode cX4_firstOfLongest 15 = .ok (.iaload, 1) ∧ 15 + 1 = 16 := ⟨by decide +kernel, rfl⟩
theorem iX4_firstOfLongest_16 : decode cX4_firstOfLongest 16 = .ok (.invokestatic 48, 3) ∧ 16 + 3 = 19 := ⟨by decide +kernel, rfl⟩
theorem iX4_firstOfLongest_19 : decode cX4_firstOfLongest 19 = .ok (.ireturn, 1) ∧ 19 + 1 = 20 := ⟨by decide +kernel, rfl⟩
theorem iX4_mostBehind_0 : decode cX4_mostBehind 0 = .ok (.bipush 12, 2) ∧ 0 + 2 = 2 := ⟨by decide +kernel, rfl⟩
theorem iX4_mostBehind_2 : decode cX4_mostBehind 2 = .ok (.istore_n 1, 1) ∧ 2 + 1 = 3 := ⟨by decide +kernel, rfl⟩
theorem iX4_mostBehind_3 : decode cX4_mostBehind 3 = .ok (.iload_n 1, 1) ∧ 3 + 1 = 4 := ⟨by decide +kernel, rfl⟩
theorem iX4_mostBehind_4 : decode cX4_mostBehind 4 = .ok (.ifCond .le 20, 3) ∧ 4 + 3 = 7 := ⟨by decide +kernel, rfl⟩
theorem iX4_mostBehind_7 : decode cX4_mostBehind 7 = .ok (.aload_n 0, 1) ∧ 7 + 1 = 8 := ⟨by decide +kernel, rfl⟩
theorem iX4_mostBehind_8 : decode cX4_mostBehind 8 = .ok (.getfield 15, 3) ∧ 8 + 3 = 11 := ⟨by decide +kernel, rfl⟩
theorem iX4_mostBehind_11 : decode cX4_mostBehind 11 = .ok (.iload_n 1, 1) ∧ 11 + 1 = 12 := ⟨by decide +kernel, rfl⟩
theorem iX4_mostBehind_12 : decode cX4_mostBehind 12 = .ok (.iaload, 1) ∧ 12 + 1 = 13 := ⟨by decide +kernel, rfl⟩
theorem iX4_mostBehind_13 : decode cX4_mostBehind 13 = .ok (.ifCond .eq 5, 3) ∧ 13 + 3 = 16 := ⟨by decide +kernel, rfl⟩
theorem iX4_mostBehind_16 : decode cX4_mostBehind 16 = .ok (.iload_n 1, 1) ∧ 16 + 1 = 17 := ⟨by decide +kernel, rfl⟩
theorem iX4_mostBehind_17 : decode cX4_mostBehind 17 = .ok (.ireturn, 1) ∧ 17 + 1 = 18 := ⟨by decide +kernel, rfl⟩
theorem iX4_mostBehind_18 : decode cX4_mostBehind 18 = .ok (.iinc 1 (-1), 3) ∧ 18 + 3 = 21 := ⟨by decide +kernel, rfl⟩
theorem iX4_mostBehind_21 : decode cX4_mostBehind 21 = .ok (.goto (-18), 3) ∧ 21 + 3 = 24 := ⟨by decide +kernel, rfl⟩
theorem iX4_mostBehind_24 : decode cX4_mostBehind 24 = .ok (.iconst 0, 1) ∧ 24 + 1 = 25 := ⟨by decide +kernel, rfl⟩
theorem iX4_mostBehind_25 : decode cX4_mostBehind 25 = .ok (.ireturn, 1) ∧ 25 + 1 = 26 := ⟨by decide +kernel, rfl⟩
theorem iX4_findFirsts_0 : decode cX4_findFirsts 0 = .ok (.iload_n 2, 1) ∧ 0 + 1 = 1 := ⟨by decide +kernel, rfl⟩
theorem iX4_findFirsts_1 : decode cX4_findFirsts 1 = .ok (.ifCond .lt 15, 3) ∧ 1 + 3 = 4 := ⟨by decide +kernel, rfl⟩
theorem iX4_findFirsts_4 : decode cX4_findFirsts 4 = .ok (.iload_n 2, 1) ∧ 4 + 1 = 5 := ⟨by decide +kernel, rfl⟩
theorem iX4_findFirsts_5 : decode cX4_findFirsts 5 = .ok (.aload_n 1, 1) ∧ 5 + 1 = 6 := ⟨by decide +kernel, rfl⟩
theorem iX4_findFirsts_6 : decode cX4_findFirsts 6 = .ok (.arraylength, 1) ∧ 6 + 1 = 7 := ⟨by decide +kernel, rfl⟩
theorem iX4_findFirsts_7 : decode cX4_findFirsts 7 = .ok (.if_icmp .ge 9, 3) ∧ 7 + 3 = 10 := ⟨by decide +kernel, rfl⟩
theorem iX4_findFirsts_10 : decode cX4_findFirsts 10 = .ok (.aload_n 1, 1) ∧ 10 + 1 = 11 := ⟨by decide +kernel, rfl⟩
theorem iX4_findFirsts_11 : decode cX4_findFirsts 11 = .ok (.iload_n 2, 1) ∧ 11 + 1 = 12 := ⟨by decide +kernel, rfl⟩
theorem iX4_findFirsts_12 : decode cX4_findFirsts 12 = .ok (.iaload, 1) ∧ 12 + 1 = 13 := ⟨by decide +kernel, rfl⟩
theorem iX4_findFirsts_13 : decode cX4_findFirsts 13 = .ok (.goto 4, 3) ∧ 13 + 3 = 16 := ⟨by decide +kernel, rfl⟩
theorem iX4_findFirsts_16 : decode cX4_findFirsts 16 = .ok (.iconst 0, 1) ∧ 16 + 1 = 17 := ⟨by decide +kernel, rfl⟩
theorem iX4_findFirsts_17 : decode cX4_findFirsts 17 = .ok (.istore 4, 2) ∧ 17 + 2 = 19 := ⟨by decide +kernel, rfl⟩
theorem iX4_findFirsts_19 : decode cX4_findFirsts 19 = .ok (.aload_n 1, 1) ∧ 19 + 1 = 20 := ⟨by decide +kernel, rfl⟩
theorem iX4_findFirsts_20 : decode cX4_findFirsts 20 = .ok (.iload_n 3, 1) ∧ 20 + 1 = 21 := ⟨by decide +kernel, rfl⟩
theorem iX4_findFirsts_21 : decode cX4_findFirsts 21 = .ok (.iconst 1, 1) ∧ 21 + 1 = 22 := ⟨by decide +kernel, rfl⟩
theorem iX4_findFirsts_22 : decode cX4_findFirsts 22 = .ok (.iload_n 2, 1) ∧ 22 + 1 = 23 := ⟨by decide +kernel, rfl⟩
theorem iX4_findFirsts_23 : decode cX4_findFirsts 23 = .ok (.ishl, 1) ∧ 23 + 1 = 24 := ⟨by decide +kernel, rfl⟩
theorem iX4_findFirsts_24 : decode cX4_findFirsts 24 = .ok (.invokestatic 52, 3) ∧ 24 + 3 = 27 := ⟨by decide +kernel, rfl⟩
theorem iX4_findFirsts_27 : decode cX4_findFirsts 27 = .ok (.iload_n 3, 1) ∧ 27 + 1 = 28 := ⟨by decide +kernel, rfl⟩
theorem iX4_findFirsts_28 : decode cX4_findFirsts 28 = .ok (.iand, 1) ∧ 28 + 1 = 29 := ⟨by decide +kernel, rfl⟩
theorem iX4_findFirsts_29 : decode cX4_findFirsts 29 = .ok (.istore 5, 2) ∧ 29 + 2 = 31 := ⟨by decide +kernel, rfl⟩
theorem iX4_findFirsts_31 : decode cX4_findFirsts 31 = .ok (.iconst 0, 1) ∧ 31 + 1 = 32 := ⟨by decide +kernel, rfl⟩
theorem iX4_findFirsts_32 : decode cX4_findFirsts 32 = .ok (.istore 6, 2) ∧ 32 + 2 = 34 := ⟨by decide +kernel, rfl⟩
theorem iX4_findFirsts_34 : decode cX4_findFirsts 34 = .ok (.iload 6, 2) ∧ 34 + 2 = 36 := ⟨by decide +kernel, rfl⟩
theorem iX4_findFirsts_36 : decode cX4_findFirsts 36 = .ok (.bipush 12, 2) ∧ 36 + 2 = 38 := ⟨by decide +kernel, rfl⟩
theorem iX4_findFirsts_38 : decode cX4_findFirsts 38 = .ok (.if_icmp .gt 17, 3) ∧ 38 + 3 = 41 := ⟨by decide +kernel, rfl⟩
theorem iX4_findFirsts_41 : decode cX4_findFirsts 41 = .ok (.aload_n 0, 1) ∧ 41 + 1 = 42 := ⟨by decide +kernel, rfl⟩
theorem iX4_findFirsts_42 : decode cX4_findFirsts 42 = .ok (.getfield 15, 3) ∧ 42 + 3 = 45 := ⟨by decide +kernel, rfl⟩
theorem iX4_findFirsts_45 : decode cX4_findFirsts 45 = .ok (.iload 6, 2) ∧ 45 + 2 = 47 := ⟨by decide +kernel, rfl⟩
theorem iX4_findFirsts_47 : decode cX4_findFirsts 47 = .ok (.iconst 0, 1) ∧ 47 + 1 = 48 := ⟨by decide +kernel, rfl⟩
theorem iX4_findFirsts_48 : decode cX4_findFirsts 48 = .ok (.iastore, 1) ∧ 48 + 1 = 49 := ⟨by decide +kernel, rfl⟩
theorem iX4_findFirsts_49 : decode cX4_findFirsts 49 = .ok (.iinc 6 1, 3) ∧ 49 + 3 = 52 := ⟨by decide +kernel, rfl⟩
theorem iX4_findFirsts_52 : decode cX4_findFirsts 52 = .ok (.goto (-18), 3) ∧ 52 + 3 = 55 := ⟨by decide +kernel, rfl⟩
theorem iX4_findFirsts_55 : decode cX4_findFirsts 55 = .ok (.iconst 0, 1) ∧ 55 + 1 = 56 := ⟨by decide +kernel, rfl⟩
theorem iX4_findFirsts_56 : decode cX4_findFirsts 56 = .ok (.istore 6, 2) ∧ 56 + 2 = 58 := ⟨by decide +kernel, rfl⟩
theorem iX4_findFirsts_58 : decode cX4_findFirsts 58 = .ok (.iconst 0, 1) ∧ 58 + 1 = 59 := ⟨by decide +kernel, rfl⟩
theorem iX4_findFirsts_59 : decode cX4_findFirsts 59 = .ok (.istore 7, 2) ∧ 59 + 2 = 61 := ⟨by decide +kernel, rfl⟩
theorem iX4_findFirsts_61 : decode cX4_findFirsts 61 = .ok (.iload 7, 2) ∧ 61 + 2 = 63 := ⟨by decide +kernel, rfl⟩
theorem iX4_findFirsts_63 : decode cX4_findFirsts 63 = .ok (.aload_n 0, 1) ∧ 63 + 1 = 64 := ⟨by decide +kernel, rfl⟩
theorem iX4_findFirsts_64 : decode cX4_findFirsts 64 = .ok (.getfield 9, 3) ∧ 64 + 3 = 67 := ⟨by decide +kernel, rfl⟩
theorem iX4_findFirsts_67 : decode cX4_findFirsts 67 = .ok (.arraylength, 1) ∧ 67 + 1 = 68 := ⟨by decide +kernel, rfl⟩
theorem iX4_findFirsts_68 : decode cX4_findFirsts 68 = .ok (.if_icmp .ge 79, 3) ∧ 68 + 3 = 71 := ⟨by decide +kernel, rfl⟩
theorem iX4_findFirsts_71 : decode cX4_findFirsts 71 = .ok (.iload 6, 2) ∧ 71 + 2 = 73 := ⟨by decide +kernel, rfl⟩
theorem iX4_findFirsts_73 : decode cX4_findFirsts 73 = .ok (.iload 5, 2) ∧ 73 + 2 = 75 := ⟨by decide +kernel, rfl⟩
theorem iX4_findFirsts_75 : decode cX4_findFirsts 75 = .ok (.isub, 1) ∧ 75 + 1 = 76 := ⟨by decide +kernel, rfl⟩
theorem iX4_findFirsts_76 : decode cX4_findFirsts 76 = .ok (.iload 5, 2) ∧ 76 + 2 = 78 := ⟨by decide +kernel, rfl⟩
theorem iX4_findFirsts_78 : decode cX4_findFirsts 78 = .ok (.iand, 1) ∧ 78 + 1 = 79 := ⟨by decide +kernel, rfl⟩
theorem iX4_findFirsts_79 : decode cX4_findFirsts 79 = .ok (.istore 6, 2) ∧ 79 + 2 = 81 := ⟨by decide +kernel, rfl⟩
theorem iX4_findFirsts_81 : decode cX4_findFirsts 81 = .ok (.iload 6, 2) ∧ 81 + 2 = 83 := ⟨by decide +kernel, rfl⟩
theorem iX4_findFirsts_83 : decode cX4_findFirsts 83 = .ok (.ifCond .le 13, 3) ∧ 83 + 3 = 86 := ⟨by decide +kernel, rfl⟩
theorem iX4_findFirsts_86 : decode cX4_findFirsts 86 = .ok (.iload 6, 2) ∧ 86 + 2 = 88 := ⟨by decide +kernel, rfl⟩
theorem iX4_findFirsts_88 : decode cX4_findFirsts 88 = .ok (.aload_n 0, 1) ∧ 88 + 1 = 89 := ⟨by decide +kernel, rfl⟩
theorem iX4_findFirsts_89 : decode cX4_findFirsts 89 = .ok (.getfield 9, 3) ∧ 89 + 3 = 92 := ⟨by decide +kernel, rfl⟩
theorem iX4_findFirsts_92 : decode cX4_findFirsts 92 = .ok (.arraylength, 1) ∧ 92 + 1 = 93 := ⟨by decide +kernel, rfl⟩
theorem iX4_findFirsts_93 : decode cX4_findFirsts 93 = .ok (.if_icmp .lt 4, 3) ∧ 93 + 3 = 96 := ⟨by decide +kernel, rfl⟩
theorem iX4_findFirsts_96 : decode cX4_findFirsts 96 = .ok (.return_, 1) ∧ 96 + 1 = 97 := ⟨by decide +kernel, rfl⟩
theorem iX4_findFirsts_97 : decode cX4_findFirsts 97 = .ok (.aload_n 0, 1) ∧ 97 + 1 = 98 := ⟨by decide +kernel, rfl⟩
theorem iX4_findFirsts_98 : decode cX4_findFirsts 98 = .ok (.aload_n 1, 1) ∧ 98 + 1 = 99 := ⟨by decide +kernel, rfl⟩
theorem iX4_findFirsts_99 : decode cX4_findFirsts 99 = .ok (.iload 6, 2) ∧ 99 + 2 = 101 := ⟨by decide +kernel, rfl⟩
theorem iX4_findFirsts_101 : decode cX4_findFirsts 101 = .ok (.invokevirtual 56, 3) ∧ 101 + 3 = 104 := ⟨by decide +kernel, rfl⟩
theorem iX4_findFirsts_104 : decode cX4_findFirsts 104 = .ok (.istore 8, 2) ∧ 104 + 2 = 106 := ⟨by decide +kernel, rfl⟩
theorem iX4_findFirsts_106 : decode cX4_findFirsts 106 = .ok (.aload_n 0, 1) ∧ 106 + 1 = 107 := ⟨by decide +kernel, rfl⟩
theorem iX4_findFirsts_107 : decode cX4_findFirsts 107 = .ok (.getfield 9, 3) ∧ 107 + 3 = 110 := ⟨by decide +kernel, rfl⟩
theorem iX4_findFirsts_110 : decode cX4_findFirsts 110 = .ok (.iload 6, 2) ∧ 110 + 2 = 112 := ⟨by decide +kernel, rfl⟩
theorem iX4_findFirsts_112 : decode cX4_findFirsts 112 = .ok (.iload 8, 2) ∧ 112 + 2 = 114 := ⟨by decide +kernel, rfl⟩
theorem iX4_findFirsts_114 : decode cX4_findFirsts 114 = .ok (.iastore, 1) ∧ 114 + 1 = 115 := ⟨by decide +kernel, rfl⟩
theorem iX4_findFirsts_115 : decode cX4_findFirsts 115 = .ok (.iload 8, 2) ∧ 115 + 2 = 117 := ⟨by decide +kernel, rfl⟩
theorem iX4_findFirsts_117 : decode cX4_findFirsts 117 = .ok (.iload 4, 2) ∧ 117 + 2 = 119 := ⟨by decide +kernel, rfl⟩
theorem iX4_findFirsts_119 : decode cX4_findFirsts 119 = .ok (.iand, 1) ∧ 119 + 1 = 120 := ⟨by decide +kernel, rfl⟩
theorem iX4_findFirsts_120 : decode cX4_findFirsts 120 = .ok (.ifCond .eq 21, 3) ∧ 120 + 3 = 123 := ⟨by decide +kernel, rfl⟩
theorem iX4_findFirsts_123 : decode cX4_findFirsts 123 = .ok (.aload_n 0, 1) ∧ 123 + 1 = 124 := ⟨by decide +kernel, rfl⟩
theorem iX4_findFirsts_124 : decode cX4_findFirsts 124 = .ok (.getfield 15, 3) ∧ 124 + 3 = 127 := ⟨by decide +kernel, rfl⟩
theorem iX4_findFirsts_127 : decode cX4_findFirsts 127 = .ok (.iload 6, 2) ∧ 127 + 2 = 129 := ⟨by decide +kernel, rfl⟩
theorem iX4_findFirsts_129 : decode cX4_findFirsts 129 = .ok (.invokestatic 59, 3) ∧ 129 + 3 = 132 := ⟨by decide +kernel, rfl⟩
theorem iX4_findFirsts_132 : decode cX4_findFirsts 132 = .ok (.dup2, 1) ∧ 132 + 1 = 133 := ⟨by decide +kernel, rfl⟩
theorem iX4_findFirsts_133 : decode cX4_findFirsts 133 = .ok (.iaload, 1) ∧ 133 + 1 = 134 := ⟨by decide +kernel, rfl⟩
theorem iX4_findFirsts_134 : decode cX4_findFirsts 134 = .ok (.iload 8, 2) ∧ 134 + 2 = 136 := ⟨by decide +kernel, rfl⟩
theorem iX4_findFirsts_136 : decode cX4_findFirsts 136 = .ok (.iload 4, 2) ∧ 136 + 2 = 138 := ⟨by decide +kernel, rfl⟩
theorem iX4_findFirsts_138 : decode cX4_findFirsts 138 = .ok (.iand, 1) ∧ 138 + 1 = 139 := ⟨by decide +kernel, rfl⟩
theorem iX4_findFirsts_139 : decode cX4_findFirsts 139 = .ok (.ior, 1) ∧ 139 + 1 = 140 := ⟨by decide +kernel, rfl⟩
theorem iX4_findFirsts_140 : decode cX4_findFirsts 140 = .ok (.iastore, 1) ∧ 140 + 1 = 141 := ⟨by decide +kernel, rfl⟩
theorem iX4_findFirsts_141 : decode cX4_findFirsts 141 = .ok (.iinc 7 1, 3) ∧ 141 + 3 = 144 := ⟨by decide +kernel, rfl⟩
theorem iX4_findFirsts_144 : decode cX4_findFirsts 144 = .ok (.goto (-83), 3) ∧ 144 + 3 = 147 := ⟨by decide +kernel, rfl⟩
theorem iX4_findFirsts_147 : decode cX4_findFirsts 147 = .ok (.return_, 1) ∧ 147 + 1 = 148 := ⟨by decide +kernel, rfl⟩
theorem iX4_startsOf_0 : decode cX4_startsOf 0 = .ok (.iconst 0, 1) ∧ 0 + 1 = 1 := ⟨by decide +kernel, rfl⟩
theorem iX4_startsOf_1 : decode cX4_startsOf 1 = .ok (.istore_n 3, 1) ∧ 1 + 1 = 2 := ⟨by decide +kernel, rfl⟩
theorem iX4_startsOf_2 : decode cX4_startsOf 2 = .ok (.iconst 0, 1) ∧ 2 + 1 = 3 := ⟨by decide +kernel, rfl⟩
theorem iX4_startsOf_3 : decode cX4_startsOf 3 = .ok (.istore 4, 2) ∧ 3 + 2 = 5 := ⟨by decide +kernel, rfl⟩
theorem iX4_startsOf_5 : decode cX4_startsOf 5 = .ok (.iload 4, 2) ∧ 5 + 2 = 7 := ⟨by decide +kernel, rfl⟩
theorem iX4_startsOf_7 : decode cX4_startsOf 7 = .ok (.aload_n 1, 1) ∧ 7 + 1 = 8 := ⟨by decide +kernel, rfl⟩
theorem iX4_startsOf_8 : decode cX4_startsOf 8 = .ok (.arraylength, 1) ∧ 8 + 1 = 9 := ⟨by decide +kernel, rfl⟩
theorem iX4_startsOf_9 : decode cX4_startsOf 9 = .ok (.if_icmp .ge 70, 3) ∧ 9 + 3 = 12 := ⟨by decide +kernel, rfl⟩
theorem iX4_startsOf_12 : decode cX4_startsOf 12 = .ok (.iload_n 2, 1) ∧ 12 + 1 = 13 := ⟨by decide +kernel, rfl⟩
theorem iX4_startsOf_13 : decode cX4_startsOf 13 = .ok (.iload 4, 2) ∧ 13 + 2 = 15 := ⟨by decide +kernel, rfl⟩
theorem iX4_startsOf_15 : decode cX4_startsOf 15 = .ok (.invokestatic 30, 3) ∧ 15 + 3 = 18 := ⟨by decide +kernel, rfl⟩
theorem iX4_startsOf_18 : decode cX4_startsOf 18 = .ok (.ifCond .eq 55, 3) ∧ 18 + 3 = 21 := ⟨by decide +kernel, rfl⟩
theorem iX4_startsOf_21 : decode cX4_startsOf 21 = .ok (.iload_n 2, 1) ∧ 21 + 1 = 22 := ⟨by decide +kernel, rfl⟩
theorem iX4_startsOf_22 : decode cX4_startsOf 22 = .ok (.iconst 1, 1) ∧ 22 + 1 = 23 := ⟨by decide +kernel, rfl⟩
theorem iX4_startsOf_23 : decode cX4_startsOf 23 = .ok (.iload 4, 2) ∧ 23 + 2 = 25 := ⟨by decide +kernel, rfl⟩
theorem iX4_startsOf_25 : decode cX4_startsOf 25 = .ok (.ishl, 1) ∧ 25 + 1 = 26 := ⟨by decide +kernel, rfl⟩
theorem iX4_startsOf_26 : decode cX4_startsOf 26 = .ok (.iconst (-1), 1) ∧ 26 + 1 = 27 := ⟨by decide +kernel, rfl⟩
theorem iX4_startsOf_27 : decode cX4_startsOf 27 = .ok (.ixor, 1) ∧ 27 + 1 = 28 := ⟨by decide +kernel, rfl⟩
theorem iX4_startsOf_28 : decode cX4_startsOf 28 = .ok (.iand, 1) ∧ 28 + 1 = 29 := ⟨by decide +kernel, rfl⟩
theorem iX4_startsOf_29 : decode cX4_startsOf 29 = .ok (.istore 5, 2) ∧ 29 + 2 = 31 := ⟨by decide +kernel, rfl⟩
theorem iX4_startsOf_31 : decode cX4_startsOf 31 = .ok (.iload 5, 2) ∧ 31 + 2 = 33 := ⟨by decide +kernel, rfl⟩
theorem iX4_startsOf_33 : decode cX4_startsOf 33 = .ok (.ifCond .eq 33, 3) ∧ 33 + 3 = 36 := ⟨by decide +kernel, rfl⟩
theorem iX4_startsOf_36 : decode cX4_startsOf 36 = .ok (.iload 5, 2) ∧ 36 + 2 = 38 := ⟨by decide +kernel, rfl⟩
theorem iX4_startsOf_38 : decode cX4_startsOf 38 = .ok (.ifCond .le 35, 3) ∧ 38 + 3 = 41 := ⟨by decide +kernel, rfl⟩
theorem iX4_startsOf_41 : decode cX4_startsOf 41 = .ok (.iload 5, 2) ∧ 41 + 2 = 43 := ⟨by decide +kernel, rfl⟩
theorem iX4_startsOf_43 : decode cX4_startsOf 43 = .ok (.aload_n 0, 1) ∧ 43 + 1 = 44 := ⟨by decide +kernel, rfl⟩
theorem iX4_startsOf_44 : decode cX4_startsOf 44 = .ok (.getfield 9, 3) ∧ 44 + 3 = 47 := ⟨by decide +kernel, rfl⟩
theorem iX4_startsOf_47 : decode cX4_startsOf 47 = .ok (.arraylength, 1) ∧ 47 + 1 = 48 := ⟨by decide +kernel, rfl⟩
theorem iX4_startsOf_48 : decode cX4_startsOf 48 = .ok (.if_icmp .ge 25, 3) ∧ 48 + 3 = 51 := ⟨by decide +kernel, rfl⟩
theorem iX4_startsOf_51 : decode cX4_startsOf 51 = .ok (.aload_n 0, 1) ∧ 51 + 1 = 52 := ⟨by decide +kernel, rfl⟩
theorem iX4_startsOf_52 : decode cX4_startsOf 52 = .ok (.getfield 9, 3) ∧ 52 + 3 = 55 := ⟨by decide +kernel, rfl⟩
theorem iX4_startsOf_55 : decode cX4_startsOf 55 = .ok (.iload 5, 2) ∧ 55 + 2 = 57 := ⟨by decide +kernel, rfl⟩
theorem iX4_startsOf_57 : decode cX4_startsOf 57 = .ok (.iaload, 1) ∧ 57 + 1 = 58 := ⟨by decide +kernel, rfl⟩
theorem iX4_startsOf_58 : decode cX4_startsOf 58 = .ok (.aload_n 1, 1) ∧ 58 + 1 = 59 := ⟨by decide +kernel, rfl⟩
theorem iX4_startsOf_59 : decode cX4_startsOf 59 = .ok (.iload 4, 2) ∧ 59 + 2 = 61 := ⟨by decide +kernel, rfl⟩
theorem iX4_startsOf_61 : decode cX4_startsOf 61 = .ok (.iaload, 1) ∧ 61 + 1 = 62 := ⟨by decide +kernel, rfl⟩
theorem iX4_startsOf_62 : decode cX4_startsOf 62 = .ok (.iand, 1) ∧ 62 + 1 = 63 := ⟨by decide +kernel, rfl⟩
theorem iX4_startsOf_63 : decode cX4_startsOf 63 = .ok (.ifCond .eq 10, 3) ∧ 63 + 3 = 66 := ⟨by decide +kernel, rfl⟩
theorem iX4_startsOf_66 : decode cX4_startsOf 66 = .ok (.iload_n 3, 1) ∧ 66 + 1 = 67 := ⟨by decide +kernel, rfl⟩
theorem iX4_startsOf_67 : decode cX4_startsOf 67 = .ok (.iconst 1, 1) ∧ 67 + 1 = 68 := ⟨by decide +kernel, rfl⟩
theorem iX4_startsOf_68 : decode cX4_startsOf 68 = .ok (.iload 4, 2) ∧ 68 + 2 = 70 := ⟨by decide +kernel, rfl⟩
theorem iX4_startsOf_70 : decode cX4_startsOf 70 = .ok (.ishl, 1) ∧ 70 + 1 = 71 := ⟨by decide +kernel, rfl⟩
theorem iX4_startsOf_71 : decode cX4_startsOf 71 = .ok (.ior, 1) ∧ 71 + 1 = 72 := ⟨by decide +kernel, rfl⟩
theorem iX4_startsOf_72 : decode cX4_startsOf 72 = .ok (.istore_n 3, 1) ∧ 72 + 1 = 73 := ⟨by decide +kernel, rfl⟩
theorem iX4_startsOf_73 : decode cX4_startsOf 73 = .ok (.iinc 4 1, 3) ∧ 73 + 3 = 76 := ⟨by decide +kernel, rfl⟩
theorem iX4_startsOf_76 : decode cX4_startsOf 76 = .ok (.goto (-71), 3) ∧ 76 + 3 = 79 := ⟨by decide +kernel, rfl⟩
theorem iX4_startsOf_79 : decode cX4_startsOf 79 = .ok (.iload_n 3, 1) ∧ 79 + 1 = 80 := ⟨by decide +kernel, rfl⟩
theorem iX4_startsOf_80 : decode cX4_startsOf 80 = .ok (.ireturn, 1) ∧ 80 + 1 = 81 := ⟨by decide +kernel, rfl⟩
theorem iX4_fewestToTrade_0 : decode cX4_fewestToTrade 0 = .ok (.iload_n 3, 1) ∧ 0 + 1 = 1 := ⟨by decide +kernel, rfl⟩
theorem iX4_fewestToTrade_1 : decode cX4_fewestToTrade 1 = .ok (.ifCond .lt 21, 3) ∧ 1 + 3 = 4 := ⟨by decide +kernel, rfl⟩
theorem iX4_fewestToTrade_4 : decode cX4_fewestToTrade 4 = .ok (.iload_n 3, 1) ∧ 4 + 1 = 5 := ⟨by decide +kernel, rfl⟩
theorem iX4_fewestToTrade_5 : decode cX4_fewestToTrade 5 = .ok (.bipush 12, 2) ∧ 5 + 2 = 7 := ⟨by decide +kernel, rfl⟩
theorem iX4_fewestToTrade_7 : decode cX4_fewestToTrade 7 = .ok (.if_icmp .ge 15, 3) ∧ 7 + 3 = 10 := ⟨by decide +kernel, rfl⟩
theorem iX4_fewestToTrade_10 : decode cX4_fewestToTrade 10 = .ok (.iload 4, 2) ∧ 10 + 2 = 12 := ⟨by decide +kernel, rfl⟩
theorem iX4_fewestToTrade_12 : decode cX4_fewestToTrade 12 = .ok (.ifCond .lt 10, 3) ∧ 12 + 3 = 15 := ⟨by decide +kernel, rfl⟩
theorem iX4_fewestToTrade_15 : decode cX4_fewestToTrade 15 = .ok (.iload 4, 2) ∧ 15 + 2 = 17 := ⟨by decide +kernel, rfl⟩
theorem iX4_fewestToTrade_17 : decode cX4_fewestToTrade 17 = .ok (.bipush 12, 2) ∧ 17 + 2 = 19 := ⟨by decide +kernel, rfl⟩
theorem iX4_fewestToTrade_19 : decode cX4_fewestToTrade 19 = .ok (.if_icmp .lt 5, 3) ∧ 19 + 3 = 22 := ⟨by decide +kernel, rfl⟩
theorem iX4_fewestToTrade_22 : decode cX4_fewestToTrade 22 = .ok (.iconst (-1), 1) ∧ 22 + 1 = 23 := ⟨by decide +kernel, rfl⟩
theorem iX4_fewestToTrade_23 : decode cX4_fewestToTrade 23 = .ok (.ireturn, 1) ∧ 23 + 1 = 24 := ⟨by decide +kernel, rfl⟩
theorem iX4_fewestToTrade_24 : decode cX4_fewestToTrade 24 = .ok (.iconst 0, 1) ∧ 24 + 1 = 25 := ⟨by decide +kernel, rfl⟩
theorem iX4_fewestToTrade_25 : decode cX4_fewestToTrade 25 = .ok (.istore 6, 2) ∧ 25 + 2 = 27 := ⟨by decide +kernel, rfl⟩
theorem iX4_fewestToTrade_27 : decode cX4_fewestToTrade 27 = .ok (.iload 6, 2) ∧ 27 + 2 = 29 := ⟨by decide +kernel, rfl⟩
theorem iX4_fewestToTrade_29 : decode cX4_fewestToTrade 29 = .ok (.bipush 12, 2) ∧ 29 + 2 = 31 := ⟨by decide +kernel, rfl⟩
theorem iX4_fewestToTrade_31 : decode cX4_fewestToTrade 31 = .ok (.if_icmp .ge 17, 3) ∧ 31 + 3 = 34 := ⟨by decide +kernel, rfl⟩
theorem iX4_fewestToTrade_34 : decode cX4_fewestToTrade 34 = .ok (.aload_n 0, 1) ∧ 34 + 1 = 35 := ⟨by decide +kernel, rfl⟩
theorem iX4_fewestToTrade_35 : decode cX4_fewestToTrade 35 = .ok (.getfield 18, 3) ∧ 35 + 3 = 38 := ⟨by decide +kernel, rfl⟩
theorem iX4_fewestToTrade_38 : decode cX4_fewestToTrade 38 = .ok (.iload 6, 2) ∧ 38 + 2 = 40 := ⟨by decide +kernel, rfl⟩
theorem iX4_fewestToTrade_40 : decode cX4_fewestToTrade 40 = .ok (.iconst 0, 1) ∧ 40 + 1 = 41 := ⟨by decide +kernel, rfl⟩
theorem iX4_fewestToTrade_41 : decode cX4_fewestToTrade 41 = .ok (.iastore, 1) ∧ 41 + 1 = 42 := ⟨by decide +kernel, rfl⟩
theorem iX4_fewestToTrade_42 : decode cX4_fewestToTrade 42 = .ok (.iinc 6 1, 3) ∧ 42 + 3 = 45 := ⟨by decide +kernel, rfl⟩
theorem iX4_fewestToTrade_45 : decode cX4_fewestToTrade 45 = .ok (.goto (-18), 3) ∧ 45 + 3 = 48 := ⟨by decide +kernel, rfl⟩
theorem iX4_fewestToTrade_48 : decode cX4_fewestToTrade 48 = .ok (.aload_n 0, 1) ∧ 48 + 1 = 49 := ⟨by decide +kernel, rfl⟩
theorem iX4_fewestToTrade_49 : decode cX4_fewestToTrade 49 = .ok (.getfield 18, 3) ∧ 49 + 3 = 52 := ⟨by decide +kernel, rfl⟩
theorem iX4_fewestToTrade_52 : decode cX4_fewestToTrade 52 = .ok (.iload_n 3, 1) ∧ 52 + 1 = 53 := ⟨by decide +kernel, rfl⟩
theorem iX4_fewestToTrade_53 : decode cX4_fewestToTrade 53 = .ok (.iconst 1, 1) ∧ 53 + 1 = 54 := ⟨by decide +kernel, rfl⟩
theorem iX4_fewestToTrade_54 : decode cX4_fewestToTrade 54 = .ok (.iload 4, 2) ∧ 54 + 2 = 56 := ⟨by decide +kernel, rfl⟩
theorem iX4_fewestToTrade_56 : decode cX4_fewestToTrade 56 = .ok (.ishl, 1) ∧ 56 + 1 = 57 := ⟨by decide +kernel, rfl⟩
theorem iX4_fewestToTrade_57 : decode cX4_fewestToTrade 57 = .ok (.iastore, 1) ∧ 57 + 1 = 58 := ⟨by decide +kernel, rfl⟩
theorem iX4_fewestToTrade_58 : decode cX4_fewestToTrade 58 = .ok (.iconst 0, 1) ∧ 58 + 1 = 59 := ⟨by decide +kernel, rfl⟩
theorem iX4_fewestToTrade_59 : decode cX4_fewestToTrade 59 = .ok (.istore 6, 2) ∧ 59 + 2 = 61 := ⟨by decide +kernel, rfl⟩
theorem iX4_fewestToTrade_61 : decode cX4_fewestToTrade 61 = .ok (.iload 6, 2) ∧ 61 + 2 = 63 := ⟨by decide +kernel, rfl⟩
theorem iX4_fewestToTrade_63 : decode cX4_fewestToTrade 63 = .ok (.sipush 144, 3) ∧ 63 + 3 = 66 := ⟨by decide +kernel, rfl⟩
theorem iX4_fewestToTrade_66 : decode cX4_fewestToTrade 66 = .ok (.if_icmp .ge 39, 3) ∧ 66 + 3 = 69 := ⟨by decide +kernel, rfl⟩
theorem iX4_fewestToTrade_69 : decode cX4_fewestToTrade 69 = .ok (.aload_n 0, 1) ∧ 69 + 1 = 70 := ⟨by decide +kernel, rfl⟩
theorem iX4_fewestToTrade_70 : decode cX4_fewestToTrade 70 = .ok (.getfield 18, 3) ∧ 70 + 3 = 73 := ⟨by decide +kernel, rfl⟩
theorem iX4_fewestToTrade_73 : decode cX4_fewestToTrade 73 = .ok (.iload 4, 2) ∧ 73 + 2 = 75 := ⟨by decide +kernel, rfl⟩
theorem iX4_fewestToTrade_75 : decode cX4_fewestToTrade 75 = .ok (.iaload, 1) ∧ 75 + 1 = 76 := ⟨by decide +kernel, rfl⟩
theorem iX4_fewestToTrade_76 : decode cX4_fewestToTrade 76 = .ok (.iload_n 3, 1) ∧ 76 + 1 = 77 := ⟨by decide +kernel, rfl⟩
theorem iX4_fewestToTrade_77 : decode cX4_fewestToTrade 77 = .ok (.invokestatic 30, 3) ∧ 77 + 3 = 80 := ⟨by decide +kernel, rfl⟩
theorem iX4_fewestToTrade_80 : decode cX4_fewestToTrade 80 = .ok (.ifCond .eq 6, 3) ∧ 80 + 3 = 83 := ⟨by decide +kernel, rfl⟩
theorem iX4_fewestToTrade_83 : decode cX4_fewestToTrade 83 = .ok (.iload 6, 2) ∧ 83 + 2 = 85 := ⟨by decide +kernel, rfl⟩
theorem iX4_fewestToTrade_85 : decode cX4_fewestToTrade 85 = .ok (.ireturn, 1) ∧ 85 + 1 = 86 := ⟨by decide +kernel, rfl⟩
theorem iX4_fewestToTrade_86 : decode cX4_fewestToTrade 86 = .ok (.aload_n 0, 1) ∧ 86 + 1 = 87 := ⟨by decide +kernel, rfl⟩
theorem iX4_fewestToTrade_87 : decode cX4_fewestToTrade 87 = .ok (.aload_n 1, 1) ∧ 87 + 1 = 88 := ⟨by decide +kernel, rfl⟩
theorem iX4_fewestToTrade_88 : decode cX4_fewestToTrade 88 = .ok (.aload_n 2, 1) ∧ 88 + 1 = 89 := ⟨by decide +kernel, rfl⟩
theorem iX4_fewestToTrade_89 : decode cX4_fewestToTrade 89 = .ok (.iload 5, 2) ∧ 89 + 2 = 91 := ⟨by decide +kernel, rfl⟩
theorem iX4_fewestToTrade_91 : decode cX4_fewestToTrade 91 = .ok (.invokevirtual 64, 3) ∧ 91 + 3 = 94 := ⟨by decide +kernel, rfl⟩
theorem iX4_fewestToTrade_94 : decode cX4_fewestToTrade 94 = .ok (.ifCond .ne 5, 3) ∧ 94 + 3 = 97 := ⟨by decide +kernel, rfl⟩
theorem iX4_fewestToTrade_97 : decode cX4_fewestToTrade 97 = .ok (.iconst (-1), 1) ∧ 97 + 1 = 98 := ⟨by decide +kernel, rfl⟩
theorem iX4_fewestToTrade_98 : decode cX4_fewestToTrade 98 = .ok (.ireturn, 1) ∧ 98 + 1 = 99 := ⟨by decide +kernel, rfl⟩
theorem iX4_fewestToTrade_99 : decode cX4_fewestToTrade 99 = .ok (.iinc 6 1, 3) ∧ 99 + 3 = 102 := ⟨by decide +kernel, rfl⟩
theorem iX4_fewestToTrade_102 : decode cX4_fewestToTrade 102 = .ok (.goto (-41), 3) ∧ 102 + 3 = 105 := ⟨by decide +kernel, rfl⟩
theorem iX4_fewestToTrade_105 : decode cX4_fewestToTrade 105 = .ok (.iconst (-1), 1) ∧ 105 + 1 = 106 := ⟨by decide +kernel, rfl⟩
theorem iX4_fewestToTrade_106 : decode cX4_fewestToTrade 106 = .ok (.ireturn, 1) ∧ 106 + 1 = 107 := ⟨by decide +kernel, rfl⟩
theorem iX4_spreadPairs_0 : decode cX4_spreadPairs 0 = .ok (.iconst 0, 1) ∧ 0 + 1 = 1 := ⟨by decide +kernel, rfl⟩
theorem iX4_spreadPairs_1 : decode cX4_spreadPairs 1 = .ok (.istore 4, 2) ∧ 1 + 2 = 3 := ⟨by decide +kernel, rfl⟩
theorem iX4_spreadPairs_3 : decode cX4_spreadPairs 3 = .ok (.iconst 0, 1) ∧ 3 + 1 = 4 := ⟨by decide +kernel, rfl⟩
theorem iX4_spreadPairs_4 : decode cX4_spreadPairs 4 = .ok (.istore 5, 2) ∧ 4 + 2 = 6 := ⟨by decide +kernel, rfl⟩
theorem iX4_spreadPairs_6 : decode cX4_spreadPairs 6 = .ok (.iload 5, 2) ∧ 6 + 2 = 8 := ⟨by decide +kernel, rfl⟩
theorem iX4_spreadPairs_8 : decode cX4_spreadPairs 8 = .ok (.bipush 12, 2) ∧ 8 + 2 = 10 := ⟨by decide +kernel, rfl⟩
theorem iX4_spreadPairs_10 : decode cX4_spreadPairs 10 = .ok (.if_icmp .ge 112, 3) ∧ 10 + 3 = 13 := ⟨by decide +kernel, rfl⟩
theorem iX4_spreadPairs_13 : decode cX4_spreadPairs 13 = .ok (.aload_n 0, 1) ∧ 13 + 1 = 14 := ⟨by decide +kernel, rfl⟩
theorem iX4_spreadPairs_14 : decode cX4_spreadPairs 14 = .ok (.getfield 21, 3) ∧ 14 + 3 = 17 := ⟨by decide +kernel, rfl⟩
theorem iX4_spreadPairs_17 : decode cX4_spreadPairs 17 = .ok (.iload 5, 2) ∧ 17 + 2 = 19 := ⟨by decide +kernel, rfl⟩
theorem iX4_spreadPairs_19 : decode cX4_spreadPairs 19 = .ok (.iconst 0, 1) ∧ 19 + 1 = 20 := ⟨by decide +kernel, rfl⟩
theorem iX4_spreadPairs_20 : decode cX4_spreadPairs 20 = .ok (.iastore, 1) ∧ 20 + 1 = 21 := ⟨by decide +kernel, rfl⟩
theorem iX4_spreadPairs_21 : decode cX4_spreadPairs 21 = .ok (.iload_n 3, 1) ∧ 21 + 1 = 22 := ⟨by decide +kernel, rfl⟩
theorem iX4_spreadPairs_22 : decode cX4_spreadPairs 22 = .ok (.iload 5, 2) ∧ 22 + 2 = 24 := ⟨by decide +kernel, rfl⟩
theorem iX4_spreadPairs_24 : decode cX4_spreadPairs 24 = .ok (.invokestatic 30, 3) ∧ 24 + 3 = 27 := ⟨by decide +kernel, rfl⟩
theorem iX4_spreadPairs_27 : decode cX4_spreadPairs 27 = .ok (.ifCond .eq 89, 3) ∧ 27 + 3 = 30 := ⟨by decide +kernel, rfl⟩
theorem iX4_spreadPairs_30 : decode cX4_spreadPairs 30 = .ok (.iload 5, 2) ∧ 30 + 2 = 32 := ⟨by decide +kernel, rfl⟩
theorem iX4_spreadPairs_32 : decode cX4_spreadPairs 32 = .ok (.aload_n 1, 1) ∧ 32 + 1 = 33 := ⟨by decide +kernel, rfl⟩
theorem iX4_spreadPairs_33 : decode cX4_spreadPairs 33 = .ok (.arraylength, 1) ∧ 33 + 1 = 34 := ⟨by decide +kernel, rfl⟩
theorem iX4_spreadPairs_34 : decode cX4_spreadPairs 34 = .ok (.if_icmp .ge 82, 3) ∧ 34 + 3 = 37 := ⟨by decide +kernel, rfl⟩
theorem iX4_spreadPairs_37 : decode cX4_spreadPairs 37 = .ok (.aload_n 0, 1) ∧ 37 + 1 = 38 := ⟨by decide +kernel, rfl⟩
theorem iX4_spreadPairs_38 : decode cX4_spreadPairs 38 = .ok (.getfield 18, 3) ∧ 38 + 3 = 41 := ⟨by decide +kernel, rfl⟩
theorem iX4_spreadPairs_41 : decode cX4_spreadPairs 41 = .ok (.iload 5, 2) ∧ 41 + 2 = 43 := ⟨by decide +kernel, rfl⟩
theorem iX4_spreadPairs_43 : decode cX4_spreadPairs 43 = .ok (.iaload, 1) ∧ 43 + 1 = 44 := ⟨by decide +kernel, rfl⟩
theorem iX4_spreadPairs_44 : decode cX4_spreadPairs 44 = .ok (.aload_n 2, 1) ∧ 44 + 1 = 45 := ⟨by decide +kernel, rfl⟩
theorem iX4_spreadPairs_45 : decode cX4_spreadPairs 45 = .ok (.aload_n 0, 1) ∧ 45 + 1 = 46 := ⟨by decide +kernel, rfl⟩
theorem iX4_spreadPairs_46 : decode cX4_spreadPairs 46 = .ok (.getfield 18, 3) ∧ 46 + 3 = 49 := ⟨by decide +kernel, rfl⟩
theorem iX4_spreadPairs_49 : decode cX4_spreadPairs 49 = .ok (.iload 5, 2) ∧ 49 + 2 = 51 := ⟨by decide +kernel, rfl⟩
theorem iX4_spreadPairs_51 : decode cX4_spreadPairs 51 = .ok (.iaload, 1) ∧ 51 + 1 = 52 := ⟨by decide +kernel, rfl⟩
theorem iX4_spreadPairs_52 : decode cX4_spreadPairs 52 = .ok (.invokestatic 34, 3) ∧ 52 + 3 = 55 := ⟨by decide +kernel, rfl⟩
theorem iX4_spreadPairs_55 : decode cX4_spreadPairs 55 = .ok (.ior, 1) ∧ 55 + 1 = 56 := ⟨by decide +kernel, rfl⟩
theorem iX4_spreadPairs_56 : decode cX4_spreadPairs 56 = .ok (.istore 6, 2) ∧ 56 + 2 = 58 := ⟨by decide +kernel, rfl⟩
theorem iX4_spreadPairs_58 : decode cX4_spreadPairs 58 = .ok (.iconst 0, 1) ∧ 58 + 1 = 59 := ⟨by decide +kernel, rfl⟩
theorem iX4_spreadPairs_59 : decode cX4_spreadPairs 59 = .ok (.istore 7, 2) ∧ 59 + 2 = 61 := ⟨by decide +kernel, rfl⟩
theorem iX4_spreadPairs_61 : decode cX4_spreadPairs 61 = .ok (.iload 7, 2) ∧ 61 + 2 = 63 := ⟨by decide +kernel, rfl⟩
theorem iX4_spreadPairs_63 : decode cX4_spreadPairs 63 = .ok (.bipush 12, 2) ∧ 63 + 2 = 65 := ⟨by decide +kernel, rfl⟩
theorem iX4_spreadPairs_65 : decode cX4_spreadPairs 65 = .ok (.if_icmp .ge 33, 3) ∧ 65 + 3 = 68 := ⟨by decide +kernel, rfl⟩
theorem iX4_spreadPairs_68 : decode cX4_spreadPairs 68 = .ok (.aload_n 1, 1) ∧ 68 + 1 = 69 := ⟨by decide +kernel, rfl⟩
theorem iX4_spreadPairs_69 : decode cX4_spreadPairs 69 = .ok (.iload 5, 2) ∧ 69 + 2 = 71 := ⟨by decide +kernel, rfl⟩
theorem iX4_spreadPairs_71 : decode cX4_spreadPairs 71 = .ok (.iaload, 1) ∧ 71 + 1 = 72 := ⟨by decide +kernel, rfl⟩
theorem iX4_spreadPairs_72 : decode cX4_spreadPairs 72 = .ok (.iload 7, 2) ∧ 72 + 2 = 74 := ⟨by decide +kernel, rfl⟩
theorem iX4_spreadPairs_74 : decode cX4_spreadPairs 74 = .ok (.invokestatic 30, 3) ∧ 74 + 3 = 77 := ⟨by decide +kernel, rfl⟩
theorem iX4_spreadPairs_77 : decode cX4_spreadPairs 77 = .ok (.ifCond .eq 15, 3) ∧ 77 + 3 = 80 := ⟨by decide +kernel, rfl⟩
theorem iX4_spreadPairs_80 : decode cX4_spreadPairs 80 = .ok (.iload 6, 2) ∧ 80 + 2 = 82 := ⟨by decide +kernel, rfl⟩
theorem iX4_spreadPairs_82 : decode cX4_spreadPairs 82 = .ok (.aload_n 0, 1) ∧ 82 + 1 = 83 := ⟨by decide +kernel, rfl⟩
theorem iX4_spreadPairs_83 : decode cX4_spreadPairs 83 = .ok (.getfield 18, 3) ∧ 83 + 3 = 86 := ⟨by decide +kernel, rfl⟩
theorem iX4_spreadPairs_86 : decode cX4_spreadPairs 86 = .ok (.iload 7, 2) ∧ 86 + 2 = 88 := ⟨by decide +kernel, rfl⟩
theorem iX4_spreadPairs_88 : decode cX4_spreadPairs 88 = .ok (.iaload, 1) ∧ 88 + 1 = 89 := ⟨by decide +kernel, rfl⟩
theorem iX4_spreadPairs_89 : decode cX4_spreadPairs 89 = .ok (.ior, 1) ∧ 89 + 1 = 90 := ⟨by decide +kernel, rfl⟩
theorem iX4_spreadPairs_90 : decode cX4_spreadPairs 90 = .ok (.istore 6, 2) ∧ 90 + 2 = 92 := ⟨by decide +kernel, rfl⟩
theorem iX4_spreadPairs_92 : decode cX4_spreadPairs 92 = .ok (.iinc 7 1, 3) ∧ 92 + 3 = 95 := ⟨by decide +kernel, rfl⟩
theorem iX4_spreadPairs_95 : decode cX4_spreadPairs 95 = .ok (.goto (-34), 3) ∧ 95 + 3 = 98 := ⟨by decide +kernel, rfl⟩
theorem iX4_spreadPairs_98 : decode cX4_spreadPairs 98 = .ok (.aload_n 0, 1) ∧ 98 + 1 = 99 := ⟨by decide +kernel, rfl⟩
theorem iX4_spreadPairs_99 : decode cX4_spreadPairs 99 = .ok (.getfield 21, 3) ∧ 99 + 3 = 102 := ⟨by decide +kernel, rfl⟩
theorem iX4_spreadPairs_102 : decode cX4_spreadPairs 102 = .ok (.iload 5, 2) ∧ 102 + 2 = 104 := ⟨by decide +kernel, rfl⟩
theorem iX4_spreadPairs_104 : decode cX4_spreadPairs 104 = .ok (.iload 6, 2) ∧ 104 + 2 = 106 := ⟨by decide +kernel, rfl⟩
theorem iX4_spreadPairs_106 : decode cX4_spreadPairs 106 = .ok (.iload_n 3, 1) ∧ 106 + 1 = 107 := ⟨by decide +kernel, rfl⟩
theorem iX4_spreadPairs_107 : decode cX4_spreadPairs 107 = .ok (.iand, 1) ∧ 107 + 1 = 108 := ⟨by decide +kernel, rfl⟩
theorem iX4_spreadPairs_108 : decode cX4_spreadPairs 108 = .ok (.iconst 1, 1) ∧ 108 + 1 = 109 := ⟨by decide +kernel, rfl⟩
theorem iX4_spreadPairs_109 : decode cX4_spreadPairs 109 = .ok (.iload 5, 2) ∧ 109 + 2 = 111 := ⟨by decide +kernel, rfl⟩
theorem iX4_spreadPairs_111 : decode cX4_spreadPairs 111 = .ok (.ishl, 1) ∧ 111 + 1 = 112 := ⟨by decide +kernel, rfl⟩
theorem iX4_spreadPairs_112 : decode cX4_spreadPairs 112 = .ok (.iconst (-1), 1) ∧ 112 + 1 = 113 := ⟨by decide +kernel, rfl⟩
theorem iX4_spreadPairs_113 : decode cX4_spreadPairs 113 = .ok (.ixor, 1) ∧ 113 + 1 = 114 := ⟨by decide +kernel, rfl⟩
theorem iX4_spreadPairs_114 : decode cX4_spreadPairs 114 = .ok (.iand, 1) ∧ 114 + 1 = 115 := ⟨by decide +kernel, rfl⟩
theorem iX4_spreadPairs_115 : decode cX4_spreadPairs 115 = .ok (.iastore, 1) ∧ 115 + 1 = 116 := ⟨by decide +kernel, rfl⟩
theorem iX4_spreadPairs_116 : decode cX4_spreadPairs 116 = .ok (.iinc 5 1, 3) ∧ 116 + 3 = 119 := ⟨by decide +kernel, rfl⟩
theorem iX4_spreadPairs_119 : decode cX4_spreadPairs 119 = .ok (.goto (-113), 3) ∧ 119 + 3 = 122 := ⟨by decide +kernel, rfl⟩
theorem iX4_spreadPairs_122 : decode cX4_spreadPairs 122 = .ok (.iconst 0, 1) ∧ 122 + 1 = 123 := ⟨by decide +kernel, rfl⟩
theorem iX4_spreadPairs_123 : decode cX4_spreadPairs 123 = .ok (.istore 5, 2) ∧ 123 + 2 = 125 := ⟨by decide +kernel, rfl⟩
theorem iX4_spreadPairs_125 : decode cX4_spreadPairs 125 = .ok (.iload 5, 2) ∧ 125 + 2 = 127 := ⟨by decide +kernel, rfl⟩
theorem iX4_spreadPairs_127 : decode cX4_spreadPairs 127 = .ok (.bipush 12, 2) ∧ 127 + 2 = 129 := ⟨by decide +kernel, rfl⟩
theorem iX4_spreadPairs_129 : decode cX4_spreadPairs 129 = .ok (.if_icmp .ge 43, 3) ∧ 129 + 3 = 132 := ⟨by decide +kernel, rfl⟩
theorem iX4_spreadPairs_132 : decode cX4_spreadPairs 132 = .ok (.aload_n 0, 1) ∧ 132 + 1 = 133 := ⟨by decide +kernel, rfl⟩
theorem iX4_spreadPairs_133 : decode cX4_spreadPairs 133 = .ok (.getfield 21, 3) ∧ 133 + 3 = 136 := ⟨by decide +kernel, rfl⟩
theorem iX4_spreadPairs_136 : decode cX4_spreadPairs 136 = .ok (.iload 5, 2) ∧ 136 + 2 = 138 := ⟨by decide +kernel, rfl⟩
theorem iX4_spreadPairs_138 : decode cX4_spreadPairs 138 = .ok (.iaload, 1) ∧ 138 + 1 = 139 := ⟨by decide +kernel, rfl⟩
theorem iX4_spreadPairs_139 : decode cX4_spreadPairs 139 = .ok (.aload_n 0, 1) ∧ 139 + 1 = 140 := ⟨by decide +kernel, rfl⟩
theorem iX4_spreadPairs_140 : decode cX4_spreadPairs 140 = .ok (.getfield 18, 3) ∧ 140 + 3 = 143 := ⟨by decide +kernel, rfl⟩
theorem iX4_spreadPairs_143 : decode cX4_spreadPairs 143 = .ok (.iload 5, 2) ∧ 143 + 2 = 145 := ⟨by decide +kernel, rfl⟩
theorem iX4_spreadPairs_145 : decode cX4_spreadPairs 145 = .ok (.iaload, 1) ∧ 145 + 1 = 146 := ⟨by decide +kernel, rfl⟩
theorem iX4_spreadPairs_146 : decode cX4_spreadPairs 146 = .ok (.if_icmp .eq 20, 3) ∧ 146 + 3 = 149 := ⟨by decide +kernel, rfl⟩
theorem iX4_spreadPairs_149 : decode cX4_spreadPairs 149 = .ok (.iconst 1, 1) ∧ 149 + 1 = 150 := ⟨by decide +kernel, rfl⟩
theorem iX4_spreadPairs_150 : decode cX4_spreadPairs 150 = .ok (.istore 4, 2) ∧ 150 + 2 = 152 := ⟨by decide +kernel, rfl⟩
theorem iX4_spreadPairs_152 : decode cX4_spreadPairs 152 = .ok (.aload_n 0, 1) ∧ 152 + 1 = 153 := ⟨by decide +kernel, rfl⟩
theorem iX4_spreadPairs_153 : decode cX4_spreadPairs 153 = .ok (.getfield 18, 3) ∧ 153 + 3 = 156 := ⟨by decide +kernel, rfl⟩
theorem iX4_spreadPairs_156 : decode cX4_spreadPairs 156 = .ok (.iload 5, 2) ∧ 156 + 2 = 158 := ⟨by decide +kernel, rfl⟩
theorem iX4_spreadPairs_158 : decode cX4_spreadPairs 158 = .ok (.aload_n 0, 1) ∧ 158 + 1 = 159 := ⟨by decide +kernel, rfl⟩
theorem iX4_spreadPairs_159 : decode cX4_spreadPairs 159 = .ok (.getfield 21, 3) ∧ 159 + 3 = 162 := ⟨by decide +kernel, rfl⟩
theorem iX4_spreadPairs_162 : decode cX4_spreadPairs 162 = .ok (.iload 5, 2) ∧ 162 + 2 = 164 := ⟨by decide +kernel, rfl⟩
theorem iX4_spreadPairs_164 : decode cX4_spreadPairs 164 = .ok (.iaload, 1) ∧ 164 + 1 = 165 := ⟨by decide +kernel, rfl⟩
theorem iX4_spreadPairs_165 : decode cX4_spreadPairs 165 = .ok (.iastore, 1) ∧ 165 + 1 = 166 := ⟨by decide +kernel, rfl⟩
theorem iX4_spreadPairs_166 : decode cX4_spreadPairs 166 = .ok (.iinc 5 1, 3) ∧ 166 + 3 = 169 := ⟨by decide +kernel, rfl⟩
theorem iX4_spreadPairs_169 : decode cX4_spreadPairs 169 = .ok (.goto (-44), 3) ∧ 169 + 3 = 172 := ⟨by decide +kernel, rfl⟩
theorem iX4_spreadPairs_172 : decode cX4_spreadPairs 172 = .ok (.iload 4, 2) ∧ 172 + 2 = 174 := ⟨by decide +kernel, rfl⟩
theorem iX4_spreadPairs_174 : decode cX4_spreadPairs 174 = .ok (.ireturn, 1) ∧ 174 + 1 = 175 := ⟨by decide +kernel, rfl⟩
theorem iX4_likelihood_0 : decode cX4_likelihood 0 = .ok (.iload_n 2, 1) ∧ 0 + 1 = 1 := ⟨by decide +kernel, rfl⟩
theorem iX4_likelihood_1 : decode cX4_likelihood 1 = .ok (.ifCond .lt 9, 3) ∧ 1 + 3 = 4 := ⟨by decide +kernel, rfl⟩
theorem iX4_likelihood_4 : decode cX4_likelihood 4 = .ok (.iload_n 2, 1) ∧ 4 + 1 = 5 := ⟨by decide +kernel, rfl⟩
theorem iX4_likelihood_5 : decode cX4_likelihood 5 = .ok (.bipush 12, 2) ∧ 5 + 2 = 7 := ⟨by decide +kernel, rfl⟩
theorem iX4_likelihood_7 : decode cX4_likelihood 7 = .ok (.if_icmp .lt 5, 3) ∧ 7 + 3 = 10 := ⟨by decide +kernel, rfl⟩
theorem iX4_likelihood_10 : decode cX4_likelihood 10 = .ok (.iconst 0, 1) ∧ 10 + 1 = 11 := ⟨by decide +kernel, rfl⟩
theorem iX4_likelihood_11 : decode cX4_likelihood 11 = .ok (.ireturn, 1) ∧ 11 + 1 = 12 := ⟨by decide +kernel, rfl⟩
theorem iX4_likelihood_12 : decode cX4_likelihood 12 = .ok (.iconst 0, 1) ∧ 12 + 1 = 13 := ⟨by decide +kernel, rfl⟩
theorem iX4_likelihood_13 : decode cX4_likelihood 13 = .ok (.istore 6, 2) ∧ 13 + 2 = 15 := ⟨by decide +kernel, rfl⟩
theorem iX4_likelihood_15 : decode cX4_likelihood 15 = .ok (.iload 6, 2) ∧ 15 + 2 = 17 := ⟨by decide +kernel, rfl⟩
theorem iX4_likelihood_17 : decode cX4_likelihood 17 = .ok (.bipush 12, 2) ∧ 17 + 2 = 19 := ⟨by decide +kernel, rfl⟩
theorem iX4_likelihood_19 : decode cX4_likelihood 19 = .ok (.if_icmp .ge 28, 3) ∧ 19 + 3 = 22 := ⟨by decide +kernel, rfl⟩
theorem iX4_likelihood_22 : decode cX4_likelihood 22 = .ok (.aload_n 0, 1) ∧ 22 + 1 = 23 := ⟨by decide +kernel, rfl⟩
theorem iX4_likelihood_23 : decode cX4_likelihood 23 = .ok (.getfield 24, 3) ∧ 23 + 3 = 26 := ⟨by decide +kernel, rfl⟩
theorem iX4_likelihood_26 : decode cX4_likelihood 26 = .ok (.iload 6, 2) ∧ 26 + 2 = 28 := ⟨by decide +kernel, rfl⟩
theorem iX4_likelihood_28 : decode cX4_likelihood 28 = .ok (.iload 6, 2) ∧ 28 + 2 = 30 := ⟨by decide +kernel, rfl⟩
theorem iX4_likelihood_30 : decode cX4_likelihood 30 = .ok (.iload_n 3, 1) ∧ 30 + 1 = 31 := ⟨by decide +kernel, rfl⟩
theorem iX4_likelihood_31 : decode cX4_likelihood 31 = .ok (.if_icmp .ne 8, 3) ∧ 31 + 3 = 34 := ⟨by decide +kernel, rfl⟩
theorem iX4_likelihood_34 : decode cX4_likelihood 34 = .ok (.ldc 68, 2) ∧ 34 + 2 = 36 := ⟨by decide +kernel, rfl⟩
theorem iX4_likelihood_36 : decode cX4_likelihood 36 = .ok (.goto 4, 3) ∧ 36 + 3 = 39 := ⟨by decide +kernel, rfl⟩
theorem iX4_likelihood_39 : decode cX4_likelihood 39 = .ok (.iconst 0, 1) ∧ 39 + 1 = 40 := ⟨by decide +kernel, rfl⟩
theorem iX4_likelihood_40 : decode cX4_likelihood 40 = .ok (.iastore, 1) ∧ 40 + 1 = 41 := ⟨by decide +kernel, rfl⟩
theorem iX4_likelihood_41 : decode cX4_likelihood 41 = .ok (.iinc 6 1, 3) ∧ 41 + 3 = 44 := ⟨by decide +kernel, rfl⟩
theorem iX4_likelihood_44 : decode cX4_likelihood 44 = .ok (.goto (-29), 3) ∧ 44 + 3 = 47 := ⟨by decide +kernel, rfl⟩
theorem iX4_likelihood_47 : decode cX4_likelihood 47 = .ok (.iconst 0, 1) ∧ 47 + 1 = 48 := ⟨by decide +kernel, rfl⟩
theorem iX4_likelihood_48 : decode cX4_likelihood 48 = .ok (.istore 6, 2) ∧ 48 + 2 = 50 := ⟨by decide +kernel, rfl⟩
theorem iX4_likelihood_50 : decode cX4_likelihood 50 = .ok (.iload 6, 2) ∧ 50 + 2 = 52 := ⟨by decide +kernel, rfl⟩
theorem iX4_likelihood_52 : decode cX4_likelihood 52 = .ok (.iload 5, 2) ∧ 52 + 2 = 54 := ⟨by decide +kernel, rfl⟩
theorem iX4_likelihood_54 : decode cX4_likelihood 54 = .ok (.if_icmp .ge 23, 3) ∧ 54 + 3 = 57 := ⟨by decide +kernel, rfl⟩
theorem iX4_likelihood_57 : decode cX4_likelihood 57 = .ok (.iload 6, 2) ∧ 57 + 2 = 59 := ⟨by decide +kernel, rfl⟩
theorem iX4_likelihood_59 : decode cX4_likelihood 59 = .ok (.bipush 6, 2) ∧ 59 + 2 = 61 := ⟨by decide +kernel, rfl⟩
theorem iX4_likelihood_61 : decode cX4_likelihood 61 = .ok (.if_icmp .ge 16, 3) ∧ 61 + 3 = 64 := ⟨by decide +kernel, rfl⟩
theorem iX4_likelihood_64 : decode cX4_likelihood 64 = .ok (.aload_n 0, 1) ∧ 64 + 1 = 65 := ⟨by decide +kernel, rfl⟩
theorem iX4_likelihood_65 : decode cX4_likelihood 65 = .ok (.aload_n 1, 1) ∧ 65 + 1 = 66 := ⟨by decide +kernel, rfl⟩
theorem iX4_likelihood_66 : decode cX4_likelihood 66 = .ok (.iload 4, 2) ∧ 66 + 2 = 68 := ⟨by decide +kernel, rfl⟩
theorem iX4_likelihood_68 : decode cX4_likelihood 68 = .ok (.invokevirtual 69, 3) ∧ 68 + 3 = 71 := ⟨by decide +kernel, rfl⟩
theorem iX4_likelihood_71 : decode cX4_likelihood 71 = .ok (.iinc 6 1, 3) ∧ 71 + 3 = 74 := ⟨by decide +kernel, rfl⟩
theorem iX4_likelihood_74 : decode cX4_likelihood 74 = .ok (.goto (-24), 3) ∧ 74 + 3 = 77 := ⟨by decide +kernel, rfl⟩
theorem iX4_likelihood_77 : decode cX4_likelihood 77 = .ok (.aload_n 0, 1) ∧ 77 + 1 = 78 := ⟨by decide +kernel, rfl⟩
theorem iX4_likelihood_78 : decode cX4_likelihood 78 = .ok (.getfield 24, 3) ∧ 78 + 3 = 81 := ⟨by decide +kernel, rfl⟩
theorem iX4_likelihood_81 : decode cX4_likelihood 81 = .ok (.iload_n 2, 1) ∧ 81 + 1 = 82 := ⟨by decide +kernel, rfl⟩
theorem iX4_likelihood_82 : decode cX4_likelihood 82 = .ok (.iaload, 1) ∧ 82 + 1 = 83 := ⟨by decide +kernel, rfl⟩
theorem iX4_likelihood_83 : decode cX4_likelihood 83 = .ok (.ireturn, 1) ∧ 83 + 1 = 84 := ⟨by decide +kernel, rfl⟩
theorem iX4_addLeap_0 : decode cX4_addLeap 0 = .ok (.iconst 0, 1) ∧ 0 + 1 = 1 := ⟨by decide +kernel, rfl⟩
theorem iX4_addLeap_1 : decode cX4_addLeap 1 = .ok (.istore_n 3, 1) ∧ 1 + 1 = 2 := ⟨by decide +kernel, rfl⟩
theorem iX4_addLeap_2 : decode cX4_addLeap 2 = .ok (.iload_n 3, 1) ∧ 2 + 1 = 3 := ⟨by decide +kernel, rfl⟩
theorem iX4_addLeap_3 : decode cX4_addLeap 3 = .ok (.bipush 12, 2) ∧ 3 + 2 = 5 := ⟨by decide +kernel, rfl⟩
theorem iX4_addLeap_5 : decode cX4_addLeap 5 = .ok (.if_icmp .ge 58, 3) ∧ 5 + 3 = 8 := ⟨by decide +kernel, rfl⟩
theorem iX4_addLeap_8 : decode cX4_addLeap 8 = .ok (.iload_n 3, 1) ∧ 8 + 1 = 9 := ⟨by decide +kernel, rfl⟩
theorem iX4_addLeap_9 : decode cX4_addLeap 9 = .ok (.aload_n 1, 1) ∧ 9 + 1 = 10 := ⟨by decide +kernel, rfl⟩
theorem iX4_addLeap_10 : decode cX4_addLeap 10 = .ok (.arraylength, 1) ∧ 10 + 1 = 11 := ⟨by decide +kernel, rfl⟩
theorem iX4_addLeap_11 : decode cX4_addLeap 11 = .ok (.if_icmp .ge 52, 3) ∧ 11 + 3 = 14 := ⟨by decide +kernel, rfl⟩
theorem iX4_addLeap_14 : decode cX4_addLeap 14 = .ok (.aload_n 1, 1) ∧ 14 + 1 = 15 := ⟨by decide +kernel, rfl⟩
theorem iX4_addLeap_15 : decode cX4_addLeap 15 = .ok (.iload_n 3, 1) ∧ 15 + 1 = 16 := ⟨by decide +kernel, rfl⟩
theorem iX4_addLeap_16 : decode cX4_addLeap 16 = .ok (.iaload, 1) ∧ 16 + 1 = 17 := ⟨by decide +kernel, rfl⟩
theorem iX4_addLeap_17 : decode cX4_addLeap 17 = .ok (.iload_n 2, 1) ∧ 17 + 1 = 18 := ⟨by decide +kernel, rfl⟩
theorem iX4_addLeap_18 : decode cX4_addLeap 18 = .ok (.iand, 1) ∧ 18 + 1 = 19 := ⟨by decide +kernel, rfl⟩
theorem iX4_addLeap_19 : decode cX4_addLeap 19 = .ok (.istore 4, 2) ∧ 19 + 2 = 21 := ⟨by decide +kernel, rfl⟩
theorem iX4_addLeap_21 : decode cX4_addLeap 21 = .ok (.iload 4, 2) ∧ 21 + 2 = 23 := ⟨by decide +kernel, rfl⟩
theorem iX4_addLeap_23 : decode cX4_addLeap 23 = .ok (.invokestatic 59, 3) ∧ 23 + 3 = 26 := ⟨by decide +kernel, rfl⟩
theorem iX4_addLeap_26 : decode cX4_addLeap 26 = .ok (.istore 5, 2) ∧ 26 + 2 = 28 := ⟨by decide +kernel, rfl⟩
theorem iX4_addLeap_28 : decode cX4_addLeap 28 = .ok (.aload_n 0, 1) ∧ 28 + 1 = 29 := ⟨by decide +kernel, rfl⟩
theorem iX4_addLeap_29 : decode cX4_addLeap 29 = .ok (.getfield 27, 3) ∧ 29 + 3 = 32 := ⟨by decide +kernel, rfl⟩
theorem iX4_addLeap_32 : decode cX4_addLeap 32 = .ok (.iload_n 3, 1) ∧ 32 + 1 = 33 := ⟨by decide +kernel, rfl⟩
theorem iX4_addLeap_33 : decode cX4_addLeap 33 = .ok (.iload 5, 2) ∧ 33 + 2 = 35 := ⟨by decide +kernel, rfl⟩
theorem iX4_addLeap_35 : decode cX4_addLeap 35 = .ok (.ifCond .le 15, 3) ∧ 35 + 3 = 38 := ⟨by decide +kernel, rfl⟩
theorem iX4_addLeap_38 : decode cX4_addLeap 38 = .ok (.aload_n 0, 1) ∧ 38 + 1 = 39 := ⟨by decide +kernel, rfl⟩
theorem iX4_addLeap_39 : decode cX4_addLeap 39 = .ok (.iload 4, 2) ∧ 39 + 2 = 41 := ⟨by decide +kernel, rfl⟩
theorem iX4_addLeap_41 : decode cX4_addLeap 41 = .ok (.invokevirtual 73, 3) ∧ 41 + 3 = 44 := ⟨by decide +kernel, rfl⟩
theorem iX4_addLeap_44 : decode cX4_addLeap 44 = .ok (.iload 5, 2) ∧ 44 + 2 = 46 := ⟨by decide +kernel, rfl⟩
theorem iX4_addLeap_46 : decode cX4_addLeap 46 = .ok (.idiv, 1) ∧ 46 + 1 = 47 := ⟨by decide +kernel, rfl⟩
theorem iX4_addLeap_47 : decode cX4_addLeap 47 = .ok (.goto 9, 3) ∧ 47 + 3 = 50 := ⟨by decide +kernel, rfl⟩
theorem iX4_addLeap_50 : decode cX4_addLeap 50 = .ok (.aload_n 0, 1) ∧ 50 + 1 = 51 := ⟨by decide +kernel, rfl⟩
theorem iX4_addLeap_51 : decode cX4_addLeap 51 = .ok (.getfield 24, 3) ∧ 51 + 3 = 54 := ⟨by decide +kernel, rfl⟩
theorem iX4_addLeap_54 : decode cX4_addLeap 54 = .ok (.iload_n 3, 1) ∧ 54 + 1 = 55 := ⟨by decide +kernel, rfl⟩
theorem iX4_addLeap_55 : decode cX4_addLeap 55 = .ok (.iaload, 1) ∧ 55 + 1 = 56 := ⟨by decide +kernel, rfl⟩
theorem iX4_addLeap_56 : decode cX4_addLeap 56 = .ok (.iastore, 1) ∧ 56 + 1 = 57 := ⟨by decide +kernel, rfl⟩
theorem iX4_addLeap_57 : decode cX4_addLeap 57 = .ok (.iinc 3 1, 3) ∧ 57 + 3 = 60 := ⟨by decide +kernel, rfl⟩
theorem iX4_addLeap_60 : decode cX4_addLeap 60 = .ok (.goto (-58), 3) ∧ 60 + 3 = 63 := ⟨by decide +kernel, rfl⟩
theorem iX4_addLeap_63 : decode cX4_addLeap 63 = .ok (.iconst 0, 1) ∧ 63 + 1 = 64 := ⟨by decide +kernel, rfl⟩
theorem iX4_addLeap_64 : decode cX4_addLeap 64 = .ok (.istore_n 3, 1) ∧ 64 + 1 = 65 := ⟨by decide +kernel, rfl⟩
theorem iX4_addLeap_65 : decode cX4_addLeap 65 = .ok (.iload_n 3, 1) ∧ 65 + 1 = 66 := ⟨by decide +kernel, rfl⟩
theorem iX4_addLeap_66 : decode cX4_addLeap 66 = .ok (.bipush 12, 2) ∧ 66 + 2 = 68 := ⟨by decide +kernel, rfl⟩
theorem iX4_addLeap_68 : decode cX4_addLeap 68 = .ok (.if_icmp .ge 21, 3) ∧ 68 + 3 = 71 := ⟨by decide +kernel, rfl⟩
theorem iX4_addLeap_71 : decode cX4_addLeap 71 = .ok (.aload_n 0, 1) ∧ 71 + 1 = 72 := ⟨by decide +kernel, rfl⟩
theorem iX4_addLeap_72 : decode cX4_addLeap 72 = .ok (.getfield 24, 3) ∧ 72 + 3 = 75 := ⟨by decide +kernel, rfl⟩
theorem iX4_addLeap_75 : decode cX4_addLeap 75 = .ok (.iload_n 3, 1) ∧ 75 + 1 = 76 := ⟨by decide +kernel, rfl⟩
theorem iX4_addLeap_76 : decode cX4_addLeap 76 = .ok (.aload_n 0, 1) ∧ 76 + 1 = 77 := ⟨by decide +kernel, rfl⟩
theorem iX4_addLeap_77 : decode cX4_addLeap 77 = .ok (.getfield 27, 3) ∧ 77 + 3 = 80 := ⟨by decide +kernel, rfl⟩
theorem iX4_addLeap_80 : decode cX4_addLeap 80 = .ok (.iload_n 3, 1) ∧ 80 + 1 = 81 := ⟨by decide +kernel, rfl⟩
theorem iX4_addLeap_81 : decode cX4_addLeap 81 = .ok (.iaload, 1) ∧ 81 + 1 = 82 := ⟨by decide +kernel, rfl⟩
theorem iX4_addLeap_82 : decode cX4_addLeap 82 = .ok (.iastore, 1) ∧ 82 + 1 = 83 := ⟨by decide +kernel, rfl⟩
theorem iX4_addLeap_83 : decode cX4_addLeap 83 = .ok (.iinc 3 1, 3) ∧ 83 + 3 = 86 := ⟨by decide +kernel, rfl⟩
theorem iX4_addLeap_86 : decode cX4_addLeap 86 = .ok (.goto (-21), 3) ∧ 86 + 3 = 89 := ⟨by decide +kernel, rfl⟩
theorem iX4_addLeap_89 : decode cX4_addLeap 89 = .ok (.return_, 1) ∧ 89 + 1 = 90 := ⟨by decide +kernel, rfl⟩
theorem iX4_sumOver_0 : decode cX4_sumOver 0 = .ok (.iconst 0, 1) ∧ 0 + 1 = 1 := ⟨by decide +kernel, rfl⟩
theorem iX4_sumOver_1 : decode cX4_sumOver 1 = .ok (.istore_n 2, 1) ∧ 1 + 1 = 2 := ⟨by decide +kernel, rfl⟩
theorem iX4_sumOver_2 : decode cX4_sumOver 2 = .ok (.iconst 0, 1) ∧ 2 + 1 = 3 := ⟨by decide +kernel, rfl⟩
theorem iX4_sumOver_3 : decode cX4_sumOver 3 = .ok (.istore_n 3, 1) ∧ 3 + 1 = 4 := ⟨by decide +kernel, rfl⟩
theorem iX4_sumOver_4 : decode cX4_sumOver 4 = .ok (.iload_n 3, 1) ∧ 4 + 1 = 5 := ⟨by decide +kernel, rfl⟩
theorem iX4_sumOver_5 : decode cX4_sumOver 5 = .ok (.bipush 12, 2) ∧ 5 + 2 = 7 := ⟨by decide +kernel, rfl⟩
theorem iX4_sumOver_7 : decode cX4_sumOver 7 = .ok (.if_icmp .ge 26, 3) ∧ 7 + 3 = 10 := ⟨by decide +kernel, rfl⟩
theorem iX4_sumOver_10 : decode cX4_sumOver 10 = .ok (.iload_n 1, 1) ∧ 10 + 1 = 11 := ⟨by decide +kernel, rfl⟩
theorem iX4_sumOver_11 : decode cX4_sumOver 11 = .ok (.iload_n 3, 1) ∧ 11 + 1 = 12 := ⟨by decide +kernel, rfl⟩
theorem iX4_sumOver_12 : decode cX4_sumOver 12 = .ok (.invokestatic 30, 3) ∧ 12 + 3 = 15 := ⟨by decide +kernel, rfl⟩
theorem iX4_sumOver_15 : decode cX4_sumOver 15 = .ok (.ifCond .eq 12, 3) ∧ 15 + 3 = 18 := ⟨by decide +kernel, rfl⟩
theorem iX4_sumOver_18 : decode cX4_sumOver 18 = .ok (.iload_n 2, 1) ∧ 18 + 1 = 19 := ⟨by decide +kernel, rfl⟩
theorem iX4_sumOver_19 : decode cX4_sumOver 19 = .ok (.aload_n 0, 1) ∧ 19 + 1 = 20 := ⟨by decide +kernel, rfl⟩
theorem iX4_sumOver_20 : decode cX4_sumOver 20 = .ok (.getfield 24, 3) ∧ 20 + 3 = 23 := ⟨by decide +kernel, rfl⟩
theorem iX4_sumOver_23 : decode cX4_sumOver 23 = .ok (.iload_n 3, 1) ∧ 23 + 1 = 24 := ⟨by decide +kernel, rfl⟩
theorem iX4_sumOver_24 : decode cX4_sumOver 24 = .ok (.iaload, 1) ∧ 24 + 1 = 25 := ⟨by decide +kernel, rfl⟩
theorem iX4_sumOver_25 : decode cX4_sumOver 25 = .ok (.iadd, 1) ∧ 25 + 1 = 26 := ⟨by decide +kernel, rfl⟩
theorem iX4_sumOver_26 : decode cX4_sumOver 26 = .ok (.istore_n 2, 1) ∧ 26 + 1 = 27 := ⟨by decide +kernel, rfl⟩
theorem iX4_sumOver_27 : decode cX4_sumOver 27 = .ok (.iinc 3 1, 3) ∧ 27 + 3 = 30 := ⟨by decide +kernel, rfl⟩
theorem iX4_sumOver_30 : decode cX4_sumOver 30 = .ok (.goto (-26), 3) ∧ 30 + 3 = 33 := ⟨by decide +kernel, rfl⟩
theorem iX4_sumOver_33 : decode cX4_sumOver 33 = .ok (.iload_n 2, 1) ∧ 33 + 1 = 34 := ⟨by decide +kernel, rfl⟩
theorem iX4_sumOver_34 : decode cX4_sumOver 34 = .ok (.ireturn, 1) ∧ 34 + 1 = 35 := ⟨by decide +kernel, rfl⟩
theorem iX5_init_0 : decode cX5_init 0 = .ok (.aload_n 0, 1) ∧ 0 + 1 = 1 := ⟨by decide +kernel, rfl⟩
theorem iX5_init_1 : decode cX5_init 1 = .ok (.invokespecial 1, 3) ∧ 1 + 3 = 4 := ⟨by decide +kernel, rfl⟩
theorem iX5_init_4 : decode cX5_init 4 = .ok (.aload_n 0, 1) ∧ 4 + 1 = 5 := ⟨by decide +kernel, rfl⟩
theorem iX5_init_5 : decode cX5_init 5 = .ok (.new 7, 3) ∧ 5 + 3 = 8 := ⟨by decide +kernel, rfl⟩
theorem iX5_init_8 : decode cX5_init 8 = .ok (.dup, 1) ∧ 8 + 1 = 9 := ⟨by decide +kernel, rfl⟩
theorem iX5_init_9 : decode cX5_init 9 = .ok (.invokespecial 9, 3) ∧ 9 + 3 = 12 := ⟨by decide +kernel, rfl⟩
theorem iX5_init_12 : decode cX5_init 12 = .ok (.putfield 10, 3) ∧ 12 + 3 = 15 := ⟨by decide +kernel, rfl⟩
theorem iX5_init_15 : decode cX5_init 15 = .ok (.aload_n 0, 1) ∧ 15 + 1 = 16 := ⟨by decide +kernel, rfl⟩
theorem iX5_init_16 : decode cX5_init 16 = .ok (.new 16, 3) ∧ 16 + 3 = 19 := ⟨by decide +kernel, rfl⟩
theorem iX5_init_19 : decode cX5_init 19 = .ok (.dup, 1) ∧ 19 + 1 = 20 := ⟨by decide +kernel, rfl⟩
theorem iX5_init_20 : decode cX5_init 20 = .ok (.invokespecial 18, 3) ∧ 20 + 3 = 23 := ⟨by decide +kernel, rfl⟩
theorem iX5_init_23 : decode cX5_init 23 = .ok (.putfield 19, 3) ∧ 23 + 3 = 26 := ⟨by decide +kernel, rfl⟩
theorem iX5_init_26 : decode cX5_init 26 = .ok (.aload_n 0, 1) ∧ 26 + 1 = 27 := ⟨by decide +kernel, rfl⟩
theorem iX5_init_27 : decode cX5_init 27 = .ok (.new 23, 3) ∧ 27 + 3 = 30 := ⟨by decide +kernel, rfl⟩
theorem iX5_init_30 : decode cX5_init 30 = .ok (.dup, 1) ∧ 30 + 1 = 31 := ⟨by decide +kernel, rfl⟩
theorem iX5_init_31 : decode cX5_init 31 = .ok (.invokespecial 25, 3) ∧ 31 + 3 = 34 := ⟨by decide +kernel, rfl⟩
theorem iX5_init_34 : decode cX5_init 34 = .ok (.putfield 26, 3) ∧ 34 + 3 = 37 := ⟨by decide +kernel, rfl⟩
theorem iX5_init_37 : decode cX5_init 37 = .ok (.aload_n 0, 1) ∧ 37 + 1 = 38 := ⟨by decide +kernel, rfl⟩
theorem iX5_init_38 : decode cX5_init 38 = .ok (.new 23, 3) ∧ 38 + 3 = 41 := ⟨by decide +kernel, rfl⟩
theorem iX5_init_41 : decode cX5_init 41 = .ok (.dup, 1) ∧ 41 + 1 = 42 := ⟨by decide +kernel, rfl⟩
theorem iX5_init_42 : decode cX5_init 42 = .ok (.invokespecial 25, 3) ∧ 42 + 3 = 45 := ⟨by decide +kernel, rfl⟩
theorem iX5_init_45 : decode cX5_init 45 = .ok (.putfield 30, 3) ∧ 45 + 3 = 48 := ⟨by decide +kernel, rfl⟩
theorem iX5_init_48 : decode cX5_init 48 = .ok (.aload_n 0, 1) ∧ 48 + 1 = 49 := ⟨by decide +kernel, rfl⟩
theorem iX5_init_49 : decode cX5_init 49 = .ok (.new 23, 3) ∧ 49 + 3 = 52 := ⟨by decide +kernel, rfl⟩
theorem iX5_init_52 : decode cX5_init 52 = .ok (.dup, 1) ∧ 52 + 1 = 53 := ⟨by decide +kernel, rfl⟩
theorem iX5_init_53 : decode cX5_init 53 = .ok (.invokespecial 25, 3) ∧ 53 + 3 = 56 := ⟨by decide +kernel, rfl⟩
theorem iX5_init_56 : decode cX5_init 56 = .ok (.putfield 33, 3) ∧ 56 + 3 = 59 := ⟨by decide +kernel, rfl⟩
theorem iX5_init_59 : decode cX5_init 59 = .ok (.aload_n 0, 1) ∧ 59 + 1 = 60 := ⟨by decide +kernel, rfl⟩
theorem iX5_init_60 : decode cX5_init 60 = .ok (.new 36, 3) ∧ 60 + 3 = 63 := ⟨by decide +kernel, rfl⟩
theorem iX5_init_63 : decode cX5_init 63 = .ok (.dup, 1) ∧ 63 + 1 = 64 := ⟨by decide +kernel, rfl⟩
theorem iX5_init_64 : decode cX5_init 64 = .ok (.invokespecial 38, 3) ∧ 64 + 3 = 67 := ⟨by decide +kernel, rfl⟩
theorem iX5_init_67 : decode cX5_init 67 = .ok (.putfield 39, 3) ∧ 67 + 3 = 70 := ⟨by decide +kernel, rfl⟩
theorem iX5_init_70 : decode cX5_init 70 = .ok (.aload_n 0, 1) ∧ 70 + 1 = 71 := ⟨by decide +kernel, rfl⟩
theorem iX5_init_71 : decode cX5_init 71 = .ok (.new 43, 3) ∧ 71 + 3 = 74 := ⟨by decide +kernel, rfl⟩
theorem iX5_init_74 : decode cX5_init 74 = .ok (.dup, 1) ∧ 74 + 1 = 75 := ⟨by decide +kernel, rfl⟩
theorem iX5_init_75 : decode cX5_init 75 = .ok (.invokespecial 45, 3) ∧ 75 + 3 = 78 := ⟨by decide +kernel, rfl⟩
theorem iX5_init_78 : decode cX5_init 78 = .ok (.putfield 46, 3) ∧ 78 + 3 = 81 := ⟨by decide +kernel, rfl⟩
theorem iX5_init_81 : decode cX5_init 81 = .ok (.aload_n 0, 1) ∧ 81 + 1 = 82 := ⟨by decide +kernel, rfl⟩
theorem iX5_init_82 : decode cX5_init 82 = .ok (.iconst 0, 1) ∧ 82 + 1 = 83 := ⟨by decide +kernel, rfl⟩
theorem iX5_init_83 : decode cX5_init 83 = .ok (.putfield 50, 3) ∧ 83 + 3 = 86 := ⟨by decide +kernel, rfl⟩
theorem iX5_init_86 : decode cX5_init 86 = .ok (.aload_n 0, 1) ∧ 86 + 1 = 87 := ⟨by decide +kernel, rfl⟩
theorem iX5_init_87 : decode cX5_init 87 = .ok (.iconst 0, 1) ∧ 87 + 1 = 88 := ⟨by decide +kernel, rfl⟩
theorem iX5_init_88 : decode cX5_init 88 = .ok (.putfield 54, 3) ∧ 88 + 3 = 91 := ⟨by decide +kernel, rfl⟩
theorem iX5_init_91 : decode cX5_init 91 = .ok (.return_, 1) ∧ 91 + 1 = 92 := ⟨by decide +kernel, rfl⟩
theorem iX5_letter_0 : decode cX5_letter 0 = .ok (.iload_n 1, 1) ∧ 0 + 1 = 1 := ⟨by decide +kernel, rfl⟩
theorem iX5_letter_1 : decode cX5_letter 1 = .ok (.bipush 32, 2) ∧ 1 + 2 = 3 := ⟨by decide +kernel, rfl⟩
theorem iX5_letter_3 : decode cX5_letter 3 = .ok (.if_icmp .lt 9, 3) ∧ 3 + 3 = 6 := ⟨by decide +kernel, rfl⟩
theorem iX5_letter_6 : decode cX5_letter 6 = .ok (.iload_n 1, 1) ∧ 6 + 1 = 7 := ⟨by decide +kernel, rfl⟩
theorem iX5_letter_7 : decode cX5_letter 7 = .ok (.bipush 126, 2) ∧ 7 + 2 = 9 := ⟨by decide +kernel, rfl⟩
theorem iX5_letter_9 : decode cX5_letter 9 = .ok (.if_icmp .le 6, 3) ∧ 9 + 3 = 12 := ⟨by decide +kernel, rfl⟩
theorem iX5_letter_12 : decode cX5_letter 12 = .ok (.bipush (-102), 2) ∧ 12 + 2 = 14 := ⟨by decide +kernel, rfl⟩
theorem iX5_letter_14 : decode cX5_letter 14 = .ok (.ireturn, 1) ∧ 14 + 1 = 15 := ⟨by decide +kernel, rfl⟩
theorem iX5_letter_15 : decode cX5_letter 15 = .ok (.aload_n 0, 1) ∧ 15 + 1 = 16 := ⟨by decide +kernel, rfl⟩
theorem iX5_letter_16 : decode cX5_letter 16 = .ok (.getfield 10, 3) ∧ 16 + 3 = 19 := ⟨by decide +kernel, rfl⟩
theorem iX5_letter_19 : decode cX5_letter 19 = .ok (.iload_n 1, 1) ∧ 19 + 1 = 20 := ⟨by decide +kernel, rfl⟩
theorem iX5_letter_20 : decode cX5_letter 20 = .ok (.invokevirtual 58, 3) ∧ 20 + 3 = 23 := ⟨by decide +kernel, rfl⟩
theorem iX5_letter_23 : decode cX5_letter 23 = .ok (.ifCond .eq 13, 3) ∧ 23 + 3 = 26 := ⟨by decide +kernel, rfl⟩
theorem iX5_letter_26 : decode cX5_letter 26 = .ok (.aload_n 0, 1) ∧ 26 + 1 = 27 := ⟨by decide +kernel, rfl⟩
theorem iX5_letter_27 : decode cX5_letter 27 = .ok (.getfield 10, 3) ∧ 27 + 3 = 30 := ⟨by decide +kernel, rfl⟩
theorem iX5_letter_30 : decode cX5_letter 30 = .ok (.getfield 62, 3) ∧ 30 + 3 = 33 := ⟨by decide +kernel, rfl⟩
theorem iX5_letter_33 : decode cX5_letter 33 = .ok (.goto 5, 3) ∧ 33 + 3 = 36 := ⟨by decide +kernel, rfl⟩
theorem iX5_letter_36 : decode cX5_letter 36 = .ok (.bipush (-104), 2) ∧ 36 + 2 = 38 := ⟨by decide +kernel, rfl⟩
theorem iX5_letter_38 : decode cX5_letter 38 = .ok (.ireturn, 1) ∧ 38 + 1 = 39 := ⟨by decide +kernel, rfl⟩
theorem iX5_blank_0 : decode cX5_blank 0 = .ok (.aload_n 0, 1) ∧ 0 + 1 = 1 := ⟨by decide +kernel, rfl⟩
theorem iX5_blank_1 : decode cX5_blank 1 = .ok (.getfield 10, 3) ∧ 1 + 3 = 4 := ⟨by decide +kernel, rfl⟩
theorem iX5_blank_4 : decode cX5_blank 4 = .ok (.invokevirtual 65, 3) ∧ 4 + 3 = 7 := ⟨by decide +kernel, rfl⟩
theorem iX5_blank_7 : decode cX5_blank 7 = .ok (.ireturn, 1) ∧ 7 + 1 = 8 := ⟨by decide +kernel, rfl⟩
theorem iX5_fault_0 : decode cX5_fault 0 = .ok (.aload_n 0, 1) ∧ 0 + 1 = 1 := ⟨by decide +kernel, rfl⟩
theorem iX5_fault_1 : decode cX5_fault 1 = .ok (.getfield 10, 3) ∧ 1 + 3 = 4 := ⟨by decide +kernel, rfl⟩
theorem iX5_fault_4 : decode cX5_fault 4 = .ok (.invokevirtual 69, 3) ∧ 4 + 3 = 7 := ⟨by decide +kernel, rfl⟩
theorem iX5_fault_7 : decode cX5_fault 7 = .ok (.ireturn, 1) ∧ 7 + 1 = 8 := ⟨by decide +kernel, rfl⟩
theorem iX5_board_0 : decode cX5_board 0 = .ok (.aload_n 0, 1) ∧ 0 + 1 = 1 := ⟨by decide +kernel, rfl⟩
theorem iX5_board_1 : decode cX5_board 1 = .ok (.getfield 10, 3) ∧ 1 + 3 = 4 := ⟨by decide +kernel, rfl⟩
theorem iX5_board_4 : decode cX5_board 4 = .ok (.invokevirtual 72, 3) ∧ 4 + 3 = 7 := ⟨by decide +kernel, rfl⟩
theorem iX5_board_7 : decode cX5_board 7 = .ok (.ifCond .ne 6, 3) ∧ 7 + 3 = 10 := ⟨by decide +kernel, rfl⟩
theorem iX5_board_10 : decode cX5_board 10 = .ok (.bipush (-103), 2) ∧ 10 + 2 = 12 := ⟨by decide +kernel, rfl⟩
theorem iX5_board_12 : decode cX5_board 12 = .ok (.ireturn, 1) ∧ 12 + 1 = 13 := ⟨by decide +kernel, rfl⟩
theorem iX5_board_13 : decode cX5_board 13 = .ok (.aload_n 0, 1) ∧ 13 + 1 = 14 := ⟨by decide +kernel, rfl⟩
theorem iX5_board_14 : decode cX5_board 14 = .ok (.getfield 19, 3) ∧ 14 + 3 = 17 := ⟨by decide +kernel, rfl⟩
theorem iX5_board_17 : decode cX5_board 17 = .ok (.aload_n 0, 1) ∧ 17 + 1 = 18 := ⟨by decide +kernel, rfl⟩
theorem iX5_board_18 : decode cX5_board 18 = .ok (.getfield 10, 3) ∧ 18 + 3 = 21 := ⟨by decide +kernel, rfl⟩
theorem iX5_board_21 : decode cX5_board 21 = .ok (.invokevirtual 76, 3) ∧ 21 + 3 = 24 := ⟨by decide +kernel, rfl⟩
theorem iX5_board_24 : decode cX5_board 24 = .ok (.aload_n 0, 1) ∧ 24 + 1 = 25 := ⟨by decide +kernel, rfl⟩
theorem iX5_board_25 : decode cX5_board 25 = .ok (.getfield 10, 3) ∧ 25 + 3 = 28 := ⟨by decide +kernel, rfl⟩
theorem iX5_board_28 : decode cX5_board 28 = .ok (.invokevirtual 79, 3) ∧ 28 + 3 = 31 := ⟨by decide +kernel, rfl⟩
theorem iX5_board_31 : decode cX5_board 31 = .ok (.invokevirtual 82, 3) ∧ 31 + 3 = 34 := ⟨by decide +kernel, rfl⟩
theorem iX5_board_34 : decode cX5_board 34 = .ok (.aload_n 0, 1) ∧ 34 + 1 = 35 := ⟨by decide +kernel, rfl⟩
theorem iX5_board_35 : decode cX5_board 35 = .ok (.getfield 26, 3) ∧ 35 + 3 = 38 := ⟨by decide +kernel, rfl⟩
theorem iX5_board_38 : decode cX5_board 38 = .ok (.aload_n 0, 1) ∧ 38 + 1 = 39 := ⟨by decide +kernel, rfl⟩
theorem iX5_board_39 : decode cX5_board 39 = .ok (.getfield 10, 3) ∧ 39 + 3 = 42 := ⟨by decide +kernel, rfl⟩
theorem iX5_board_42 : decode cX5_board 42 = .ok (.invokevirtual 86, 3) ∧ 42 + 3 = 45 := ⟨by decide +kernel, rfl⟩
theorem iX5_board_45 : decode cX5_board 45 = .ok (.putfield 89, 3) ∧ 45 + 3 = 48 := ⟨by decide +kernel, rfl⟩
theorem iX5_board_48 : decode cX5_board 48 = .ok (.aload_n 0, 1) ∧ 48 + 1 = 49 := ⟨by decide +kernel, rfl⟩
theorem iX5_board_49 : decode cX5_board 49 = .ok (.getfield 26, 3) ∧ 49 + 3 = 52 := ⟨by decide +kernel, rfl⟩
theorem iX5_board_52 : decode cX5_board 52 = .ok (.aload_n 0, 1) ∧ 52 + 1 = 53 := ⟨by decide +kernel, rfl⟩
theorem iX5_board_53 : decode cX5_board 53 = .ok (.getfield 10, 3) ∧ 53 + 3 = 56 := ⟨by decide +kernel, rfl⟩
theorem iX5_board_56 : decode cX5_board 56 = .ok (.invokevirtual 92, 3) ∧ 56 + 3 = 59 := ⟨by decide +kernel, rfl⟩
theorem iX5_board_59 : decode cX5_board 59 = .ok (.putfield 95, 3) ∧ 59 + 3 = 62 := ⟨by decide +kernel, rfl⟩
theorem iX5_board_62 : decode cX5_board 62 = .ok (.iconst 0, 1) ∧ 62 + 1 = 63 := ⟨by decide +kernel, rfl⟩
theorem iX5_board_63 : decode cX5_board 63 = .ok (.istore_n 1, 1) ∧ 63 + 1 = 64 := ⟨by decide +kernel, rfl⟩
theorem iX5_board_64 : decode cX5_board 64 = .ok (.iload_n 1, 1) ∧ 64 + 1 = 65 := ⟨by decide +kernel, rfl⟩
theorem iX5_board_65 : decode cX5_board 65 = .ok (.aload_n 0, 1) ∧ 65 + 1 = 66 := ⟨by decide +kernel, rfl⟩
theorem iX5_board_66 : decode cX5_board 66 = .ok (.getfield 26, 3) ∧ 66 + 3 = 69 := ⟨by decide +kernel, rfl⟩
theorem iX5_board_69 : decode cX5_board 69 = .ok (.getfield 95, 3) ∧ 69 + 3 = 72 := ⟨by decide +kernel, rfl⟩
theorem iX5_board_72 : decode cX5_board 72 = .ok (.if_icmp .ge 48, 3) ∧ 72 + 3 = 75 := ⟨by decide +kernel, rfl⟩
theorem iX5_board_75 : decode cX5_board 75 = .ok (.iload_n 1, 1) ∧ 75 + 1 = 76 := ⟨by decide +kernel, rfl⟩
theorem iX5_board_76 : decode cX5_board 76 = .ok (.iconst 4, 1) ∧ 76 + 1 = 77 := ⟨by decide +kernel, rfl⟩
theorem iX5_board_77 : decode cX5_board 77 = .ok (.if_icmp .ge 43, 3) ∧ 77 + 3 = 80 := ⟨by decide +kernel, rfl⟩
theorem iX5_board_80 : decode cX5_board 80 = .ok (.aload_n 0, 1) ∧ 80 + 1 = 81 := ⟨by decide +kernel, rfl⟩
theorem iX5_board_81 : decode cX5_board 81 = .ok (.getfield 26, 3) ∧ 81 + 3 = 84 := ⟨by decide +kernel, rfl⟩
theorem iX5_board_84 : decode cX5_board 84 = .ok (.getfield 97, 3) ∧ 84 + 3 = 87 := ⟨by decide +kernel, rfl⟩
theorem iX5_board_87 : decode cX5_board 87 = .ok (.iload_n 1, 1) ∧ 87 + 1 = 88 := ⟨by decide +kernel, rfl⟩
theorem iX5_board_88 : decode cX5_board 88 = .ok (.aload_n 0, 1) ∧ 88 + 1 = 89 := ⟨by decide +kernel, rfl⟩
theorem iX5_board_89 : decode cX5_board 89 = .ok (.getfield 10, 3) ∧ 89 + 3 = 92 := ⟨by decide +kernel, rfl⟩
theorem iX5_board_92 : decode cX5_board 92 = .ok (.iload_n 1, 1) ∧ 92 + 1 = 93 := ⟨by decide +kernel, rfl⟩
theorem iX5_board_93 : decode cX5_board 93 = .ok (.invokevirtual 101, 3) ∧ 93 + 3 = 96 := ⟨by decide +kernel, rfl⟩
theorem iX5_board_96 : decode cX5_board 96 = .ok (.iastore, 1) ∧ 96 + 1 = 97 := ⟨by decide +kernel, rfl⟩
theorem iX5_board_97 : decode cX5_board 97 = .ok (.aload_n 0, 1) ∧ 97 + 1 = 98 := ⟨by decide +kernel, rfl⟩
theorem iX5_board_98 : decode cX5_board 98 = .ok (.getfield 26, 3) ∧ 98 + 3 = 101 := ⟨by decide +kernel, rfl⟩
theorem iX5_board_101 : decode cX5_board 101 = .ok (.getfield 105, 3) ∧ 101 + 3 = 104 := ⟨by decide +kernel, rfl⟩
theorem iX5_board_104 : decode cX5_board 104 = .ok (.iload_n 1, 1) ∧ 104 + 1 = 105 := ⟨by decide +kernel, rfl⟩
theorem iX5_board_105 : decode cX5_board 105 = .ok (.aload_n 0, 1) ∧ 105 + 1 = 106 := ⟨by decide +kernel, rfl⟩
theorem iX5_board_106 : decode cX5_board 106 = .ok (.getfield 10, 3) ∧ 106 + 3 = 109 := ⟨by decide +kernel, rfl⟩
theorem iX5_board_109 : decode cX5_board 109 = .ok (.iload_n 1, 1) ∧ 109 + 1 = 110 := ⟨by decide +kernel, rfl⟩
theorem iX5_board_110 : decode cX5_board 110 = .ok (.invokevirtual 108, 3) ∧ 110 + 3 = 113 := ⟨by decide +kernel, rfl⟩
theorem iX5_board_113 : decode cX5_board 113 = .ok (.iastore, 1) ∧ 113 + 1 = 114 := ⟨by decide +kernel, rfl⟩
theorem iX5_board_114 : decode cX5_board 114 = .ok (.iinc 1 1, 3) ∧ 114 + 3 = 117 := ⟨by decide +kernel, rfl⟩
theorem iX5_board_117 : decode cX5_board 117 = .ok (.goto (-53), 3) ∧ 117 + 3 = 120 := ⟨by decide +kernel, rfl⟩
theorem iX5_board_120 : decode cX5_board 120 = .ok (.aload_n 0, 1) ∧ 120 + 1 = 121 := ⟨by decide +kernel, rfl⟩
theorem iX5_board_121 : decode cX5_board 121 = .ok (.getfield 26, 3) ∧ 121 + 3 = 124 := ⟨by decide +kernel, rfl⟩
theorem iX5_board_124 : decode cX5_board 124 = .ok (.iconst 0, 1) ∧ 124 + 1 = 125 := ⟨by decide +kernel, rfl⟩
theorem iX5_board_125 : decode cX5_board 125 = .ok (.putfield 111, 3) ∧ 125 + 3 = 128 := ⟨by decide +kernel, rfl⟩
theorem iX5_board_128 : decode cX5_board 128 = .ok (.aload_n 0, 1) ∧ 128 + 1 = 129 := ⟨by decide +kernel, rfl⟩
theorem iX5_board_129 : decode cX5_board 129 = .ok (.getfield 26, 3) ∧ 129 + 3 = 132 := ⟨by decide +kernel, rfl⟩
theorem iX5_board_132 : decode cX5_board 132 = .ok (.iconst 0, 1) ∧ 132 + 1 = 133 := ⟨by decide +kernel, rfl⟩
theorem iX5_board_133 : decode cX5_board 133 = .ok (.putfield 114, 3) ∧ 133 + 3 = 136 := ⟨by decide +kernel, rfl⟩
theorem iX5_board_136 : decode cX5_board 136 = .ok (.aload_n 0, 1) ∧ 136 + 1 = 137 := ⟨by decide +kernel, rfl⟩
theorem iX5_board_137 : decode cX5_board 137 = .ok (.iconst 0, 1) ∧ 137 + 1 = 138 := ⟨by decide +kernel, rfl⟩
theorem iX5_board_138 : decode cX5_board 138 = .ok (.putfield 50, 3) ∧ 138 + 3 = 141 := ⟨by decide +kernel, rfl⟩
theorem iX5_board_141 : decode cX5_board 141 = .ok (.aload_n 0, 1) ∧ 141 + 1 = 142 := ⟨by decide +kernel, rfl⟩
theorem iX5_board_142 : decode cX5_board 142 = .ok (.dup, 1) ∧ 142 + 1 = 143 := ⟨by decide +kernel, rfl⟩
theorem iX5_board_143 : decode cX5_board 143 = .ok (.getfield 54, 3) ∧ 143 + 3 = 146 := ⟨by decide +kernel, rfl⟩
theorem iX5_board_146 : decode cX5_board 146 = .ok (.iconst 1, 1) ∧ 146 + 1 = 147 := ⟨by decide +kernel, rfl⟩
theorem iX5_board_147 : decode cX5_board 147 = .ok (.iadd, 1) ∧ 147 + 1 = 148 := ⟨by decide +kernel, rfl⟩
theorem iX5_board_148 : decode cX5_board 148 = .ok (.putfield 54, 3) ∧ 148 + 3 = 151 := ⟨by decide +kernel, rfl⟩
theorem iX5_board_151 : decode cX5_board 151 = .ok (.aload_n 0, 1) ∧ 151 + 1 = 152 := ⟨by decide +kernel, rfl⟩
theorem iX5_board_152 : decode cX5_board 152 = .ok (.getfield 10, 3) ∧ 152 + 3 = 155 := ⟨by decide +kernel, rfl⟩
theorem iX5_board_155 : decode cX5_board 155 = .ok (.invokevirtual 65, 3) ∧ 155 + 3 = 158 := ⟨by decide +kernel, rfl⟩
theorem iX5_board_158 : decode cX5_board 158 = .ok (.pop, 1) ∧ 158 + 1 = 159 := ⟨by decide +kernel, rfl⟩
theorem iX5_board_159 : decode cX5_board 159 = .ok (.aload_n 0, 1) ∧ 159 + 1 = 160 := ⟨by decide +kernel, rfl⟩
theorem iX5_board_160 : decode cX5_board 160 = .ok (.getfield 19, 3) ∧ 160 + 3 = 163 := ⟨by decide +kernel, rfl⟩
theorem iX5_board_163 : decode cX5_board 163 = .ok (.getfield 117, 3) ∧ 163 + 3 = 166 := ⟨by decide +kernel, rfl⟩
theorem iX5_board_166 : decode cX5_board 166 = .ok (.ireturn, 1) ∧ 166 + 1 = 167 := ⟨by decide +kernel, rfl⟩
theorem iX5_leaper_0 : decode cX5_leaper 0 = .ok (.aload_n 0, 1) ∧ 0 + 1 = 1 := ⟨by decide +kernel, rfl⟩
theorem iX5_leaper_1 : decode cX5_leaper 1 = .ok (.getfield 26, 3) ∧ 1 + 3 = 4 := ⟨by decide +kernel, rfl⟩
theorem iX5_leaper_4 : decode cX5_leaper 4 = .ok (.iload_n 1, 1) ∧ 4 + 1 = 5 := ⟨by decide +kernel, rfl⟩
theorem iX5_leaper_5 : decode cX5_leaper 5 = .ok (.invokevirtual 120, 3) ∧ 5 + 3 = 8 := ⟨by decide +kernel, rfl⟩
theorem iX5_leaper_8 : decode cX5_leaper 8 = .ok (.ifCond .ne 6, 3) ∧ 8 + 3 = 11 := ⟨by decide +kernel, rfl⟩
theorem iX5_leaper_11 : decode cX5_leaper 11 = .ok (.bipush (-101), 2) ∧ 11 + 2 = 13 := ⟨by decide +kernel, rfl⟩
theorem iX5_leaper_13 : decode cX5_leaper 13 = .ok (.ireturn, 1) ∧ 13 + 1 = 14 := ⟨by decide +kernel, rfl⟩
theorem iX5_leaper_14 : decode cX5_leaper 14 = .ok (.iload_n 2, 1) ∧ 14 + 1 = 15 := ⟨by decide +kernel, rfl⟩
theorem iX5_leaper_15 : decode cX5_leaper 15 = .ok (.tableswitch 160 0 7 #[45, 54, 63, 73, 83, 92, 104, 132], 45) ∧ 15 + 45 = 60 := ⟨by decide +kernel, rfl⟩
theorem iX5_leaper_60 : decode cX5_leaper 60 = .ok (.aload_n 0, 1) ∧ 60 + 1 = 61 := ⟨by decide +kernel, rfl⟩
theorem iX5_leaper_61 : decode cX5_leaper 61 = .ok (.getfield 26, 3) ∧ 61 + 3 = 64 := ⟨by decide +kernel, rfl⟩
theorem iX5_leaper_64 : decode cX5_leaper 64 = .ok (.iload_n 1, 1) ∧ 64 + 1 = 65 := ⟨by decide +kernel, rfl⟩
theorem iX5_leaper_65 : decode cX5_leaper 65 = .ok (.invokevirtual 123, 3) ∧ 65 + 3 = 68 := ⟨by decide +kernel, rfl⟩
theorem iX5_leaper_68 : decode cX5_leaper 68 = .ok (.ireturn, 1) ∧ 68 + 1 = 69 := ⟨by decide +kernel, rfl⟩
theorem iX5_leaper_69 : decode cX5_leaper 69 = .ok (.aload_n 0, 1) ∧ 69 + 1 = 70 := ⟨by decide +kernel, rfl⟩
theorem iX5_leaper_70 : decode cX5_leaper 70 = .ok (.getfield 26, 3) ∧ 70 + 3 = 73 := ⟨by decide +kernel, rfl⟩
theorem iX5_leaper_73 : decode cX5_leaper 73 = .ok (.iload_n 1, 1) ∧ 73 + 1 = 74 := ⟨by decide +kernel, rfl⟩
theorem iX5_leaper_74 : decode cX5_leaper 74 = .ok (.invokevirtual 124, 3) ∧ 74 + 3 = 77 := ⟨by decide +kernel, rfl⟩
theorem iX5_leaper_77 : decode cX5_leaper 77 = .ok (.ireturn, 1) ∧ 77 + 1 = 78 := ⟨by decide +kernel, rfl⟩
theorem iX5_leaper_78 : decode cX5_leaper 78 = .ok (.aload_n 0, 1) ∧ 78 + 1 = 79 := ⟨by decide +kernel, rfl⟩
theorem iX5_leaper_79 : decode cX5_leaper 79 = .ok (.aload_n 0, 1) ∧ 79 + 1 = 80 := ⟨by decide +kernel, rfl⟩
theorem iX5_leaper_80 : decode cX5_leaper 80 = .ok (.getfield 26, 3) ∧ 80 + 3 = 83 := ⟨by decide +kernel, rfl⟩
theorem iX5_leaper_83 : decode cX5_leaper 83 = .ok (.iload_n 1, 1) ∧ 83 + 1 = 84 := ⟨by decide +kernel, rfl⟩
theorem iX5_leaper_84 : decode cX5_leaper 84 = .ok (.invokevirtual 125, 3) ∧ 84 + 3 = 87 := ⟨by decide +kernel, rfl⟩
theorem iX5_leaper_87 : decode cX5_leaper 87 = .ok (.ireturn, 1) ∧ 87 + 1 = 88 := ⟨by decide +kernel, rfl⟩
theorem iX5_leaper_88 : decode cX5_leaper 88 = .ok (.aload_n 0, 1) ∧ 88 + 1 = 89 := ⟨by decide +kernel, rfl⟩
theorem iX5_leaper_89 : decode cX5_leaper 89 = .ok (.aload_n 0, 1) ∧ 89 + 1 = 90 := ⟨by decide +kernel, rfl⟩
theorem iX5_leaper_90 : decode cX5_leaper 90 = .ok (.getfield 26, 3) ∧ 90 + 3 = 93 := ⟨by decide +kernel, rfl⟩
theorem iX5_leaper_93 : decode cX5_leaper 93 = .ok (.iload_n 1, 1) ∧ 93 + 1 = 94 := ⟨by decide +kernel, rfl⟩
theorem iX5_leaper_94 : decode cX5_leaper 94 = .ok (.invokevirtual 129, 3) ∧ 94 + 3 = 97 := ⟨by decide +kernel, rfl⟩
theorem iX5_leaper_97 : decode cX5_leaper 97 = .ok (.ireturn, 1) ∧ 97 + 1 = 98 := ⟨by decide +kernel, rfl⟩
theorem iX5_leaper_98 : decode cX5_leaper 98 = .ok (.aload_n 0, 1) ∧ 98 + 1 = 99 := ⟨by decide +kernel, rfl⟩
theorem iX5_leaper_99 : decode cX5_leaper 99 = .ok (.getfield 26, 3) ∧ 99 + 3 = 102 := ⟨by decide +kernel, rfl⟩
theorem iX5_leaper_102 : decode cX5_leaper 102 = .ok (.iload_n 1, 1) ∧ 102 + 1 = 103 := ⟨by decide +kernel, rfl⟩
theorem iX5_leaper_103 : decode cX5_leaper 103 = .ok (.invokevirtual 132, 3) ∧ 103 + 3 = 106 := ⟨by decide +kernel, rfl⟩
theorem iX5_leaper_106 : decode cX5_leaper 106 = .ok (.ireturn, 1) ∧ 106 + 1 = 107 := ⟨by decide +kernel, rfl⟩
theorem iX5_leaper_107 : decode cX5_leaper 107 = .ok (.aload_n 0, 1) ∧ 107 + 1 = 108 := ⟨by decide +kernel, rfl⟩
theorem iX5_leaper_108 : decode cX5_leaper 108 = .ok (.getfield 26, 3) ∧ 108 + 3 = 111 := ⟨by decide +kernel, rfl⟩
theorem iX5_leaper_111 : decode cX5_leaper 111 = .ok (.iload_n 1, 1) ∧ 111 + 1 = 112 := ⟨by decide +kernel, rfl⟩
theorem iX5_leaper_112 : decode cX5_leaper 112 = .ok (.invokevirtual 132, 3) ∧ 112 + 3 = 115 := ⟨by decide +kernel, rfl⟩
theorem iX5_leaper_115 : decode cX5_leaper 115 = .ok (.invokestatic 135, 3) ∧ 115 + 3 = 118 := ⟨by decide +kernel, rfl⟩
theorem iX5_leaper_118 : decode cX5_leaper 118 = .ok (.ireturn, 1) ∧ 118 + 1 = 119 := ⟨by decide +kernel, rfl⟩
theorem iX5_leaper_119 : decode cX5_leaper 119 = .ok (.aload_n 0, 1) ∧ 119 + 1 = 120 := ⟨by decide +kernel, rfl⟩
theorem iX5_leaper_120 : decode cX5_leaper 120 = .ok (.getfield 39, 3) ∧ 120 + 3 = 123 := ⟨by decide +kernel, rfl⟩
theorem iX5_leaper_123 : decode cX5_leaper 123 = .ok (.aload_n 0, 1) ∧ 123 + 1 = 124 := ⟨by decide +kernel, rfl⟩
theorem iX5_leaper_124 : decode cX5_leaper 124 = .ok (.iload_n 1, 1) ∧ 124 + 1 = 125 := ⟨by decide +kernel, rfl⟩
theorem iX5_leaper_125 : decode cX5_leaper 125 = .ok (.invokevirtual 138, 3) ∧ 125 + 3 = 128 := ⟨by decide +kernel, rfl⟩
theorem iX5_leaper_128 : decode cX5_leaper 128 = .ok (.aload_n 0, 1) ∧ 128 + 1 = 129 := ⟨by decide +kernel, rfl⟩
theorem iX5_leaper_129 : decode cX5_leaper 129 = .ok (.getfield 26, 3) ∧ 129 + 3 = 132 := ⟨by decide +kernel, rfl⟩
theorem iX5_leaper_132 : decode cX5_leaper 132 = .ok (.iload_n 1, 1) ∧ 132 + 1 = 133 := ⟨by decide +kernel, rfl⟩
theorem iX5_leaper_133 : decode cX5_leaper 133 = .ok (.invokevirtual 124, 3) ∧ 133 + 3 = 136 := ⟨by decide +kernel, rfl⟩
theorem iX5_leaper_136 : decode cX5_leaper 136 = .ok (.aload_n 0, 1) ∧ 136 + 1 = 137 := ⟨by decide +kernel, rfl⟩
theorem iX5_leaper_137 : decode cX5_leaper 137 = .ok (.getfield 26, 3) ∧ 137 + 3 = 140 := ⟨by decide +kernel, rfl⟩
theorem iX5_leaper_140 : decode cX5_leaper 140 = .ok (.invokevirtual 142, 3) ∧ 140 + 3 = 143 := ⟨by decide +kernel, rfl⟩
theorem iX5_leaper_143 : decode cX5_leaper 143 = .ok (.invokevirtual 145, 3) ∧ 143 + 3 = 146 := ⟨by decide +kernel, rfl⟩
theorem iX5_leaper_146 : decode cX5_leaper 146 = .ok (.ireturn, 1) ∧ 146 + 1 = 147 := ⟨by decide +kernel, rfl⟩
theorem iX5_leaper_147 : decode cX5_leaper 147 = .ok (.aload_n 0, 1) ∧ 147 + 1 = 148 := ⟨by decide +kernel, rfl⟩
theorem iX5_leaper_148 : decode cX5_leaper 148 = .ok (.getfield 39, 3) ∧ 148 + 3 = 151 := ⟨by decide +kernel, rfl⟩
theorem iX5_leaper_151 : decode cX5_leaper 151 = .ok (.aload_n 0, 1) ∧ 151 + 1 = 152 := ⟨by decide +kernel, rfl⟩
theorem iX5_leaper_152 : decode cX5_leaper 152 = .ok (.iload_n 1, 1) ∧ 152 + 1 = 153 := ⟨by decide +kernel, rfl⟩
theorem iX5_leaper_153 : decode cX5_leaper 153 = .ok (.invokevirtual 138, 3) ∧ 153 + 3 = 156 := ⟨by decide +kernel, rfl⟩
theorem iX5_leaper_156 : decode cX5_leaper 156 = .ok (.aload_n 0, 1) ∧ 156 + 1 = 157 := ⟨by decide +kernel, rfl⟩
theorem iX5_leaper_157 : decode cX5_leaper 157 = .ok (.getfield 26, 3) ∧ 157 + 3 = 160 := ⟨by decide +kernel, rfl⟩
theorem iX5_leaper_160 : decode cX5_leaper 160 = .ok (.iload_n 1, 1) ∧ 160 + 1 = 161 := ⟨by decide +kernel, rfl⟩
theorem iX5_leaper_161 : decode cX5_leaper 161 = .ok (.invokevirtual 124, 3) ∧ 161 + 3 = 164 := ⟨by decide +kernel, rfl⟩
theorem iX5_leaper_164 : decode cX5_leaper 164 = .ok (.aload_n 0, 1) ∧ 164 + 1 = 165 := ⟨by decide +kernel, rfl⟩
theorem iX5_leaper_165 : decode cX5_leaper 165 = .ok (.getfield 26, 3) ∧ 165 + 3 = 168 := ⟨by decide +kernel, rfl⟩
theorem iX5_leaper_168 : decode cX5_leaper 168 = .ok (.invokevirtual 142, 3) ∧ 168 + 3 = 171 := ⟨by decide +kernel, rfl⟩
theorem iX5_leaper_171 : decode cX5_leaper 171 = .ok (.invokevirtual 149, 3) ∧ 171 + 3 = 174 := ⟨by decide +kernel, rfl⟩
theorem iX5_leaper_174 : decode cX5_leaper 174 = .ok (.ireturn, 1) ∧ 174 + 1 = 175 := ⟨by decide +kernel, rfl⟩
theorem iX5_leaper_175 : decode cX5_leaper 175 = .ok (.bipush (-102), 2) ∧ 175 + 2 = 177 := ⟨by decide +kernel, rfl⟩
theorem iX5_leaper_177 : decode cX5_leaper 177 = .ok (.ireturn, 1) ∧ 177 + 1 = 178 := ⟨by decide +kernel, rfl⟩
theorem iX5_as_0 : decode cX5_as 0 = .ok (.aload_n 0, 1) ∧ 0 + 1 = 1 := ⟨by decide +kernel, rfl⟩
theorem iX5_as_1 : decode cX5_as 1 = .ok (.getfield 26, 3) ∧ 1 + 3 = 4 := ⟨by decide +kernel, rfl⟩
theorem iX5_as_4 : decode cX5_as 4 = .ok (.iload_n 1, 1) ∧ 4 + 1 = 5 := ⟨by decide +kernel, rfl⟩
theorem iX5_as_5 : decode cX5_as 5 = .ok (.invokevirtual 120, 3) ∧ 5 + 3 = 8 := ⟨by decide +kernel, rfl⟩
theorem iX5_as_8 : decode cX5_as 8 = .ok (.ifCond .ne 6, 3) ∧ 8 + 3 = 11 := ⟨by decide +kernel, rfl⟩
theorem iX5_as_11 : decode cX5_as 11 = .ok (.bipush (-101), 2) ∧ 11 + 2 = 13 := ⟨by decide +kernel, rfl⟩
theorem iX5_as_13 : decode cX5_as 13 = .ok (.ireturn, 1) ∧ 13 + 1 = 14 := ⟨by decide +kernel, rfl⟩
theorem iX5_as_14 : decode cX5_as 14 = .ok (.iload_n 2, 1) ∧ 14 + 1 = 15 := ⟨by decide +kernel, rfl⟩
theorem iX5_as_15 : decode cX5_as 15 = .ok (.invokestatic 152, 3) ∧ 15 + 3 = 18 := ⟨by decide +kernel, rfl⟩
theorem iX5_as_18 : decode cX5_as 18 = .ok (.ifCond .ne 6, 3) ∧ 18 + 3 = 21 := ⟨by decide +kernel, rfl⟩
theorem iX5_as_21 : decode cX5_as 21 = .ok (.bipush (-102), 2) ∧ 21 + 2 = 23 := ⟨by decide +kernel, rfl⟩
theorem iX5_as_23 : decode cX5_as 23 = .ok (.ireturn, 1) ∧ 23 + 1 = 24 := ⟨by decide +kernel, rfl⟩
theorem iX5_as_24 : decode cX5_as 24 = .ok (.aload_n 0, 1) ∧ 24 + 1 = 25 := ⟨by decide +kernel, rfl⟩
theorem iX5_as_25 : decode cX5_as 25 = .ok (.getfield 26, 3) ∧ 25 + 3 = 28 := ⟨by decide +kernel, rfl⟩
theorem iX5_as_28 : decode cX5_as 28 = .ok (.iload_n 1, 1) ∧ 28 + 1 = 29 := ⟨by decide +kernel, rfl⟩
theorem iX5_as_29 : decode cX5_as 29 = .ok (.invokevirtual 123, 3) ∧ 29 + 3 = 32 := ⟨by decide +kernel, rfl⟩
theorem iX5_as_32 : decode cX5_as 32 = .ok (.istore_n 3, 1) ∧ 32 + 1 = 33 := ⟨by decide +kernel, rfl⟩
theorem iX5_as_33 : decode cX5_as 33 = .ok (.iload_n 2, 1) ∧ 33 + 1 = 34 := ⟨by decide +kernel, rfl⟩
theorem iX5_as_34 : decode cX5_as 34 = .ok (.ifCond .eq 18, 3) ∧ 34 + 3 = 37 := ⟨by decide +kernel, rfl⟩
theorem iX5_as_37 : decode cX5_as 37 = .ok (.iload_n 2, 1) ∧ 37 + 1 = 38 := ⟨by decide +kernel, rfl⟩
theorem iX5_as_38 : decode cX5_as 38 = .ok (.iload_n 3, 1) ∧ 38 + 1 = 39 := ⟨by decide +kernel, rfl⟩
theorem iX5_as_39 : decode cX5_as 39 = .ok (.if_icmp .eq 13, 3) ∧ 39 + 3 = 42 := ⟨by decide +kernel, rfl⟩
theorem iX5_as_42 : decode cX5_as 42 = .ok (.iload_n 2, 1) ∧ 42 + 1 = 43 := ⟨by decide +kernel, rfl⟩
theorem iX5_as_43 : decode cX5_as 43 = .ok (.iconst 1, 1) ∧ 43 + 1 = 44 := ⟨by decide +kernel, rfl⟩
theorem iX5_as_44 : decode cX5_as 44 = .ok (.if_icmp .ne 12, 3) ∧ 44 + 3 = 47 := ⟨by decide +kernel, rfl⟩
theorem iX5_as_47 : decode cX5_as 47 = .ok (.iload_n 3, 1) ∧ 47 + 1 = 48 := ⟨by decide +kernel, rfl⟩
theorem iX5_as_48 : decode cX5_as 48 = .ok (.iconst 4, 1) ∧ 48 + 1 = 49 := ⟨by decide +kernel, rfl⟩
theorem iX5_as_49 : decode cX5_as 49 = .ok (.if_icmp .ne 7, 3) ∧ 49 + 3 = 52 := ⟨by decide +kernel, rfl⟩
theorem iX5_as_52 : decode cX5_as 52 = .ok (.iconst 1, 1) ∧ 52 + 1 = 53 := ⟨by decide +kernel, rfl⟩
theorem iX5_as_53 : decode cX5_as 53 = .ok (.goto 4, 3) ∧ 53 + 3 = 56 := ⟨by decide +kernel, rfl⟩
theorem iX5_as_56 : decode cX5_as 56 = .ok (.iconst 0, 1) ∧ 56 + 1 = 57 := ⟨by decide +kernel, rfl⟩
theorem iX5_as_57 : decode cX5_as 57 = .ok (.istore 4, 2) ∧ 57 + 2 = 59 := ⟨by decide +kernel, rfl⟩
theorem iX5_as_59 : decode cX5_as 59 = .ok (.iload 4, 2) ∧ 59 + 2 = 61 := ⟨by decide +kernel, rfl⟩
theorem iX5_as_61 : decode cX5_as 61 = .ok (.ifCond .eq 7, 3) ∧ 61 + 3 = 64 := ⟨by decide +kernel, rfl⟩
theorem iX5_as_64 : decode cX5_as 64 = .ok (.iload_n 1, 1) ∧ 64 + 1 = 65 := ⟨by decide +kernel, rfl⟩
theorem iX5_as_65 : decode cX5_as 65 = .ok (.goto 4, 3) ∧ 65 + 3 = 68 := ⟨by decide +kernel, rfl⟩
theorem iX5_as_68 : decode cX5_as 68 = .ok (.iconst (-1), 1) ∧ 68 + 1 = 69 := ⟨by decide +kernel, rfl⟩
theorem iX5_as_69 : decode cX5_as 69 = .ok (.ireturn, 1) ∧ 69 + 1 = 70 := ⟨by decide +kernel, rfl⟩
theorem iX5_cell_0 : decode cX5_cell 0 = .ok (.aload_n 0, 1) ∧ 0 + 1 = 1 := ⟨by decide +kernel, rfl⟩
theorem iX5_cell_1 : decode cX5_cell 1 = .ok (.getfield 19, 3) ∧ 1 + 3 = 4 := ⟨by decide +kernel, rfl⟩
theorem iX5_cell_4 : decode cX5_cell 4 = .ok (.iload_n 1, 1) ∧ 4 + 1 = 5 := ⟨by decide +kernel, rfl⟩
theorem iX5_cell_5 : decode cX5_cell 5 = .ok (.invokevirtual 155, 3) ∧ 5 + 3 = 8 := ⟨by decide +kernel, rfl⟩
theorem iX5_cell_8 : decode cX5_cell 8 = .ok (.ifCond .ne 6, 3) ∧ 8 + 3 = 11 := ⟨by decide +kernel, rfl⟩
theorem iX5_cell_11 : decode cX5_cell 11 = .ok (.bipush (-101), 2) ∧ 11 + 2 = 13 := ⟨by decide +kernel, rfl⟩
theorem iX5_cell_13 : decode cX5_cell 13 = .ok (.ireturn, 1) ∧ 13 + 1 = 14 := ⟨by decide +kernel, rfl⟩
theorem iX5_cell_14 : decode cX5_cell 14 = .ok (.iload_n 2, 1) ∧ 14 + 1 = 15 := ⟨by decide +kernel, rfl⟩
theorem iX5_cell_15 : decode cX5_cell 15 = .ok (.tableswitch 60 0 2 #[25, 45, 54], 25) ∧ 15 + 25 = 40 := ⟨by decide +kernel, rfl⟩
theorem iX5_cell_40 : decode cX5_cell 40 = .ok (.aload_n 0, 1) ∧ 40 + 1 = 41 := ⟨by decide +kernel, rfl⟩
theorem iX5_cell_41 : decode cX5_cell 41 = .ok (.getfield 26, 3) ∧ 41 + 3 = 44 := ⟨by decide +kernel, rfl⟩
theorem iX5_cell_44 : decode cX5_cell 44 = .ok (.getfield 89, 3) ∧ 44 + 3 = 47 := ⟨by decide +kernel, rfl⟩
theorem iX5_cell_47 : decode cX5_cell 47 = .ok (.iload_n 1, 1) ∧ 47 + 1 = 48 := ⟨by decide +kernel, rfl⟩
theorem iX5_cell_48 : decode cX5_cell 48 = .ok (.invokestatic 158, 3) ∧ 48 + 3 = 51 := ⟨by decide +kernel, rfl⟩
theorem iX5_cell_51 : decode cX5_cell 51 = .ok (.ifCond .eq 7, 3) ∧ 51 + 3 = 54 := ⟨by decide +kernel, rfl⟩
theorem iX5_cell_54 : decode cX5_cell 54 = .ok (.iconst 1, 1) ∧ 54 + 1 = 55 := ⟨by decide +kernel, rfl⟩
theorem iX5_cell_55 : decode cX5_cell 55 = .ok (.goto 4, 3) ∧ 55 + 3 = 58 := ⟨by decide +kernel, rfl⟩
theorem iX5_cell_58 : decode cX5_cell 58 = .ok (.iconst 0, 1) ∧ 58 + 1 = 59 := ⟨by decide +kernel, rfl⟩
theorem iX5_cell_59 : decode cX5_cell 59 = .ok (.ireturn, 1) ∧ 59 + 1 = 60 := ⟨by decide +kernel, rfl⟩
theorem iX5_cell_60 : decode cX5_cell 60 = .ok (.aload_n 0, 1) ∧ 60 + 1 = 61 := ⟨by decide +kernel, rfl⟩
theorem iX5_cell_61 : decode cX5_cell 61 = .ok (.getfield 26, 3) ∧ 61 + 3 = 64 := ⟨by decide +kernel, rfl⟩
theorem iX5_cell_64 : decode cX5_cell 64 = .ok (.iload_n 1, 1) ∧ 64 + 1 = 65 := ⟨by decide +kernel, rfl⟩
theorem iX5_cell_65 : decode cX5_cell 65 = .ok (.invokevirtual 162, 3) ∧ 65 + 3 = 68 := ⟨by decide +kernel, rfl⟩
theorem iX5_cell_68 : decode cX5_cell 68 = .ok (.ireturn, 1) ∧ 68 + 1 = 69 := ⟨by decide +kernel, rfl⟩
theorem iX5_cell_69 : decode cX5_cell 69 = .ok (.aload_n 0, 1) ∧ 69 + 1 = 70 := ⟨by decide +kernel, rfl⟩
theorem iX5_cell_70 : decode cX5_cell 70 = .ok (.iload_n 1, 1) ∧ 70 + 1 = 71 := ⟨by decide +kernel, rfl⟩
theorem iX5_cell_71 : decode cX5_cell 71 = .ok (.invokevirtual 165, 3) ∧ 71 + 3 = 74 := ⟨by decide +kernel, rfl⟩
theorem iX5_cell_74 : decode cX5_cell 74 = .ok (.ireturn, 1) ∧ 74 + 1 = 75 := ⟨by decide +kernel, rfl⟩
theorem iX5_cell_75 : decode cX5_cell 75 = .ok (.bipush (-102), 2) ∧ 75 + 2 = 77 := ⟨by decide +kernel, rfl⟩
theorem iX5_cell_77 : decode cX5_cell 77 = .ok (.ireturn, 1) ∧ 77 + 1 = 78 := ⟨by decide +kernel, rfl⟩
theorem iX5_leap_0 : decode cX5_leap 0 = .ok (.aload_n 0, 1) ∧ 0 + 1 = 1 := ⟨by decide +kernel, rfl⟩
theorem iX5_leap_1 : decode cX5_leap 1 = .ok (.getfield 26, 3) ∧ 1 + 3 = 4 := ⟨by decide +kernel, rfl⟩
theorem iX5_leap_4 : decode cX5_leap 4 = .ok (.iload_n 1, 1) ∧ 4 + 1 = 5 := ⟨by decide +kernel, rfl⟩
theorem iX5_leap_5 : decode cX5_leap 5 = .ok (.invokevirtual 120, 3) ∧ 5 + 3 = 8 := ⟨by decide +kernel, rfl⟩
theorem iX5_leap_8 : decode cX5_leap 8 = .ok (.ifCond .eq 14, 3) ∧ 8 + 3 = 11 := ⟨by decide +kernel, rfl⟩
theorem iX5_leap_11 : decode cX5_leap 11 = .ok (.aload_n 0, 1) ∧ 11 + 1 = 12 := ⟨by decide +kernel, rfl⟩
theorem iX5_leap_12 : decode cX5_leap 12 = .ok (.getfield 19, 3) ∧ 12 + 3 = 15 := ⟨by decide +kernel, rfl⟩
theorem iX5_leap_15 : decode cX5_leap 15 = .ok (.iload_n 2, 1) ∧ 15 + 1 = 16 := ⟨by decide +kernel, rfl⟩
theorem iX5_leap_16 : decode cX5_leap 16 = .ok (.invokevirtual 155, 3) ∧ 16 + 3 = 19 := ⟨by decide +kernel, rfl⟩
theorem iX5_leap_19 : decode cX5_leap 19 = .ok (.ifCond .ne 6, 3) ∧ 19 + 3 = 22 := ⟨by decide +kernel, rfl⟩
theorem iX5_leap_22 : decode cX5_leap 22 = .ok (.bipush (-101), 2) ∧ 22 + 2 = 24 := ⟨by decide +kernel, rfl⟩
theorem iX5_leap_24 : decode cX5_leap 24 = .ok (.ireturn, 1) ∧ 24 + 1 = 25 := ⟨by decide +kernel, rfl⟩
theorem iX5_leap_25 : decode cX5_leap 25 = .ok (.aload_n 0, 1) ∧ 25 + 1 = 26 := ⟨by decide +kernel, rfl⟩
theorem iX5_leap_26 : decode cX5_leap 26 = .ok (.aload_n 0, 1) ∧ 26 + 1 = 27 := ⟨by decide +kernel, rfl⟩
theorem iX5_leap_27 : decode cX5_leap 27 = .ok (.getfield 26, 3) ∧ 27 + 3 = 30 := ⟨by decide +kernel, rfl⟩
theorem iX5_leap_30 : decode cX5_leap 30 = .ok (.iload_n 1, 1) ∧ 30 + 1 = 31 := ⟨by decide +kernel, rfl⟩
theorem iX5_leap_31 : decode cX5_leap 31 = .ok (.invokevirtual 129, 3) ∧ 31 + 3 = 34 := ⟨by decide +kernel, rfl⟩
theorem iX5_leap_34 : decode cX5_leap 34 = .ok (.iload_n 2, 1) ∧ 34 + 1 = 35 := ⟨by decide +kernel, rfl⟩
theorem iX5_leap_35 : decode cX5_leap 35 = .ok (.invokestatic 158, 3) ∧ 35 + 3 = 38 := ⟨by decide +kernel, rfl⟩
theorem iX5_leap_38 : decode cX5_leap 38 = .ok (.ifCond .ne 6, 3) ∧ 38 + 3 = 41 := ⟨by decide +kernel, rfl⟩
theorem iX5_leap_41 : decode cX5_leap 41 = .ok (.bipush (-103), 2) ∧ 41 + 2 = 43 := ⟨by decide +kernel, rfl⟩
theorem iX5_leap_43 : decode cX5_leap 43 = .ok (.ireturn, 1) ∧ 43 + 1 = 44 := ⟨by decide +kernel, rfl⟩
theorem iX5_leap_44 : decode cX5_leap 44 = .ok (.aload_n 0, 1) ∧ 44 + 1 = 45 := ⟨by decide +kernel, rfl⟩
theorem iX5_leap_45 : decode cX5_leap 45 = .ok (.getfield 26, 3) ∧ 45 + 3 = 48 := ⟨by decide +kernel, rfl⟩
theorem iX5_leap_48 : decode cX5_leap 48 = .ok (.getfield 111, 3) ∧ 48 + 3 = 51 := ⟨by decide +kernel, rfl⟩
theorem iX5_leap_51 : decode cX5_leap 51 = .ok (.sipush 999, 3) ∧ 51 + 3 = 54 := ⟨by decide +kernel, rfl⟩
theorem iX5_leap_54 : decode cX5_leap 54 = .ok (.if_icmp .lt 6, 3) ∧ 54 + 3 = 57 := ⟨by decide +kernel, rfl⟩
theorem iX5_leap_57 : decode cX5_leap 57 = .ok (.bipush (-104), 2) ∧ 57 + 2 = 59 := ⟨by decide +kernel, rfl⟩
theorem iX5_leap_59 : decode cX5_leap 59 = .ok (.ireturn, 1) ∧ 59 + 1 = 60 := ⟨by decide +kernel, rfl⟩
theorem iX5_leap_60 : decode cX5_leap 60 = .ok (.aload_n 0, 1) ∧ 60 + 1 = 61 := ⟨by decide +kernel, rfl⟩
theorem iX5_leap_61 : decode cX5_leap 61 = .ok (.getfield 26, 3) ∧ 61 + 3 = 64 := ⟨by decide +kernel, rfl⟩
theorem iX5_leap_64 : decode cX5_leap 64 = .ok (.getfield 105, 3) ∧ 64 + 3 = 67 := ⟨by decide +kernel, rfl⟩
theorem iX5_leap_67 : decode cX5_leap 67 = .ok (.iload_n 1, 1) ∧ 67 + 1 = 68 := ⟨by decide +kernel, rfl⟩
theorem iX5_leap_68 : decode cX5_leap 68 = .ok (.iload_n 2, 1) ∧ 68 + 1 = 69 := ⟨by decide +kernel, rfl⟩
theorem iX5_leap_69 : decode cX5_leap 69 = .ok (.iastore, 1) ∧ 69 + 1 = 70 := ⟨by decide +kernel, rfl⟩
theorem iX5_leap_70 : decode cX5_leap 70 = .ok (.aload_n 0, 1) ∧ 70 + 1 = 71 := ⟨by decide +kernel, rfl⟩
theorem iX5_leap_71 : decode cX5_leap 71 = .ok (.getfield 26, 3) ∧ 71 + 3 = 74 := ⟨by decide +kernel, rfl⟩
theorem iX5_leap_74 : decode cX5_leap 74 = .ok (.dup, 1) ∧ 74 + 1 = 75 := ⟨by decide +kernel, rfl⟩
theorem iX5_leap_75 : decode cX5_leap 75 = .ok (.getfield 111, 3) ∧ 75 + 3 = 78 := ⟨by decide +kernel, rfl⟩
theorem iX5_leap_78 : decode cX5_leap 78 = .ok (.iconst 1, 1) ∧ 78 + 1 = 79 := ⟨by decide +kernel, rfl⟩
theorem iX5_leap_79 : decode cX5_leap 79 = .ok (.iadd, 1) ∧ 79 + 1 = 80 := ⟨by decide +kernel, rfl⟩
theorem iX5_leap_80 : decode cX5_leap 80 = .ok (.putfield 111, 3) ∧ 80 + 3 = 83 := ⟨by decide +kernel, rfl⟩
theorem iX5_leap_83 : decode cX5_leap 83 = .ok (.aload_n 0, 1) ∧ 83 + 1 = 84 := ⟨by decide +kernel, rfl⟩
theorem iX5_leap_84 : decode cX5_leap 84 = .ok (.getfield 26, 3) ∧ 84 + 3 = 87 := ⟨by decide +kernel, rfl⟩
theorem iX5_leap_87 : decode cX5_leap 87 = .ok (.getfield 111, 3) ∧ 87 + 3 = 90 := ⟨by decide +kernel, rfl⟩
theorem iX5_leap_90 : decode cX5_leap 90 = .ok (.ireturn, 1) ∧ 90 + 1 = 91 := ⟨by decide +kernel, rfl⟩
theorem iX5_dig_0 : decode cX5_dig 0 = .ok (.aload_n 0, 1) ∧ 0 + 1 = 1 := ⟨by decide +kernel, rfl⟩
theorem iX5_dig_1 : decode cX5_dig 1 = .ok (.getfield 19, 3) ∧ 1 + 3 = 4 := ⟨by decide +kernel, rfl⟩
theorem iX5_dig_4 : decode cX5_dig 4 = .ok (.iload_n 1, 1) ∧ 4 + 1 = 5 := ⟨by decide +kernel, rfl⟩
theorem iX5_dig_5 : decode cX5_dig 5 = .ok (.invokevirtual 155, 3) ∧ 5 + 3 = 8 := ⟨by decide +kernel, rfl⟩
theorem iX5_dig_8 : decode cX5_dig 8 = .ok (.ifCond .ne 6, 3) ∧ 8 + 3 = 11 := ⟨by decide +kernel, rfl⟩
theorem iX5_dig_11 : decode cX5_dig 11 = .ok (.bipush (-101), 2) ∧ 11 + 2 = 13 := ⟨by decide +kernel, rfl⟩
theorem iX5_dig_13 : decode cX5_dig 13 = .ok (.ireturn, 1) ∧ 13 + 1 = 14 := ⟨by decide +kernel, rfl⟩
theorem iX5_dig_14 : decode cX5_dig 14 = .ok (.aload_n 0, 1) ∧ 14 + 1 = 15 := ⟨by decide +kernel, rfl⟩
theorem iX5_dig_15 : decode cX5_dig 15 = .ok (.getfield 26, 3) ∧ 15 + 3 = 18 := ⟨by decide +kernel, rfl⟩
theorem iX5_dig_18 : decode cX5_dig 18 = .ok (.invokevirtual 142, 3) ∧ 18 + 3 = 21 := ⟨by decide +kernel, rfl⟩
theorem iX5_dig_21 : decode cX5_dig 21 = .ok (.iload_n 1, 1) ∧ 21 + 1 = 22 := ⟨by decide +kernel, rfl⟩
theorem iX5_dig_22 : decode cX5_dig 22 = .ok (.invokestatic 158, 3) ∧ 22 + 3 = 25 := ⟨by decide +kernel, rfl⟩
theorem iX5_dig_25 : decode cX5_dig 25 = .ok (.ifCond .ne 6, 3) ∧ 25 + 3 = 28 := ⟨by decide +kernel, rfl⟩
theorem iX5_dig_28 : decode cX5_dig 28 = .ok (.bipush (-103), 2) ∧ 28 + 2 = 30 := ⟨by decide +kernel, rfl⟩
theorem iX5_dig_30 : decode cX5_dig 30 = .ok (.ireturn, 1) ∧ 30 + 1 = 31 := ⟨by decide +kernel, rfl⟩
theorem iX5_dig_31 : decode cX5_dig 31 = .ok (.aload_n 0, 1) ∧ 31 + 1 = 32 := ⟨by decide +kernel, rfl⟩
theorem iX5_dig_32 : decode cX5_dig 32 = .ok (.getfield 26, 3) ∧ 32 + 3 = 35 := ⟨by decide +kernel, rfl⟩
theorem iX5_dig_35 : decode cX5_dig 35 = .ok (.dup, 1) ∧ 35 + 1 = 36 := ⟨by decide +kernel, rfl⟩
theorem iX5_dig_36 : decode cX5_dig 36 = .ok (.getfield 89, 3) ∧ 36 + 3 = 39 := ⟨by decide +kernel, rfl⟩
theorem iX5_dig_39 : decode cX5_dig 39 = .ok (.iconst 1, 1) ∧ 39 + 1 = 40 := ⟨by decide +kernel, rfl⟩
theorem iX5_dig_40 : decode cX5_dig 40 = .ok (.iload_n 1, 1) ∧ 40 + 1 = 41 := ⟨by decide +kernel, rfl⟩
theorem iX5_dig_41 : decode cX5_dig 41 = .ok (.ishl, 1) ∧ 41 + 1 = 42 := ⟨by decide +kernel, rfl⟩
theorem iX5_dig_42 : decode cX5_dig 42 = .ok (.iconst (-1), 1) ∧ 42 + 1 = 43 := ⟨by decide +kernel, rfl⟩
theorem iX5_dig_43 : decode cX5_dig 43 = .ok (.ixor, 1) ∧ 43 + 1 = 44 := ⟨by decide +kernel, rfl⟩
theorem iX5_dig_44 : decode cX5_dig 44 = .ok (.iand, 1) ∧ 44 + 1 = 45 := ⟨by decide +kernel, rfl⟩
theorem iX5_dig_45 : decode cX5_dig 45 = .ok (.putfield 89, 3) ∧ 45 + 3 = 48 := ⟨by decide +kernel, rfl⟩
theorem iX5_dig_48 : decode cX5_dig 48 = .ok (.aload_n 0, 1) ∧ 48 + 1 = 49 := ⟨by decide +kernel, rfl⟩
theorem iX5_dig_49 : decode cX5_dig 49 = .ok (.getfield 26, 3) ∧ 49 + 3 = 52 := ⟨by decide +kernel, rfl⟩
theorem iX5_dig_52 : decode cX5_dig 52 = .ok (.getfield 89, 3) ∧ 52 + 3 = 55 := ⟨by decide +kernel, rfl⟩
theorem iX5_dig_55 : decode cX5_dig 55 = .ok (.invokestatic 168, 3) ∧ 55 + 3 = 58 := ⟨by decide +kernel, rfl⟩
theorem iX5_dig_58 : decode cX5_dig 58 = .ok (.ireturn, 1) ∧ 58 + 1 = 59 := ⟨by decide +kernel, rfl⟩
theorem iX5_fill_0 : decode cX5_fill 0 = .ok (.aload_n 0, 1) ∧ 0 + 1 = 1 := ⟨by decide +kernel, rfl⟩
theorem iX5_fill_1 : decode cX5_fill 1 = .ok (.getfield 19, 3) ∧ 1 + 3 = 4 := ⟨by decide +kernel, rfl⟩
theorem iX5_fill_4 : decode cX5_fill 4 = .ok (.iload_n 1, 1) ∧ 4 + 1 = 5 := ⟨by decide +kernel, rfl⟩
theorem iX5_fill_5 : decode cX5_fill 5 = .ok (.invokevirtual 155, 3) ∧ 5 + 3 = 8 := ⟨by decide +kernel, rfl⟩
theorem iX5_fill_8 : decode cX5_fill 8 = .ok (.ifCond .ne 6, 3) ∧ 8 + 3 = 11 := ⟨by decide +kernel, rfl⟩
theorem iX5_fill_11 : decode cX5_fill 11 = .ok (.bipush (-101), 2) ∧ 11 + 2 = 13 := ⟨by decide +kernel, rfl⟩
theorem iX5_fill_13 : decode cX5_fill 13 = .ok (.ireturn, 1) ∧ 13 + 1 = 14 := ⟨by decide +kernel, rfl⟩
theorem iX5_fill_14 : decode cX5_fill 14 = .ok (.aload_n 0, 1) ∧ 14 + 1 = 15 := ⟨by decide +kernel, rfl⟩
theorem iX5_fill_15 : decode cX5_fill 15 = .ok (.getfield 26, 3) ∧ 15 + 3 = 18 := ⟨by decide +kernel, rfl⟩
theorem iX5_fill_18 : decode cX5_fill 18 = .ok (.getfield 89, 3) ∧ 18 + 3 = 21 := ⟨by decide +kernel, rfl⟩
theorem iX5_fill_21 : decode cX5_fill 21 = .ok (.iload_n 1, 1) ∧ 21 + 1 = 22 := ⟨by decide +kernel, rfl⟩
theorem iX5_fill_22 : decode cX5_fill 22 = .ok (.invokestatic 158, 3) ∧ 22 + 3 = 25 := ⟨by decide +kernel, rfl⟩
theorem iX5_fill_25 : decode cX5_fill 25 = .ok (.ifCond .eq 6, 3) ∧ 25 + 3 = 28 := ⟨by decide +kernel, rfl⟩
theorem iX5_fill_28 : decode cX5_fill 28 = .ok (.bipush (-103), 2) ∧ 28 + 2 = 30 := ⟨by decide +kernel, rfl⟩
theorem iX5_fill_30 : decode cX5_fill 30 = .ok (.ireturn, 1) ∧ 30 + 1 = 31 := ⟨by decide +kernel, rfl⟩
theorem iX5_fill_31 : decode cX5_fill 31 = .ok (.aload_n 0, 1) ∧ 31 + 1 = 32 := ⟨by decide +kernel, rfl⟩
theorem iX5_fill_32 : decode cX5_fill 32 = .ok (.getfield 26, 3) ∧ 32 + 3 = 35 := ⟨by decide +kernel, rfl⟩
theorem iX5_fill_35 : decode cX5_fill 35 = .ok (.dup, 1) ∧ 35 + 1 = 36 := ⟨by decide +kernel, rfl⟩
theorem iX5_fill_36 : decode cX5_fill 36 = .ok (.getfield 89, 3) ∧ 36 + 3 = 39 := ⟨by decide +kernel, rfl⟩
theorem iX5_fill_39 : decode cX5_fill 39 = .ok (.iconst 1, 1) ∧ 39 + 1 = 40 := ⟨by decide +kernel, rfl⟩
theorem iX5_fill_40 : decode cX5_fill 40 = .ok (.iload_n 1, 1) ∧ 40 + 1 = 41 := ⟨by decide +kernel, rfl⟩
theorem iX5_fill_41 : decode cX5_fill 41 = .ok (.ishl, 1) ∧ 41 + 1 = 42 := ⟨by decide +kernel, rfl⟩
theorem iX5_fill_42 : decode cX5_fill 42 = .ok (.ior, 1) ∧ 42 + 1 = 43 := ⟨by decide +kernel, rfl⟩
theorem iX5_fill_43 : decode cX5_fill 43 = .ok (.putfield 89, 3) ∧ 43 + 3 = 46 := ⟨by decide +kernel, rfl⟩
theorem iX5_fill_46 : decode cX5_fill 46 = .ok (.aload_n 0, 1) ∧ 46 + 1 = 47 := ⟨by decide +kernel, rfl⟩
theorem iX5_fill_47 : decode cX5_fill 47 = .ok (.getfield 26, 3) ∧ 47 + 3 = 50 := ⟨by decide +kernel, rfl⟩
theorem iX5_fill_50 : decode cX5_fill 50 = .ok (.getfield 89, 3) ∧ 50 + 3 = 53 := ⟨by decide +kernel, rfl⟩
theorem iX5_fill_53 : decode cX5_fill 53 = .ok (.invokestatic 168, 3) ∧ 53 + 3 = 56 := ⟨by decide +kernel, rfl⟩
theorem iX5_fill_56 : decode cX5_fill 56 = .ok (.ireturn, 1) ∧ 56 + 1 = 57 := ⟨by decide +kernel, rfl⟩
theorem iX5_be_0 : decode cX5_be 0 = .ok (.aload_n 0, 1) ∧ 0 + 1 = 1 := ⟨by decide +kernel, rfl⟩
theorem iX5_be_1 : decode cX5_be 1 = .ok (.getfield 26, 3) ∧ 1 + 3 = 4 := ⟨by decide +kernel, rfl⟩
theorem iX5_be_4 : decode cX5_be 4 = .ok (.iload_n 1, 1) ∧ 4 + 1 = 5 := ⟨by decide +kernel, rfl⟩
theorem iX5_be_5 : decode cX5_be 5 = .ok (.invokevirtual 120, 3) ∧ 5 + 3 = 8 := ⟨by decide +kernel, rfl⟩
theorem iX5_be_8 : decode cX5_be 8 = .ok (.ifCond .ne 6, 3) ∧ 8 + 3 = 11 := ⟨by decide +kernel, rfl⟩
theorem iX5_be_11 : decode cX5_be 11 = .ok (.bipush (-101), 2) ∧ 11 + 2 = 13 := ⟨by decide +kernel, rfl⟩
theorem iX5_be_13 : decode cX5_be 13 = .ok (.ireturn, 1) ∧ 13 + 1 = 14 := ⟨by decide +kernel, rfl⟩
theorem iX5_be_14 : decode cX5_be 14 = .ok (.iload_n 2, 1) ∧ 14 + 1 = 15 := ⟨by decide +kernel, rfl⟩
theorem iX5_be_15 : decode cX5_be 15 = .ok (.invokestatic 152, 3) ∧ 15 + 3 = 18 := ⟨by decide +kernel, rfl⟩
theorem iX5_be_18 : decode cX5_be 18 = .ok (.ifCond .ne 6, 3) ∧ 18 + 3 = 21 := ⟨by decide +kernel, rfl⟩
theorem iX5_be_21 : decode cX5_be 21 = .ok (.bipush (-102), 2) ∧ 21 + 2 = 23 := ⟨by decide +kernel, rfl⟩
theorem iX5_be_23 : decode cX5_be 23 = .ok (.ireturn, 1) ∧ 23 + 1 = 24 := ⟨by decide +kernel, rfl⟩
theorem iX5_be_24 : decode cX5_be 24 = .ok (.aload_n 0, 1) ∧ 24 + 1 = 25 := ⟨by decide +kernel, rfl⟩
theorem iX5_be_25 : decode cX5_be 25 = .ok (.getfield 26, 3) ∧ 25 + 3 = 28 := ⟨by decide +kernel, rfl⟩
theorem iX5_be_28 : decode cX5_be 28 = .ok (.iload_n 1, 1) ∧ 28 + 1 = 29 := ⟨by decide +kernel, rfl⟩
theorem iX5_be_29 : decode cX5_be 29 = .ok (.invokevirtual 123, 3) ∧ 29 + 3 = 32 := ⟨by decide +kernel, rfl⟩
theorem iX5_be_32 : decode cX5_be 32 = .ok (.istore_n 3, 1) ∧ 32 + 1 = 33 := ⟨by decide +kernel, rfl⟩
theorem iX5_be_33 : decode cX5_be 33 = .ok (.aload_n 0, 1) ∧ 33 + 1 = 34 := ⟨by decide +kernel, rfl⟩
theorem iX5_be_34 : decode cX5_be 34 = .ok (.getfield 26, 3) ∧ 34 + 3 = 37 := ⟨by decide +kernel, rfl⟩
theorem iX5_be_37 : decode cX5_be 37 = .ok (.getfield 97, 3) ∧ 37 + 3 = 40 := ⟨by decide +kernel, rfl⟩
theorem iX5_be_40 : decode cX5_be 40 = .ok (.iload_n 1, 1) ∧ 40 + 1 = 41 := ⟨by decide +kernel, rfl⟩
theorem iX5_be_41 : decode cX5_be 41 = .ok (.iload_n 2, 1) ∧ 41 + 1 = 42 := ⟨by decide +kernel, rfl⟩
theorem iX5_be_42 : decode cX5_be 42 = .ok (.iastore, 1) ∧ 42 + 1 = 43 := ⟨by decide +kernel, rfl⟩
theorem iX5_be_43 : decode cX5_be 43 = .ok (.iload_n 3, 1) ∧ 43 + 1 = 44 := ⟨by decide +kernel, rfl⟩
theorem iX5_be_44 : decode cX5_be 44 = .ok (.ireturn, 1) ∧ 44 + 1 = 45 := ⟨by decide +kernel, rfl⟩
theorem iX5_hops_0 : decode cX5_hops 0 = .ok (.aload_n 0, 1) ∧ 0 + 1 = 1 := ⟨by decide +kernel, rfl⟩
theorem iX5_hops_1 : decode cX5_hops 1 = .ok (.getfield 26, 3) ∧ 1 + 3 = 4 := ⟨by decide +kernel, rfl⟩
theorem iX5_hops_4 : decode cX5_hops 4 = .ok (.iload_n 1, 1) ∧ 4 + 1 = 5 := ⟨by decide +kernel, rfl⟩
theorem iX5_hops_5 : decode cX5_hops 5 = .ok (.invokevirtual 120, 3) ∧ 5 + 3 = 8 := ⟨by decide +kernel, rfl⟩
theorem iX5_hops_8 : decode cX5_hops 8 = .ok (.ifCond .eq 14, 3) ∧ 8 + 3 = 11 := ⟨by decide +kernel, rfl⟩
theorem iX5_hops_11 : decode cX5_hops 11 = .ok (.aload_n 0, 1) ∧ 11 + 1 = 12 := ⟨by decide +kernel, rfl⟩
theorem iX5_hops_12 : decode cX5_hops 12 = .ok (.getfield 19, 3) ∧ 12 + 3 = 15 := ⟨by decide +kernel, rfl⟩
theorem iX5_hops_15 : decode cX5_hops 15 = .ok (.iload_n 2, 1) ∧ 15 + 1 = 16 := ⟨by decide +kernel, rfl⟩
theorem iX5_hops_16 : decode cX5_hops 16 = .ok (.invokevirtual 155, 3) ∧ 16 + 3 = 19 := ⟨by decide +kernel, rfl⟩
theorem iX5_hops_19 : decode cX5_hops 19 = .ok (.ifCond .ne 6, 3) ∧ 19 + 3 = 22 := ⟨by decide +kernel, rfl⟩
theorem iX5_hops_22 : decode cX5_hops 22 = .ok (.bipush (-101), 2) ∧ 22 + 2 = 24 := ⟨by decide +kernel, rfl⟩
theorem iX5_hops_24 : decode cX5_hops 24 = .ok (.ireturn, 1) ∧ 24 + 1 = 25 := ⟨by decide +kernel, rfl⟩
theorem iX5_hops_25 : decode cX5_hops 25 = .ok (.aload_n 0, 1) ∧ 25 + 1 = 26 := ⟨by decide +kernel, rfl⟩
theorem iX5_hops_26 : decode cX5_hops 26 = .ok (.getfield 26, 3) ∧ 26 + 3 = 29 := ⟨by decide +kernel, rfl⟩
theorem iX5_hops_29 : decode cX5_hops 29 = .ok (.iload_n 1, 1) ∧ 29 + 1 = 30 := ⟨by decide +kernel, rfl⟩
theorem iX5_hops_30 : decode cX5_hops 30 = .ok (.invokevirtual 124, 3) ∧ 30 + 3 = 33 := ⟨by decide +kernel, rfl⟩
theorem iX5_hops_33 : decode cX5_hops 33 = .ok (.istore_n 3, 1) ∧ 33 + 1 = 34 := ⟨by decide +kernel, rfl⟩
theorem iX5_hops_34 : decode cX5_hops 34 = .ok (.aload_n 0, 1) ∧ 34 + 1 = 35 := ⟨by decide +kernel, rfl⟩
theorem iX5_hops_35 : decode cX5_hops 35 = .ok (.iload_n 1, 1) ∧ 35 + 1 = 36 := ⟨by decide +kernel, rfl⟩
theorem iX5_hops_36 : decode cX5_hops 36 = .ok (.invokevirtual 138, 3) ∧ 36 + 3 = 39 := ⟨by decide +kernel, rfl⟩
theorem iX5_hops_39 : decode cX5_hops 39 = .ok (.iload_n 3, 1) ∧ 39 + 1 = 40 := ⟨by decide +kernel, rfl⟩
theorem iX5_hops_40 : decode cX5_hops 40 = .ok (.iload_n 2, 1) ∧ 40 + 1 = 41 := ⟨by decide +kernel, rfl⟩
theorem iX5_hops_41 : decode cX5_hops 41 = .ok (.aload_n 0, 1) ∧ 41 + 1 = 42 := ⟨by decide +kernel, rfl⟩
theorem iX5_hops_42 : decode cX5_hops 42 = .ok (.getfield 26, 3) ∧ 42 + 3 = 45 := ⟨by decide +kernel, rfl⟩
theorem iX5_hops_45 : decode cX5_hops 45 = .ok (.invokevirtual 142, 3) ∧ 45 + 3 = 48 := ⟨by decide +kernel, rfl⟩
theorem iX5_hops_48 : decode cX5_hops 48 = .ok (.invokestatic 173, 3) ∧ 48 + 3 = 51 := ⟨by decide +kernel, rfl⟩
theorem iX5_hops_51 : decode cX5_hops 51 = .ok (.ireturn, 1) ∧ 51 + 1 = 52 := ⟨by decide +kernel, rfl⟩
theorem iX5_trade_0 : decode cX5_trade 0 = .ok (.aload_n 0, 1) ∧ 0 + 1 = 1 := ⟨by decide +kernel, rfl⟩
theorem iX5_trade_1 : decode cX5_trade 1 = .ok (.getfield 26, 3) ∧ 1 + 3 = 4 := ⟨by decide +kernel, rfl⟩
theorem iX5_trade_4 : decode cX5_trade 4 = .ok (.iload_n 1, 1) ∧ 4 + 1 = 5 := ⟨by decide +kernel, rfl⟩
theorem iX5_trade_5 : decode cX5_trade 5 = .ok (.invokevirtual 120, 3) ∧ 5 + 3 = 8 := ⟨by decide +kernel, rfl⟩
theorem iX5_trade_8 : decode cX5_trade 8 = .ok (.ifCond .eq 19, 3) ∧ 8 + 3 = 11 := ⟨by decide +kernel, rfl⟩
theorem iX5_trade_11 : decode cX5_trade 11 = .ok (.aload_n 0, 1) ∧ 11 + 1 = 12 := ⟨by decide +kernel, rfl⟩
theorem iX5_trade_12 : decode cX5_trade 12 = .ok (.getfield 26, 3) ∧ 12 + 3 = 15 := ⟨by decide +kernel, rfl⟩
theorem iX5_trade_15 : decode cX5_trade 15 = .ok (.iload_n 2, 1) ∧ 15 + 1 = 16 := ⟨by decide +kernel, rfl⟩
theorem iX5_trade_16 : decode cX5_trade 16 = .ok (.invokevirtual 120, 3) ∧ 16 + 3 = 19 := ⟨by decide +kernel, rfl⟩
theorem iX5_trade_19 : decode cX5_trade 19 = .ok (.ifCond .eq 8, 3) ∧ 19 + 3 = 22 := ⟨by decide +kernel, rfl⟩
theorem iX5_trade_22 : decode cX5_trade 22 = .ok (.iload_n 1, 1) ∧ 22 + 1 = 23 := ⟨by decide +kernel, rfl⟩
theorem iX5_trade_23 : decode cX5_trade 23 = .ok (.iload_n 2, 1) ∧ 23 + 1 = 24 := ⟨by decide +kernel, rfl⟩
theorem iX5_trade_24 : decode cX5_trade 24 = .ok (.if_icmp .ne 6, 3) ∧ 24 + 3 = 27 := ⟨by decide +kernel, rfl⟩
theorem iX5_trade_27 : decode cX5_trade 27 = .ok (.bipush (-101), 2) ∧ 27 + 2 = 29 := ⟨by decide +kernel, rfl⟩
theorem iX5_trade_29 : decode cX5_trade 29 = .ok (.ireturn, 1) ∧ 29 + 1 = 30 := ⟨by decide +kernel, rfl⟩
theorem iX5_trade_30 : decode cX5_trade 30 = .ok (.aload_n 0, 1) ∧ 30 + 1 = 31 := ⟨by decide +kernel, rfl⟩
theorem iX5_trade_31 : decode cX5_trade 31 = .ok (.getfield 26, 3) ∧ 31 + 3 = 34 := ⟨by decide +kernel, rfl⟩
theorem iX5_trade_34 : decode cX5_trade 34 = .ok (.iload_n 1, 1) ∧ 34 + 1 = 35 := ⟨by decide +kernel, rfl⟩
theorem iX5_trade_35 : decode cX5_trade 35 = .ok (.invokevirtual 124, 3) ∧ 35 + 3 = 38 := ⟨by decide +kernel, rfl⟩
theorem iX5_trade_38 : decode cX5_trade 38 = .ok (.istore_n 3, 1) ∧ 38 + 1 = 39 := ⟨by decide +kernel, rfl⟩
theorem iX5_trade_39 : decode cX5_trade 39 = .ok (.aload_n 0, 1) ∧ 39 + 1 = 40 := ⟨by decide +kernel, rfl⟩
theorem iX5_trade_40 : decode cX5_trade 40 = .ok (.getfield 26, 3) ∧ 40 + 3 = 43 := ⟨by decide +kernel, rfl⟩
theorem iX5_trade_43 : decode cX5_trade 43 = .ok (.iload_n 2, 1) ∧ 43 + 1 = 44 := ⟨by decide +kernel, rfl⟩
theorem iX5_trade_44 : decode cX5_trade 44 = .ok (.invokevirtual 124, 3) ∧ 44 + 3 = 47 := ⟨by decide +kernel, rfl⟩
theorem iX5_trade_47 : decode cX5_trade 47 = .ok (.istore 4, 2) ∧ 47 + 2 = 49 := ⟨by decide +kernel, rfl⟩
theorem iX5_trade_49 : decode cX5_trade 49 = .ok (.aload_n 0, 1) ∧ 49 + 1 = 50 := ⟨by decide +kernel, rfl⟩
theorem iX5_trade_50 : decode cX5_trade 50 = .ok (.getfield 26, 3) ∧ 50 + 3 = 53 := ⟨by decide +kernel, rfl⟩
theorem iX5_trade_53 : decode cX5_trade 53 = .ok (.invokevirtual 142, 3) ∧ 53 + 3 = 56 := ⟨by decide +kernel, rfl⟩
theorem iX5_trade_56 : decode cX5_trade 56 = .ok (.iconst 1, 1) ∧ 56 + 1 = 57 := ⟨by decide +kernel, rfl⟩
theorem iX5_trade_57 : decode cX5_trade 57 = .ok (.iload_n 3, 1) ∧ 57 + 1 = 58 := ⟨by decide +kernel, rfl⟩
theorem iX5_trade_58 : decode cX5_trade 58 = .ok (.ishl, 1) ∧ 58 + 1 = 59 := ⟨by decide +kernel, rfl⟩
theorem iX5_trade_59 : decode cX5_trade 59 = .ok (.ior, 1) ∧ 59 + 1 = 60 := ⟨by decide +kernel, rfl⟩
theorem iX5_trade_60 : decode cX5_trade 60 = .ok (.iconst 1, 1) ∧ 60 + 1 = 61 := ⟨by decide +kernel, rfl⟩
theorem iX5_trade_61 : decode cX5_trade 61 = .ok (.iload 4, 2) ∧ 61 + 2 = 63 := ⟨by decide +kernel, rfl⟩
theorem iX5_trade_63 : decode cX5_trade 63 = .ok (.ishl, 1) ∧ 63 + 1 = 64 := ⟨by decide +kernel, rfl⟩
theorem iX5_trade_64 : decode cX5_trade 64 = .ok (.ior, 1) ∧ 64 + 1 = 65 := ⟨by decide +kernel, rfl⟩
theorem iX5_trade_65 : decode cX5_trade 65 = .ok (.istore 5, 2) ∧ 65 + 2 = 67 := ⟨by decide +kernel, rfl⟩
theorem iX5_trade_67 : decode cX5_trade 67 = .ok (.aload_n 0, 1) ∧ 67 + 1 = 68 := ⟨by decide +kernel, rfl⟩
theorem iX5_trade_68 : decode cX5_trade 68 = .ok (.getfield 39, 3) ∧ 68 + 3 = 71 := ⟨by decide +kernel, rfl⟩
theorem iX5_trade_71 : decode cX5_trade 71 = .ok (.aload_n 0, 1) ∧ 71 + 1 = 72 := ⟨by decide +kernel, rfl⟩
theorem iX5_trade_72 : decode cX5_trade 72 = .ok (.iload_n 1, 1) ∧ 72 + 1 = 73 := ⟨by decide +kernel, rfl⟩
theorem iX5_trade_73 : decode cX5_trade 73 = .ok (.invokevirtual 138, 3) ∧ 73 + 3 = 76 := ⟨by decide +kernel, rfl⟩
theorem iX5_trade_76 : decode cX5_trade 76 = .ok (.aload_n 0, 1) ∧ 76 + 1 = 77 := ⟨by decide +kernel, rfl⟩
theorem iX5_trade_77 : decode cX5_trade 77 = .ok (.iload_n 2, 1) ∧ 77 + 1 = 78 := ⟨by decide +kernel, rfl⟩
theorem iX5_trade_78 : decode cX5_trade 78 = .ok (.invokevirtual 138, 3) ∧ 78 + 3 = 81 := ⟨by decide +kernel, rfl⟩
theorem iX5_trade_81 : decode cX5_trade 81 = .ok (.iload_n 3, 1) ∧ 81 + 1 = 82 := ⟨by decide +kernel, rfl⟩
theorem iX5_trade_82 : decode cX5_trade 82 = .ok (.iload 4, 2) ∧ 82 + 2 = 84 := ⟨by decide +kernel, rfl⟩
theorem iX5_trade_84 : decode cX5_trade 84 = .ok (.iload 5, 2) ∧ 84 + 2 = 86 := ⟨by decide +kernel, rfl⟩
theorem iX5_trade_86 : decode cX5_trade 86 = .ok (.invokevirtual 177, 3) ∧ 86 + 3 = 89 := ⟨by decide +kernel, rfl⟩
theorem iX5_trade_89 : decode cX5_trade 89 = .ok (.ireturn, 1) ∧ 89 + 1 = 90 := ⟨by decide +kernel, rfl⟩
theorem iX5_peace_0 : decode cX5_peace 0 = .ok (.iload_n 1, 1) ∧ 0 + 1 = 1 := ⟨by decide +kernel, rfl⟩
theorem iX5_peace_1 : decode cX5_peace 1 = .ok (.invokestatic 152, 3) ∧ 1 + 3 = 4 := ⟨by decide +kernel, rfl⟩
theorem iX5_peace_4 : decode cX5_peace 4 = .ok (.ifCond .eq 10, 3) ∧ 4 + 3 = 7 := ⟨by decide +kernel, rfl⟩
theorem iX5_peace_7 : decode cX5_peace 7 = .ok (.iload_n 2, 1) ∧ 7 + 1 = 8 := ⟨by decide +kernel, rfl⟩
theorem iX5_peace_8 : decode cX5_peace 8 = .ok (.invokestatic 181, 3) ∧ 8 + 3 = 11 := ⟨by decide +kernel, rfl⟩
theorem iX5_peace_11 : decode cX5_peace 11 = .ok (.ifCond .ne 6, 3) ∧ 11 + 3 = 14 := ⟨by decide +kernel, rfl⟩
theorem iX5_peace_14 : decode cX5_peace 14 = .ok (.bipush (-102), 2) ∧ 14 + 2 = 16 := ⟨by decide +kernel, rfl⟩
theorem iX5_peace_16 : decode cX5_peace 16 = .ok (.ireturn, 1) ∧ 16 + 1 = 17 := ⟨by decide +kernel, rfl⟩
theorem iX5_peace_17 : decode cX5_peace 17 = .ok (.aload_n 0, 1) ∧ 17 + 1 = 18 := ⟨by decide +kernel, rfl⟩
theorem iX5_peace_18 : decode cX5_peace 18 = .ok (.getfield 26, 3) ∧ 18 + 3 = 21 := ⟨by decide +kernel, rfl⟩
theorem iX5_peace_21 : decode cX5_peace 21 = .ok (.invokevirtual 184, 3) ∧ 21 + 3 = 24 := ⟨by decide +kernel, rfl⟩
theorem iX5_peace_24 : decode cX5_peace 24 = .ok (.ifCond .ne 6, 3) ∧ 24 + 3 = 27 := ⟨by decide +kernel, rfl⟩
theorem iX5_peace_27 : decode cX5_peace 27 = .ok (.bipush (-103), 2) ∧ 27 + 2 = 29 := ⟨by decide +kernel, rfl⟩
theorem iX5_peace_29 : decode cX5_peace 29 = .ok (.ireturn, 1) ∧ 29 + 1 = 30 := ⟨by decide +kernel, rfl⟩
theorem iX5_peace_30 : decode cX5_peace 30 = .ok (.aload_n 0, 1) ∧ 30 + 1 = 31 := ⟨by decide +kernel, rfl⟩
theorem iX5_peace_31 : decode cX5_peace 31 = .ok (.getfield 19, 3) ∧ 31 + 3 = 34 := ⟨by decide +kernel, rfl⟩
theorem iX5_peace_34 : decode cX5_peace 34 = .ok (.iload_n 1, 1) ∧ 34 + 1 = 35 := ⟨by decide +kernel, rfl⟩
theorem iX5_peace_35 : decode cX5_peace 35 = .ok (.invokevirtual 187, 3) ∧ 35 + 3 = 38 := ⟨by decide +kernel, rfl⟩
theorem iX5_peace_38 : decode cX5_peace 38 = .ok (.aload_n 0, 1) ∧ 38 + 1 = 39 := ⟨by decide +kernel, rfl⟩
theorem iX5_peace_39 : decode cX5_peace 39 = .ok (.getfield 26, 3) ∧ 39 + 3 = 42 := ⟨by decide +kernel, rfl⟩
theorem iX5_peace_42 : decode cX5_peace 42 = .ok (.getfield 89, 3) ∧ 42 + 3 = 45 := ⟨by decide +kernel, rfl⟩
theorem iX5_peace_45 : decode cX5_peace 45 = .ok (.bipush 11, 2) ∧ 45 + 2 = 47 := ⟨by decide +kernel, rfl⟩
theorem iX5_peace_47 : decode cX5_peace 47 = .ok (.invokestatic 190, 3) ∧ 47 + 3 = 50 := ⟨by decide +kernel, rfl⟩
theorem iX5_peace_50 : decode cX5_peace 50 = .ok (.istore_n 3, 1) ∧ 50 + 1 = 51 := ⟨by decide +kernel, rfl⟩
theorem iX5_peace_51 : decode cX5_peace 51 = .ok (.iload_n 2, 1) ∧ 51 + 1 = 52 := ⟨by decide +kernel, rfl⟩
theorem iX5_peace_52 : decode cX5_peace 52 = .ok (.ifCond .ne 10, 3) ∧ 52 + 3 = 55 := ⟨by decide +kernel, rfl⟩
theorem iX5_peace_55 : decode cX5_peace 55 = .ok (.iload_n 3, 1) ∧ 55 + 1 = 56 := ⟨by decide +kernel, rfl⟩
theorem iX5_peace_56 : decode cX5_peace 56 = .ok (.invokestatic 168, 3) ∧ 56 + 3 = 59 := ⟨by decide +kernel, rfl⟩
theorem iX5_peace_59 : decode cX5_peace 59 = .ok (.goto 4, 3) ∧ 59 + 3 = 62 := ⟨by decide +kernel, rfl⟩
theorem iX5_peace_62 : decode cX5_peace 62 = .ok (.iload_n 3, 1) ∧ 62 + 1 = 63 := ⟨by decide +kernel, rfl⟩
theorem iX5_peace_63 : decode cX5_peace 63 = .ok (.ireturn, 1) ∧ 63 + 1 = 64 := ⟨by decide +kernel, rfl⟩
theorem iX5_guard_0 : decode cX5_guard 0 = .ok (.iload_n 1, 1) ∧ 0 + 1 = 1 := ⟨by decide +kernel, rfl⟩
theorem iX5_guard_1 : decode cX5_guard 1 = .ok (.invokestatic 152, 3) ∧ 1 + 3 = 4 := ⟨by decide +kernel, rfl⟩
theorem iX5_guard_4 : decode cX5_guard 4 = .ok (.ifCond .eq 10, 3) ∧ 4 + 3 = 7 := ⟨by decide +kernel, rfl⟩
theorem iX5_guard_7 : decode cX5_guard 7 = .ok (.iload_n 2, 1) ∧ 7 + 1 = 8 := ⟨by decide +kernel, rfl⟩
theorem iX5_guard_8 : decode cX5_guard 8 = .ok (.invokestatic 181, 3) ∧ 8 + 3 = 11 := ⟨by decide +kernel, rfl⟩
theorem iX5_guard_11 : decode cX5_guard 11 = .ok (.ifCond .ne 6, 3) ∧ 11 + 3 = 14 := ⟨by decide +kernel, rfl⟩
theorem iX5_guard_14 : decode cX5_guard 14 = .ok (.bipush (-102), 2) ∧ 14 + 2 = 16 := ⟨by decide +kernel, rfl⟩
theorem iX5_guard_16 : decode cX5_guard 16 = .ok (.ireturn, 1) ∧ 16 + 1 = 17 := ⟨by decide +kernel, rfl⟩
theorem iX5_guard_17 : decode cX5_guard 17 = .ok (.aload_n 0, 1) ∧ 17 + 1 = 18 := ⟨by decide +kernel, rfl⟩
theorem iX5_guard_18 : decode cX5_guard 18 = .ok (.getfield 26, 3) ∧ 18 + 3 = 21 := ⟨by decide +kernel, rfl⟩
theorem iX5_guard_21 : decode cX5_guard 21 = .ok (.invokevirtual 184, 3) ∧ 21 + 3 = 24 := ⟨by decide +kernel, rfl⟩
theorem iX5_guard_24 : decode cX5_guard 24 = .ok (.ifCond .ne 6, 3) ∧ 24 + 3 = 27 := ⟨by decide +kernel, rfl⟩
theorem iX5_guard_27 : decode cX5_guard 27 = .ok (.bipush (-103), 2) ∧ 27 + 2 = 29 := ⟨by decide +kernel, rfl⟩
theorem iX5_guard_29 : decode cX5_guard 29 = .ok (.ireturn, 1) ∧ 29 + 1 = 30 := ⟨by decide +kernel, rfl⟩
theorem iX5_guard_30 : decode cX5_guard 30 = .ok (.aload_n 0, 1) ∧ 30 + 1 = 31 := ⟨by decide +kernel, rfl⟩
theorem iX5_guard_31 : decode cX5_guard 31 = .ok (.getfield 19, 3) ∧ 31 + 3 = 34 := ⟨by decide +kernel, rfl⟩
theorem iX5_guard_34 : decode cX5_guard 34 = .ok (.iload_n 1, 1) ∧ 34 + 1 = 35 := ⟨by decide +kernel, rfl⟩
theorem iX5_guard_35 : decode cX5_guard 35 = .ok (.invokevirtual 187, 3) ∧ 35 + 3 = 38 := ⟨by decide +kernel, rfl⟩
theorem iX5_guard_38 : decode cX5_guard 38 = .ok (.aload_n 0, 1) ∧ 38 + 1 = 39 := ⟨by decide +kernel, rfl⟩
theorem iX5_guard_39 : decode cX5_guard 39 = .ok (.getfield 26, 3) ∧ 39 + 3 = 42 := ⟨by decide +kernel, rfl⟩
theorem iX5_guard_42 : decode cX5_guard 42 = .ok (.getfield 89, 3) ∧ 42 + 3 = 45 := ⟨by decide +kernel, rfl⟩
theorem iX5_guard_45 : decode cX5_guard 45 = .ok (.iconst 0, 1) ∧ 45 + 1 = 46 := ⟨by decide +kernel, rfl⟩
theorem iX5_guard_46 : decode cX5_guard 46 = .ok (.iconst 0, 1) ∧ 46 + 1 = 47 := ⟨by decide +kernel, rfl⟩
theorem iX5_guard_47 : decode cX5_guard 47 = .ok (.aload_n 0, 1) ∧ 47 + 1 = 48 := ⟨by decide +kernel, rfl⟩
theorem iX5_guard_48 : decode cX5_guard 48 = .ok (.getfield 26, 3) ∧ 48 + 3 = 51 := ⟨by decide +kernel, rfl⟩
theorem iX5_guard_51 : decode cX5_guard 51 = .ok (.getfield 89, 3) ∧ 51 + 3 = 54 := ⟨by decide +kernel, rfl⟩
theorem iX5_guard_54 : decode cX5_guard 54 = .ok (.iconst 0, 1) ∧ 54 + 1 = 55 := ⟨by decide +kernel, rfl⟩
theorem iX5_guard_55 : decode cX5_guard 55 = .ok (.invokestatic 193, 3) ∧ 55 + 3 = 58 := ⟨by decide +kernel, rfl⟩
theorem iX5_guard_58 : decode cX5_guard 58 = .ok (.istore_n 3, 1) ∧ 58 + 1 = 59 := ⟨by decide +kernel, rfl⟩
theorem iX5_guard_59 : decode cX5_guard 59 = .ok (.iload_n 2, 1) ∧ 59 + 1 = 60 := ⟨by decide +kernel, rfl⟩
theorem iX5_guard_60 : decode cX5_guard 60 = .ok (.ifCond .ne 10, 3) ∧ 60 + 3 = 63 := ⟨by decide +kernel, rfl⟩
theorem iX5_guard_63 : decode cX5_guard 63 = .ok (.iload_n 3, 1) ∧ 63 + 1 = 64 := ⟨by decide +kernel, rfl⟩
theorem iX5_guard_64 : decode cX5_guard 64 = .ok (.invokestatic 168, 3) ∧ 64 + 3 = 67 := ⟨by decide +kernel, rfl⟩
theorem iX5_guard_67 : decode cX5_guard 67 = .ok (.goto 4, 3) ∧ 67 + 3 = 70 := ⟨by decide +kernel, rfl⟩
theorem iX5_guard_70 : decode cX5_guard 70 = .ok (.iload_n 3, 1) ∧ 70 + 1 = 71 := ⟨by decide +kernel, rfl⟩
theorem iX5_guard_71 : decode cX5_guard 71 = .ok (.ireturn, 1) ∧ 71 + 1 = 72 := ⟨by decide +kernel, rfl⟩
theorem iX5_parts_0 : decode cX5_parts 0 = .ok (.iload_n 1, 1) ∧ 0 + 1 = 1 := ⟨by decide +kernel, rfl⟩
theorem iX5_parts_1 : decode cX5_parts 1 = .ok (.invokestatic 152, 3) ∧ 1 + 3 = 4 := ⟨by decide +kernel, rfl⟩
theorem iX5_parts_4 : decode cX5_parts 4 = .ok (.ifCond .eq 10, 3) ∧ 4 + 3 = 7 := ⟨by decide +kernel, rfl⟩
theorem iX5_parts_7 : decode cX5_parts 7 = .ok (.iload_n 2, 1) ∧ 7 + 1 = 8 := ⟨by decide +kernel, rfl⟩
theorem iX5_parts_8 : decode cX5_parts 8 = .ok (.invokestatic 181, 3) ∧ 8 + 3 = 11 := ⟨by decide +kernel, rfl⟩
theorem iX5_parts_11 : decode cX5_parts 11 = .ok (.ifCond .ne 6, 3) ∧ 11 + 3 = 14 := ⟨by decide +kernel, rfl⟩
theorem iX5_parts_14 : decode cX5_parts 14 = .ok (.bipush (-102), 2) ∧ 14 + 2 = 16 := ⟨by decide +kernel, rfl⟩
theorem iX5_parts_16 : decode cX5_parts 16 = .ok (.ireturn, 1) ∧ 16 + 1 = 17 := ⟨by decide +kernel, rfl⟩
theorem iX5_parts_17 : decode cX5_parts 17 = .ok (.aload_n 0, 1) ∧ 17 + 1 = 18 := ⟨by decide +kernel, rfl⟩
theorem iX5_parts_18 : decode cX5_parts 18 = .ok (.getfield 26, 3) ∧ 18 + 3 = 21 := ⟨by decide +kernel, rfl⟩
theorem iX5_parts_21 : decode cX5_parts 21 = .ok (.invokevirtual 184, 3) ∧ 21 + 3 = 24 := ⟨by decide +kernel, rfl⟩
theorem iX5_parts_24 : decode cX5_parts 24 = .ok (.ifCond .ne 6, 3) ∧ 24 + 3 = 27 := ⟨by decide +kernel, rfl⟩
theorem iX5_parts_27 : decode cX5_parts 27 = .ok (.bipush (-103), 2) ∧ 27 + 2 = 29 := ⟨by decide +kernel, rfl⟩
theorem iX5_parts_29 : decode cX5_parts 29 = .ok (.ireturn, 1) ∧ 29 + 1 = 30 := ⟨by decide +kernel, rfl⟩
theorem iX5_parts_30 : decode cX5_parts 30 = .ok (.aload_n 0, 1) ∧ 30 + 1 = 31 := ⟨by decide +kernel, rfl⟩
theorem iX5_parts_31 : decode cX5_parts 31 = .ok (.getfield 19, 3) ∧ 31 + 3 = 34 := ⟨by decide +kernel, rfl⟩
theorem iX5_parts_34 : decode cX5_parts 34 = .ok (.iload_n 1, 1) ∧ 34 + 1 = 35 := ⟨by decide +kernel, rfl⟩
theorem iX5_parts_35 : decode cX5_parts 35 = .ok (.invokevirtual 187, 3) ∧ 35 + 3 = 38 := ⟨by decide +kernel, rfl⟩
theorem iX5_parts_38 : decode cX5_parts 38 = .ok (.astore_n 3, 1) ∧ 38 + 1 = 39 := ⟨by decide +kernel, rfl⟩
theorem iX5_parts_39 : decode cX5_parts 39 = .ok (.iload_n 2, 1) ∧ 39 + 1 = 40 := ⟨by decide +kernel, rfl⟩
theorem iX5_parts_40 : decode cX5_parts 40 = .ok (.ifCond .ne 15, 3) ∧ 40 + 3 = 43 := ⟨by decide +kernel, rfl⟩
theorem iX5_parts_43 : decode cX5_parts 43 = .ok (.aload_n 3, 1) ∧ 43 + 1 = 44 := ⟨by decide +kernel, rfl⟩
theorem iX5_parts_44 : decode cX5_parts 44 = .ok (.aload_n 0, 1) ∧ 44 + 1 = 45 := ⟨by decide +kernel, rfl⟩
theorem iX5_parts_45 : decode cX5_parts 45 = .ok (.getfield 26, 3) ∧ 45 + 3 = 48 := ⟨by decide +kernel, rfl⟩
theorem iX5_parts_48 : decode cX5_parts 48 = .ok (.getfield 89, 3) ∧ 48 + 3 = 51 := ⟨by decide +kernel, rfl⟩
theorem iX5_parts_51 : decode cX5_parts 51 = .ok (.invokestatic 197, 3) ∧ 51 + 3 = 54 := ⟨by decide +kernel, rfl⟩
theorem iX5_parts_54 : decode cX5_parts 54 = .ok (.ireturn, 1) ∧ 54 + 1 = 55 := ⟨by decide +kernel, rfl⟩
theorem iX5_parts_55 : decode cX5_parts 55 = .ok (.aload_n 3, 1) ∧ 55 + 1 = 56 := ⟨by decide +kernel, rfl⟩
theorem iX5_parts_56 : decode cX5_parts 56 = .ok (.aload_n 0, 1) ∧ 56 + 1 = 57 := ⟨by decide +kernel, rfl⟩
theorem iX5_parts_57 : decode cX5_parts 57 = .ok (.getfield 26, 3) ∧ 57 + 3 = 60 := ⟨by decide +kernel, rfl⟩
theorem iX5_parts_60 : decode cX5_parts 60 = .ok (.getfield 89, 3) ∧ 60 + 3 = 63 := ⟨by decide +kernel, rfl⟩
theorem iX5_parts_63 : decode cX5_parts 63 = .ok (.invokestatic 201, 3) ∧ 63 + 3 = 66 := ⟨by decide +kernel, rfl⟩
theorem iX5_parts_66 : decode cX5_parts 66 = .ok (.ifCond .eq 7, 3) ∧ 66 + 3 = 69 := ⟨by decide +kernel, rfl⟩
theorem iX5_parts_69 : decode cX5_parts 69 = .ok (.iconst 1, 1) ∧ 69 + 1 = 70 := ⟨by decide +kernel, rfl⟩
theorem iX5_parts_70 : decode cX5_parts 70 = .ok (.goto 4, 3) ∧ 70 + 3 = 73 := ⟨by decide +kernel, rfl⟩
theorem iX5_parts_73 : decode cX5_parts 73 = .ok (.iconst 0, 1) ∧ 73 + 1 = 74 := ⟨by decide +kernel, rfl⟩
theorem iX5_parts_74 : decode cX5_parts 74 = .ok (.ireturn, 1) ∧ 74 + 1 = 75 := ⟨by decide +kernel, rfl⟩
theorem iX5_chance_0 : decode cX5_chance 0 = .ok (.aload_n 0, 1) ∧ 0 + 1 = 1 := ⟨by decide +kernel, rfl⟩
theorem iX5_chance_1 : decode cX5_chance 1 = .ok (.getfield 26, 3) ∧ 1 + 3 = 4 := ⟨by decide +kernel, rfl⟩
theorem iX5_chance_4 : decode cX5_chance 4 = .ok (.iload_n 1, 1) ∧ 4 + 1 = 5 := ⟨by decide +kernel, rfl⟩
theorem iX5_chance_5 : decode cX5_chance 5 = .ok (.invokevirtual 120, 3) ∧ 5 + 3 = 8 := ⟨by decide +kernel, rfl⟩
theorem iX5_chance_8 : decode cX5_chance 8 = .ok (.ifCond .eq 14, 3) ∧ 8 + 3 = 11 := ⟨by decide +kernel, rfl⟩
theorem iX5_chance_11 : decode cX5_chance 11 = .ok (.aload_n 0, 1) ∧ 11 + 1 = 12 := ⟨by decide +kernel, rfl⟩
theorem iX5_chance_12 : decode cX5_chance 12 = .ok (.getfield 19, 3) ∧ 12 + 3 = 15 := ⟨by decide +kernel, rfl⟩
theorem iX5_chance_15 : decode cX5_chance 15 = .ok (.iload_n 2, 1) ∧ 15 + 1 = 16 := ⟨by decide +kernel, rfl⟩
theorem iX5_chance_16 : decode cX5_chance 16 = .ok (.invokevirtual 155, 3) ∧ 16 + 3 = 19 := ⟨by decide +kernel, rfl⟩
theorem iX5_chance_19 : decode cX5_chance 19 = .ok (.ifCond .ne 6, 3) ∧ 19 + 3 = 22 := ⟨by decide +kernel, rfl⟩
theorem iX5_chance_22 : decode cX5_chance 22 = .ok (.bipush (-101), 2) ∧ 22 + 2 = 24 := ⟨by decide +kernel, rfl⟩
theorem iX5_chance_24 : decode cX5_chance 24 = .ok (.ireturn, 1) ∧ 24 + 1 = 25 := ⟨by decide +kernel, rfl⟩
theorem iX5_chance_25 : decode cX5_chance 25 = .ok (.iload_n 3, 1) ∧ 25 + 1 = 26 := ⟨by decide +kernel, rfl⟩
theorem iX5_chance_26 : decode cX5_chance 26 = .ok (.ifCond .lt 9, 3) ∧ 26 + 3 = 29 := ⟨by decide +kernel, rfl⟩
theorem iX5_chance_29 : decode cX5_chance 29 = .ok (.iload_n 3, 1) ∧ 29 + 1 = 30 := ⟨by decide +kernel, rfl⟩
theorem iX5_chance_30 : decode cX5_chance 30 = .ok (.bipush 6, 2) ∧ 30 + 2 = 32 := ⟨by decide +kernel, rfl⟩
theorem iX5_chance_32 : decode cX5_chance 32 = .ok (.if_icmp .le 6, 3) ∧ 32 + 3 = 35 := ⟨by decide +kernel, rfl⟩
theorem iX5_chance_35 : decode cX5_chance 35 = .ok (.bipush (-102), 2) ∧ 35 + 2 = 37 := ⟨by decide +kernel, rfl⟩
theorem iX5_chance_37 : decode cX5_chance 37 = .ok (.ireturn, 1) ∧ 37 + 1 = 38 := ⟨by decide +kernel, rfl⟩
theorem iX5_chance_38 : decode cX5_chance 38 = .ok (.aload_n 0, 1) ∧ 38 + 1 = 39 := ⟨by decide +kernel, rfl⟩
theorem iX5_chance_39 : decode cX5_chance 39 = .ok (.getfield 26, 3) ∧ 39 + 3 = 42 := ⟨by decide +kernel, rfl⟩
theorem iX5_chance_42 : decode cX5_chance 42 = .ok (.iload_n 1, 1) ∧ 42 + 1 = 43 := ⟨by decide +kernel, rfl⟩
theorem iX5_chance_43 : decode cX5_chance 43 = .ok (.invokevirtual 124, 3) ∧ 43 + 3 = 46 := ⟨by decide +kernel, rfl⟩
theorem iX5_chance_46 : decode cX5_chance 46 = .ok (.istore 4, 2) ∧ 46 + 2 = 48 := ⟨by decide +kernel, rfl⟩
theorem iX5_chance_48 : decode cX5_chance 48 = .ok (.aload_n 0, 1) ∧ 48 + 1 = 49 := ⟨by decide +kernel, rfl⟩
theorem iX5_chance_49 : decode cX5_chance 49 = .ok (.getfield 26, 3) ∧ 49 + 3 = 52 := ⟨by decide +kernel, rfl⟩
theorem iX5_chance_52 : decode cX5_chance 52 = .ok (.invokevirtual 142, 3) ∧ 52 + 3 = 55 := ⟨by decide +kernel, rfl⟩
theorem iX5_chance_55 : decode cX5_chance 55 = .ok (.iconst 1, 1) ∧ 55 + 1 = 56 := ⟨by decide +kernel, rfl⟩
theorem iX5_chance_56 : decode cX5_chance 56 = .ok (.iload 4, 2) ∧ 56 + 2 = 58 := ⟨by decide +kernel, rfl⟩
theorem iX5_chance_58 : decode cX5_chance 58 = .ok (.ishl, 1) ∧ 58 + 1 = 59 := ⟨by decide +kernel, rfl⟩
theorem iX5_chance_59 : decode cX5_chance 59 = .ok (.ior, 1) ∧ 59 + 1 = 60 := ⟨by decide +kernel, rfl⟩
theorem iX5_chance_60 : decode cX5_chance 60 = .ok (.istore 5, 2) ∧ 60 + 2 = 62 := ⟨by decide +kernel, rfl⟩
theorem iX5_chance_62 : decode cX5_chance 62 = .ok (.aload_n 0, 1) ∧ 62 + 1 = 63 := ⟨by decide +kernel, rfl⟩
theorem iX5_chance_63 : decode cX5_chance 63 = .ok (.getfield 39, 3) ∧ 63 + 3 = 66 := ⟨by decide +kernel, rfl⟩
theorem iX5_chance_66 : decode cX5_chance 66 = .ok (.aload_n 0, 1) ∧ 66 + 1 = 67 := ⟨by decide +kernel, rfl⟩
theorem iX5_chance_67 : decode cX5_chance 67 = .ok (.iload_n 1, 1) ∧ 67 + 1 = 68 := ⟨by decide +kernel, rfl⟩
theorem iX5_chance_68 : decode cX5_chance 68 = .ok (.invokevirtual 138, 3) ∧ 68 + 3 = 71 := ⟨by decide +kernel, rfl⟩
theorem iX5_chance_71 : decode cX5_chance 71 = .ok (.iload 4, 2) ∧ 71 + 2 = 73 := ⟨by decide +kernel, rfl⟩
theorem iX5_chance_73 : decode cX5_chance 73 = .ok (.iload_n 2, 1) ∧ 73 + 1 = 74 := ⟨by decide +kernel, rfl⟩
theorem iX5_chance_74 : decode cX5_chance 74 = .ok (.iload 5, 2) ∧ 74 + 2 = 76 := ⟨by decide +kernel, rfl⟩
theorem iX5_chance_76 : decode cX5_chance 76 = .ok (.iload_n 3, 1) ∧ 76 + 1 = 77 := ⟨by decide +kernel, rfl⟩
theorem iX5_chance_77 : decode cX5_chance 77 = .ok (.invokevirtual 205, 3) ∧ 77 + 3 = 80 := ⟨by decide +kernel, rfl⟩
theorem iX5_chance_80 : decode cX5_chance 80 = .ok (.ireturn, 1) ∧ 80 + 1 = 81 := ⟨by decide +kernel, rfl⟩
theorem iX5_see_0 : decode cX5_see 0 = .ok (.aload_n 0, 1) ∧ 0 + 1 = 1 := ⟨by decide +kernel, rfl⟩
theorem iX5_see_1 : decode cX5_see 1 = .ok (.getfield 26, 3) ∧ 1 + 3 = 4 := ⟨by decide +kernel, rfl⟩
theorem iX5_see_4 : decode cX5_see 4 = .ok (.iload_n 1, 1) ∧ 4 + 1 = 5 := ⟨by decide +kernel, rfl⟩
theorem iX5_see_5 : decode cX5_see 5 = .ok (.invokevirtual 120, 3) ∧ 5 + 3 = 8 := ⟨by decide +kernel, rfl⟩
theorem iX5_see_8 : decode cX5_see 8 = .ok (.ifCond .ne 6, 3) ∧ 8 + 3 = 11 := ⟨by decide +kernel, rfl⟩
theorem iX5_see_11 : decode cX5_see 11 = .ok (.bipush (-101), 2) ∧ 11 + 2 = 13 := ⟨by decide +kernel, rfl⟩
theorem iX5_see_13 : decode cX5_see 13 = .ok (.ireturn, 1) ∧ 13 + 1 = 14 := ⟨by decide +kernel, rfl⟩
theorem iX5_see_14 : decode cX5_see 14 = .ok (.iload_n 2, 1) ∧ 14 + 1 = 15 := ⟨by decide +kernel, rfl⟩
theorem iX5_see_15 : decode cX5_see 15 = .ok (.ifCond .lt 17, 3) ∧ 15 + 3 = 18 := ⟨by decide +kernel, rfl⟩
theorem iX5_see_18 : decode cX5_see 18 = .ok (.iload_n 2, 1) ∧ 18 + 1 = 19 := ⟨by decide +kernel, rfl⟩
theorem iX5_see_19 : decode cX5_see 19 = .ok (.iconst 3, 1) ∧ 19 + 1 = 20 := ⟨by decide +kernel, rfl⟩
theorem iX5_see_20 : decode cX5_see 20 = .ok (.if_icmp .gt 12, 3) ∧ 20 + 3 = 23 := ⟨by decide +kernel, rfl⟩
theorem iX5_see_23 : decode cX5_see 23 = .ok (.iload_n 3, 1) ∧ 23 + 1 = 24 := ⟨by decide +kernel, rfl⟩
theorem iX5_see_24 : decode cX5_see 24 = .ok (.ifCond .lt 8, 3) ∧ 24 + 3 = 27 := ⟨by decide +kernel, rfl⟩
theorem iX5_see_27 : decode cX5_see 27 = .ok (.iload_n 3, 1) ∧ 27 + 1 = 28 := ⟨by decide +kernel, rfl⟩
theorem iX5_see_28 : decode cX5_see 28 = .ok (.iconst 3, 1) ∧ 28 + 1 = 29 := ⟨by decide +kernel, rfl⟩
theorem iX5_see_29 : decode cX5_see 29 = .ok (.if_icmp .le 6, 3) ∧ 29 + 3 = 32 := ⟨by decide +kernel, rfl⟩
theorem iX5_see_32 : decode cX5_see 32 = .ok (.bipush (-102), 2) ∧ 32 + 2 = 34 := ⟨by decide +kernel, rfl⟩
theorem iX5_see_34 : decode cX5_see 34 = .ok (.ireturn, 1) ∧ 34 + 1 = 35 := ⟨by decide +kernel, rfl⟩
theorem iX5_see_35 : decode cX5_see 35 = .ok (.iload_n 2, 1) ∧ 35 + 1 = 36 := ⟨by decide +kernel, rfl⟩
theorem iX5_see_36 : decode cX5_see 36 = .ok (.iload_n 3, 1) ∧ 36 + 1 = 37 := ⟨by decide +kernel, rfl⟩
theorem iX5_see_37 : decode cX5_see 37 = .ok (.invokestatic 209, 3) ∧ 37 + 3 = 40 := ⟨by decide +kernel, rfl⟩
theorem iX5_see_40 : decode cX5_see 40 = .ok (.istore 5, 2) ∧ 40 + 2 = 42 := ⟨by decide +kernel, rfl⟩
theorem iX5_see_42 : decode cX5_see 42 = .ok (.aload_n 0, 1) ∧ 42 + 1 = 43 := ⟨by decide +kernel, rfl⟩
theorem iX5_see_43 : decode cX5_see 43 = .ok (.getfield 26, 3) ∧ 43 + 3 = 46 := ⟨by decide +kernel, rfl⟩
theorem iX5_see_46 : decode cX5_see 46 = .ok (.iload_n 1, 1) ∧ 46 + 1 = 47 := ⟨by decide +kernel, rfl⟩
theorem iX5_see_47 : decode cX5_see 47 = .ok (.iload 4, 2) ∧ 47 + 2 = 49 := ⟨by decide +kernel, rfl⟩
theorem iX5_see_49 : decode cX5_see 49 = .ok (.ifCond .eq 8, 3) ∧ 49 + 3 = 52 := ⟨by decide +kernel, rfl⟩
theorem iX5_see_52 : decode cX5_see 52 = .ok (.iload 5, 2) ∧ 52 + 2 = 54 := ⟨by decide +kernel, rfl⟩
theorem iX5_see_54 : decode cX5_see 54 = .ok (.goto 10, 3) ∧ 54 + 3 = 57 := ⟨by decide +kernel, rfl⟩
theorem iX5_see_57 : decode cX5_see 57 = .ok (.bipush 31, 2) ∧ 57 + 2 = 59 := ⟨by decide +kernel, rfl⟩
theorem iX5_see_59 : decode cX5_see 59 = .ok (.iload 5, 2) ∧ 59 + 2 = 61 := ⟨by decide +kernel, rfl⟩
theorem iX5_see_61 : decode cX5_see 61 = .ok (.iconst (-1), 1) ∧ 61 + 1 = 62 := ⟨by decide +kernel, rfl⟩
theorem iX5_see_62 : decode cX5_see 62 = .ok (.ixor, 1) ∧ 62 + 1 = 63 := ⟨by decide +kernel, rfl⟩
theorem iX5_see_63 : decode cX5_see 63 = .ok (.iand, 1) ∧ 63 + 1 = 64 := ⟨by decide +kernel, rfl⟩
theorem iX5_see_64 : decode cX5_see 64 = .ok (.invokevirtual 213, 3) ∧ 64 + 3 = 67 := ⟨by decide +kernel, rfl⟩
theorem iX5_see_67 : decode cX5_see 67 = .ok (.ifCond .eq 13, 3) ∧ 67 + 3 = 70 := ⟨by decide +kernel, rfl⟩
theorem iX5_see_70 : decode cX5_see 70 = .ok (.aload_n 0, 1) ∧ 70 + 1 = 71 := ⟨by decide +kernel, rfl⟩
theorem iX5_see_71 : decode cX5_see 71 = .ok (.getfield 26, 3) ∧ 71 + 3 = 74 := ⟨by decide +kernel, rfl⟩
theorem iX5_see_74 : decode cX5_see 74 = .ok (.getfield 114, 3) ∧ 74 + 3 = 77 := ⟨by decide +kernel, rfl⟩
theorem iX5_see_77 : decode cX5_see 77 = .ok (.goto 5, 3) ∧ 77 + 3 = 80 := ⟨by decide +kernel, rfl⟩
theorem iX5_see_80 : decode cX5_see 80 = .ok (.bipush (-104), 2) ∧ 80 + 2 = 82 := ⟨by decide +kernel, rfl⟩
theorem iX5_see_82 : decode cX5_see 82 = .ok (.ireturn, 1) ∧ 82 + 1 = 83 := ⟨by decide +kernel, rfl⟩
theorem iX5_forget_0 : decode cX5_forget 0 = .ok (.aload_n 0, 1) ∧ 0 + 1 = 1 := ⟨by decide +kernel, rfl⟩
theorem iX5_forget_1 : decode cX5_forget 1 = .ok (.getfield 26, 3) ∧ 1 + 3 = 4 := ⟨by decide +kernel, rfl⟩
theorem iX5_forget_4 : decode cX5_forget 4 = .ok (.getfield 114, 3) ∧ 4 + 3 = 7 := ⟨by decide +kernel, rfl⟩
theorem iX5_forget_7 : decode cX5_forget 7 = .ok (.istore_n 1, 1) ∧ 7 + 1 = 8 := ⟨by decide +kernel, rfl⟩
theorem iX5_forget_8 : decode cX5_forget 8 = .ok (.aload_n 0, 1) ∧ 8 + 1 = 9 := ⟨by decide +kernel, rfl⟩
theorem iX5_forget_9 : decode cX5_forget 9 = .ok (.getfield 26, 3) ∧ 9 + 3 = 12 := ⟨by decide +kernel, rfl⟩
theorem iX5_forget_12 : decode cX5_forget 12 = .ok (.iconst 0, 1) ∧ 12 + 1 = 13 := ⟨by decide +kernel, rfl⟩
theorem iX5_forget_13 : decode cX5_forget 13 = .ok (.putfield 114, 3) ∧ 13 + 3 = 16 := ⟨by decide +kernel, rfl⟩
theorem iX5_forget_16 : decode cX5_forget 16 = .ok (.iload_n 1, 1) ∧ 16 + 1 = 17 := ⟨by decide +kernel, rfl⟩
theorem iX5_forget_17 : decode cX5_forget 17 = .ok (.ireturn, 1) ∧ 17 + 1 = 18 := ⟨by decide +kernel, rfl⟩
theorem iX5_walks_0 : decode cX5_walks 0 = .ok (.iload_n 1, 1) ∧ 0 + 1 = 1 := ⟨by decide +kernel, rfl⟩
theorem iX5_walks_1 : decode cX5_walks 1 = .ok (.iconst 1, 1) ∧ 1 + 1 = 2 := ⟨by decide +kernel, rfl⟩
theorem iX5_walks_2 : decode cX5_walks 2 = .ok (.if_icmp .lt 22, 3) ∧ 2 + 3 = 5 := ⟨by decide +kernel, rfl⟩
theorem iX5_walks_5 : decode cX5_walks 5 = .ok (.iload_n 1, 1) ∧ 5 + 1 = 6 := ⟨by decide +kernel, rfl⟩
theorem iX5_walks_6 : decode cX5_walks 6 = .ok (.bipush 60, 2) ∧ 6 + 2 = 8 := ⟨by decide +kernel, rfl⟩
theorem iX5_walks_8 : decode cX5_walks 8 = .ok (.if_icmp .gt 16, 3) ∧ 8 + 3 = 11 := ⟨by decide +kernel, rfl⟩
theorem iX5_walks_11 : decode cX5_walks 11 = .ok (.iload_n 2, 1) ∧ 11 + 1 = 12 := ⟨by decide +kernel, rfl⟩
theorem iX5_walks_12 : decode cX5_walks 12 = .ok (.ifCond .lt 12, 3) ∧ 12 + 3 = 15 := ⟨by decide +kernel, rfl⟩
theorem iX5_walks_15 : decode cX5_walks 15 = .ok (.iload_n 3, 1) ∧ 15 + 1 = 16 := ⟨by decide +kernel, rfl⟩
theorem iX5_walks_16 : decode cX5_walks 16 = .ok (.ifCond .lt 8, 3) ∧ 16 + 3 = 19 := ⟨by decide +kernel, rfl⟩
theorem iX5_walks_19 : decode cX5_walks 19 = .ok (.iload_n 3, 1) ∧ 19 + 1 = 20 := ⟨by decide +kernel, rfl⟩
theorem iX5_walks_20 : decode cX5_walks 20 = .ok (.iconst 2, 1) ∧ 20 + 1 = 21 := ⟨by decide +kernel, rfl⟩
theorem iX5_walks_21 : decode cX5_walks 21 = .ok (.if_icmp .le 6, 3) ∧ 21 + 3 = 24 := ⟨by decide +kernel, rfl⟩
theorem iX5_walks_24 : decode cX5_walks 24 = .ok (.bipush (-102), 2) ∧ 24 + 2 = 26 := ⟨by decide +kernel, rfl⟩
theorem iX5_walks_26 : decode cX5_walks 26 = .ok (.ireturn, 1) ∧ 26 + 1 = 27 := ⟨by decide +kernel, rfl⟩
theorem iX5_walks_27 : decode cX5_walks 27 = .ok (.aload_n 0, 1) ∧ 27 + 1 = 28 := ⟨by decide +kernel, rfl⟩
theorem iX5_walks_28 : decode cX5_walks 28 = .ok (.getfield 26, 3) ∧ 28 + 3 = 31 := ⟨by decide +kernel, rfl⟩
theorem iX5_walks_31 : decode cX5_walks 31 = .ok (.invokevirtual 184, 3) ∧ 31 + 3 = 34 := ⟨by decide +kernel, rfl⟩
theorem iX5_walks_34 : decode cX5_walks 34 = .ok (.ifCond .ne 6, 3) ∧ 34 + 3 = 37 := ⟨by decide +kernel, rfl⟩
theorem iX5_walks_37 : decode cX5_walks 37 = .ok (.bipush (-103), 2) ∧ 37 + 2 = 39 := ⟨by decide +kernel, rfl⟩
theorem iX5_walks_39 : decode cX5_walks 39 = .ok (.ireturn, 1) ∧ 39 + 1 = 40 := ⟨by decide +kernel, rfl⟩
theorem iX5_walks_40 : decode cX5_walks 40 = .ok (.aload_n 0, 1) ∧ 40 + 1 = 41 := ⟨by decide +kernel, rfl⟩
theorem iX5_walks_41 : decode cX5_walks 41 = .ok (.iload_n 1, 1) ∧ 41 + 1 = 42 := ⟨by decide +kernel, rfl⟩
theorem iX5_walks_42 : decode cX5_walks 42 = .ok (.iload_n 2, 1) ∧ 42 + 1 = 43 := ⟨by decide +kernel, rfl⟩
theorem iX5_walks_43 : decode cX5_walks 43 = .ok (.invokevirtual 216, 3) ∧ 43 + 3 = 46 := ⟨by decide +kernel, rfl⟩
theorem iX5_walks_46 : decode cX5_walks 46 = .ok (.iload_n 3, 1) ∧ 46 + 1 = 47 := ⟨by decide +kernel, rfl⟩
theorem iX5_walks_47 : decode cX5_walks 47 = .ok (.lookupswitch 42 #[(0, 25), (1, 33)], 25) ∧ 47 + 25 = 72 := ⟨by decide +kernel, rfl⟩
theorem iX5_walks_72 : decode cX5_walks 72 = .ok (.aload_n 0, 1) ∧ 72 + 1 = 73 := ⟨by decide +kernel, rfl⟩
theorem iX5_walks_73 : decode cX5_walks 73 = .ok (.getfield 33, 3) ∧ 73 + 3 = 76 := ⟨by decide +kernel, rfl⟩
theorem iX5_walks_76 : decode cX5_walks 76 = .ok (.getfield 111, 3) ∧ 76 + 3 = 79 := ⟨by decide +kernel, rfl⟩
theorem iX5_walks_79 : decode cX5_walks 79 = .ok (.ireturn, 1) ∧ 79 + 1 = 80 := ⟨by decide +kernel, rfl⟩
theorem iX5_walks_80 : decode cX5_walks 80 = .ok (.aload_n 0, 1) ∧ 80 + 1 = 81 := ⟨by decide +kernel, rfl⟩
theorem iX5_walks_81 : decode cX5_walks 81 = .ok (.aload_n 0, 1) ∧ 81 + 1 = 82 := ⟨by decide +kernel, rfl⟩
theorem iX5_walks_82 : decode cX5_walks 82 = .ok (.getfield 33, 3) ∧ 82 + 3 = 85 := ⟨by decide +kernel, rfl⟩
theorem iX5_walks_85 : decode cX5_walks 85 = .ok (.invokevirtual 219, 3) ∧ 85 + 3 = 88 := ⟨by decide +kernel, rfl⟩
theorem iX5_walks_88 : decode cX5_walks 88 = .ok (.ireturn, 1) ∧ 88 + 1 = 89 := ⟨by decide +kernel, rfl⟩
theorem iX5_walks_89 : decode cX5_walks 89 = .ok (.aload_n 0, 1) ∧ 89 + 1 = 90 := ⟨by decide +kernel, rfl⟩
theorem iX5_walks_90 : decode cX5_walks 90 = .ok (.getfield 46, 3) ∧ 90 + 3 = 93 := ⟨by decide +kernel, rfl⟩
theorem iX5_walks_93 : decode cX5_walks 93 = .ok (.getfield 223, 3) ∧ 93 + 3 = 96 := ⟨by decide +kernel, rfl⟩
theorem iX5_walks_96 : decode cX5_walks 96 = .ok (.ireturn, 1) ∧ 96 + 1 = 97 := ⟨by decide +kernel, rfl⟩
theorem iX5_image_0 : decode cX5_image 0 = .ok (.aload_n 0, 1) ∧ 0 + 1 = 1 := ⟨by decide +kernel, rfl⟩
theorem iX5_image_1 : decode cX5_image 1 = .ok (.getfield 26, 3) ∧ 1 + 3 = 4 := ⟨by decide +kernel, rfl⟩
theorem iX5_image_4 : decode cX5_image 4 = .ok (.invokevirtual 184, 3) ∧ 4 + 3 = 7 := ⟨by decide +kernel, rfl⟩
theorem iX5_image_7 : decode cX5_image 7 = .ok (.ifCond .ne 6, 3) ∧ 7 + 3 = 10 := ⟨by decide +kernel, rfl⟩
theorem iX5_image_10 : decode cX5_image 10 = .ok (.bipush (-103), 2) ∧ 10 + 2 = 12 := ⟨by decide +kernel, rfl⟩
theorem iX5_image_12 : decode cX5_image 12 = .ok (.ireturn, 1) ∧ 12 + 1 = 13 := ⟨by decide +kernel, rfl⟩
theorem iX5_image_13 : decode cX5_image 13 = .ok (.aload_n 0, 1) ∧ 13 + 1 = 14 := ⟨by decide +kernel, rfl⟩
theorem iX5_image_14 : decode cX5_image 14 = .ok (.getfield 30, 3) ∧ 14 + 3 = 17 := ⟨by decide +kernel, rfl⟩
theorem iX5_image_17 : decode cX5_image 17 = .ok (.aload_n 0, 1) ∧ 17 + 1 = 18 := ⟨by decide +kernel, rfl⟩
theorem iX5_image_18 : decode cX5_image 18 = .ok (.getfield 26, 3) ∧ 18 + 3 = 21 := ⟨by decide +kernel, rfl⟩
theorem iX5_image_21 : decode cX5_image 21 = .ok (.invokevirtual 226, 3) ∧ 21 + 3 = 24 := ⟨by decide +kernel, rfl⟩
theorem iX5_image_24 : decode cX5_image 24 = .ok (.aload_n 0, 1) ∧ 24 + 1 = 25 := ⟨by decide +kernel, rfl⟩
theorem iX5_image_25 : decode cX5_image 25 = .ok (.iconst 1, 1) ∧ 25 + 1 = 26 := ⟨by decide +kernel, rfl⟩
theorem iX5_image_26 : decode cX5_image 26 = .ok (.putfield 50, 3) ∧ 26 + 3 = 29 := ⟨by decide +kernel, rfl⟩
theorem iX5_image_29 : decode cX5_image 29 = .ok (.aload_n 0, 1) ∧ 29 + 1 = 30 := ⟨by decide +kernel, rfl⟩
theorem iX5_image_30 : decode cX5_image 30 = .ok (.getfield 30, 3) ∧ 30 + 3 = 33 := ⟨by decide +kernel, rfl⟩
theorem iX5_image_33 : decode cX5_image 33 = .ok (.getfield 111, 3) ∧ 33 + 3 = 36 := ⟨by decide +kernel, rfl⟩
theorem iX5_image_36 : decode cX5_image 36 = .ok (.ireturn, 1) ∧ 36 + 1 = 37 := ⟨by decide +kernel, rfl⟩
theorem iX5_restore_0 : decode cX5_restore 0 = .ok (.aload_n 0, 1) ∧ 0 + 1 = 1 := ⟨by decide +kernel, rfl⟩
theorem iX5_restore_1 : decode cX5_restore 1 = .ok (.getfield 50, 3) ∧ 1 + 3 = 4 := ⟨by decide +kernel, rfl⟩
theorem iX5_restore_4 : decode cX5_restore 4 = .ok (.ifCond .ne 6, 3) ∧ 4 + 3 = 7 := ⟨by decide +kernel, rfl⟩
theorem iX5_restore_7 : decode cX5_restore 7 = .ok (.bipush (-103), 2) ∧ 7 + 2 = 9 := ⟨by decide +kernel, rfl⟩
theorem iX5_restore_9 : decode cX5_restore 9 = .ok (.ireturn, 1) ∧ 9 + 1 = 10 := ⟨by decide +kernel, rfl⟩
theorem iX5_restore_10 : decode cX5_restore 10 = .ok (.aload_n 0, 1) ∧ 10 + 1 = 11 := ⟨by decide +kernel, rfl⟩
theorem iX5_restore_11 : decode cX5_restore 11 = .ok (.getfield 26, 3) ∧ 11 + 3 = 14 := ⟨by decide +kernel, rfl⟩
theorem iX5_restore_14 : decode cX5_restore 14 = .ok (.aload_n 0, 1) ∧ 14 + 1 = 15 := ⟨by decide +kernel, rfl⟩
theorem iX5_restore_15 : decode cX5_restore 15 = .ok (.getfield 30, 3) ∧ 15 + 3 = 18 := ⟨by decide +kernel, rfl⟩
theorem iX5_restore_18 : decode cX5_restore 18 = .ok (.invokevirtual 226, 3) ∧ 18 + 3 = 21 := ⟨by decide +kernel, rfl⟩
theorem iX5_restore_21 : decode cX5_restore 21 = .ok (.aload_n 0, 1) ∧ 21 + 1 = 22 := ⟨by decide +kernel, rfl⟩
theorem iX5_restore_22 : decode cX5_restore 22 = .ok (.getfield 26, 3) ∧ 22 + 3 = 25 := ⟨by decide +kernel, rfl⟩
theorem iX5_restore_25 : decode cX5_restore 25 = .ok (.getfield 111, 3) ∧ 25 + 3 = 28 := ⟨by decide +kernel, rfl⟩
theorem iX5_restore_28 : decode cX5_restore 28 = .ok (.ireturn, 1) ∧ 28 + 1 = 29 := ⟨by decide +kernel, rfl⟩
theorem iX5_count_0 : decode cX5_count 0 = .ok (.iload_n 1, 1) ∧ 0 + 1 = 1 := ⟨by decide +kernel, rfl⟩
theorem iX5_count_1 : decode cX5_count 1 = .ok (.tableswitch 124 0 8 #[51, 59, 67, 78, 86, 94, 103, 111, 119], 51) ∧ 1 + 51 = 52 := ⟨by decide +kernel, rfl⟩
theorem iX5_count_52 : decode cX5_count 52 = .ok (.aload_n 0, 1) ∧ 52 + 1 = 53 := ⟨by decide +kernel, rfl⟩
theorem iX5_count_53 : decode cX5_count 53 = .ok (.getfield 19, 3) ∧ 53 + 3 = 56 := ⟨by decide +kernel, rfl⟩
theorem iX5_count_56 : decode cX5_count 56 = .ok (.getfield 230, 3) ∧ 56 + 3 = 59 := ⟨by decide +kernel, rfl⟩
theorem iX5_count_59 : decode cX5_count 59 = .ok (.ireturn, 1) ∧ 59 + 1 = 60 := ⟨by decide +kernel, rfl⟩
theorem iX5_count_60 : decode cX5_count 60 = .ok (.aload_n 0, 1) ∧ 60 + 1 = 61 := ⟨by decide +kernel, rfl⟩
theorem iX5_count_61 : decode cX5_count 61 = .ok (.getfield 19, 3) ∧ 61 + 3 = 64 := ⟨by decide +kernel, rfl⟩
theorem iX5_count_64 : decode cX5_count 64 = .ok (.getfield 232, 3) ∧ 64 + 3 = 67 := ⟨by decide +kernel, rfl⟩
theorem iX5_count_67 : decode cX5_count 67 = .ok (.ireturn, 1) ∧ 67 + 1 = 68 := ⟨by decide +kernel, rfl⟩
theorem iX5_count_68 : decode cX5_count 68 = .ok (.aload_n 0, 1) ∧ 68 + 1 = 69 := ⟨by decide +kernel, rfl⟩
theorem iX5_count_69 : decode cX5_count 69 = .ok (.getfield 26, 3) ∧ 69 + 3 = 72 := ⟨by decide +kernel, rfl⟩
theorem iX5_count_72 : decode cX5_count 72 = .ok (.getfield 89, 3) ∧ 72 + 3 = 75 := ⟨by decide +kernel, rfl⟩
theorem iX5_count_75 : decode cX5_count 75 = .ok (.invokestatic 168, 3) ∧ 75 + 3 = 78 := ⟨by decide +kernel, rfl⟩
theorem iX5_count_78 : decode cX5_count 78 = .ok (.ireturn, 1) ∧ 78 + 1 = 79 := ⟨by decide +kernel, rfl⟩
theorem iX5_count_79 : decode cX5_count 79 = .ok (.aload_n 0, 1) ∧ 79 + 1 = 80 := ⟨by decide +kernel, rfl⟩
theorem iX5_count_80 : decode cX5_count 80 = .ok (.getfield 26, 3) ∧ 80 + 3 = 83 := ⟨by decide +kernel, rfl⟩
theorem iX5_count_83 : decode cX5_count 83 = .ok (.getfield 95, 3) ∧ 83 + 3 = 86 := ⟨by decide +kernel, rfl⟩
theorem iX5_count_86 : decode cX5_count 86 = .ok (.ireturn, 1) ∧ 86 + 1 = 87 := ⟨by decide +kernel, rfl⟩
theorem iX5_count_87 : decode cX5_count 87 = .ok (.aload_n 0, 1) ∧ 87 + 1 = 88 := ⟨by decide +kernel, rfl⟩
theorem iX5_count_88 : decode cX5_count 88 = .ok (.getfield 26, 3) ∧ 88 + 3 = 91 := ⟨by decide +kernel, rfl⟩
theorem iX5_count_91 : decode cX5_count 91 = .ok (.getfield 111, 3) ∧ 91 + 3 = 94 := ⟨by decide +kernel, rfl⟩
theorem iX5_count_94 : decode cX5_count 94 = .ok (.ireturn, 1) ∧ 94 + 1 = 95 := ⟨by decide +kernel, rfl⟩
theorem iX5_count_95 : decode cX5_count 95 = .ok (.aload_n 0, 1) ∧ 95 + 1 = 96 := ⟨by decide +kernel, rfl⟩
theorem iX5_count_96 : decode cX5_count 96 = .ok (.aload_n 0, 1) ∧ 96 + 1 = 97 := ⟨by decide +kernel, rfl⟩
theorem iX5_count_97 : decode cX5_count 97 = .ok (.getfield 26, 3) ∧ 97 + 3 = 100 := ⟨by decide +kernel, rfl⟩
theorem iX5_count_100 : decode cX5_count 100 = .ok (.invokevirtual 219, 3) ∧ 100 + 3 = 103 := ⟨by decide +kernel, rfl⟩
theorem iX5_count_103 : decode cX5_count 103 = .ok (.ireturn, 1) ∧ 103 + 1 = 104 := ⟨by decide +kernel, rfl⟩
theorem iX5_count_104 : decode cX5_count 104 = .ok (.aload_n 0, 1) ∧ 104 + 1 = 105 := ⟨by decide +kernel, rfl⟩
theorem iX5_count_105 : decode cX5_count 105 = .ok (.getfield 26, 3) ∧ 105 + 3 = 108 := ⟨by decide +kernel, rfl⟩
theorem iX5_count_108 : decode cX5_count 108 = .ok (.getfield 114, 3) ∧ 108 + 3 = 111 := ⟨by decide +kernel, rfl⟩
theorem iX5_count_111 : decode cX5_count 111 = .ok (.ireturn, 1) ∧ 111 + 1 = 112 := ⟨by decide +kernel, rfl⟩
theorem iX5_count_112 : decode cX5_count 112 = .ok (.aload_n 0, 1) ∧ 112 + 1 = 113 := ⟨by decide +kernel, rfl⟩
theorem iX5_count_113 : decode cX5_count 113 = .ok (.getfield 10, 3) ∧ 113 + 3 = 116 := ⟨by decide +kernel, rfl⟩
theorem iX5_count_116 : decode cX5_count 116 = .ok (.getfield 62, 3) ∧ 116 + 3 = 119 := ⟨by decide +kernel, rfl⟩
theorem iX5_count_119 : decode cX5_count 119 = .ok (.ireturn, 1) ∧ 119 + 1 = 120 := ⟨by decide +kernel, rfl⟩
theorem iX5_count_120 : decode cX5_count 120 = .ok (.aload_n 0, 1) ∧ 120 + 1 = 121 := ⟨by decide +kernel, rfl⟩
theorem iX5_count_121 : decode cX5_count 121 = .ok (.getfield 54, 3) ∧ 121 + 3 = 124 := ⟨by decide +kernel, rfl⟩
theorem iX5_count_124 : decode cX5_count 124 = .ok (.ireturn, 1) ∧ 124 + 1 = 125 := ⟨by decide +kernel, rfl⟩
theorem iX5_count_125 : decode cX5_count 125 = .ok (.bipush (-102), 2) ∧ 125 + 2 = 127 := ⟨by decide +kernel, rfl⟩
theorem iX5_count_127 : decode cX5_count 127 = .ok (.ireturn, 1) ∧ 127 + 1 = 128 := ⟨by decide +kernel, rfl⟩
theorem iX5_digest_0 : decode cX5_digest 0 = .ok (.ldc2_w 234, 3) ∧ 0 + 3 = 3 := ⟨by decide +kernel, rfl⟩
theorem iX5_digest_3 : decode cX5_digest 3 = .ok (.lstore_n 1, 1) ∧ 3 + 1 = 4 := ⟨by decide +kernel, rfl⟩
theorem iX5_digest_4 : decode cX5_digest 4 = .ok (.aload_n 0, 1) ∧ 4 + 1 = 5 := ⟨by decide +kernel, rfl⟩
theorem iX5_digest_5 : decode cX5_digest 5 = .ok (.lload_n 1, 1) ∧ 5 + 1 = 6 := ⟨by decide +kernel, rfl⟩
theorem iX5_digest_6 : decode cX5_digest 6 = .ok (.invokevirtual 236, 3) ∧ 6 + 3 = 9 := ⟨by decide +kernel, rfl⟩
theorem iX5_digest_9 : decode cX5_digest 9 = .ok (.lstore_n 1, 1) ∧ 9 + 1 = 10 := ⟨by decide +kernel, rfl⟩
theorem iX5_digest_10 : decode cX5_digest 10 = .ok (.aload_n 0, 1) ∧ 10 + 1 = 11 := ⟨by decide +kernel, rfl⟩
theorem iX5_digest_11 : decode cX5_digest 11 = .ok (.lload_n 1, 1) ∧ 11 + 1 = 12 := ⟨by decide +kernel, rfl⟩
theorem iX5_digest_12 : decode cX5_digest 12 = .ok (.invokevirtual 240, 3) ∧ 12 + 3 = 15 := ⟨by decide +kernel, rfl⟩
theorem iX5_digest_15 : decode cX5_digest 15 = .ok (.lstore_n 1, 1) ∧ 15 + 1 = 16 := ⟨by decide +kernel, rfl⟩
theorem iX5_digest_16 : decode cX5_digest 16 = .ok (.aload_n 0, 1) ∧ 16 + 1 = 17 := ⟨by decide +kernel, rfl⟩
theorem iX5_digest_17 : decode cX5_digest 17 = .ok (.getfield 26, 3) ∧ 17 + 3 = 20 := ⟨by decide +kernel, rfl⟩
theorem iX5_digest_20 : decode cX5_digest 20 = .ok (.invokevirtual 184, 3) ∧ 20 + 3 = 23 := ⟨by decide +kernel, rfl⟩
theorem iX5_digest_23 : decode cX5_digest 23 = .ok (.ifCond .eq 9, 3) ∧ 23 + 3 = 26 := ⟨by decide +kernel, rfl⟩
theorem iX5_digest_26 : decode cX5_digest 26 = .ok (.aload_n 0, 1) ∧ 26 + 1 = 27 := ⟨by decide +kernel, rfl⟩
theorem iX5_digest_27 : decode cX5_digest 27 = .ok (.lload_n 1, 1) ∧ 27 + 1 = 28 := ⟨by decide +kernel, rfl⟩
theorem iX5_digest_28 : decode cX5_digest 28 = .ok (.invokevirtual 243, 3) ∧ 28 + 3 = 31 := ⟨by decide +kernel, rfl⟩
theorem iX5_digest_31 : decode cX5_digest 31 = .ok (.lstore_n 1, 1) ∧ 31 + 1 = 32 := ⟨by decide +kernel, rfl⟩
theorem iX5_digest_32 : decode cX5_digest 32 = .ok (.aload_n 0, 1) ∧ 32 + 1 = 33 := ⟨by decide +kernel, rfl⟩
theorem iX5_digest_33 : decode cX5_digest 33 = .ok (.getfield 26, 3) ∧ 33 + 3 = 36 := ⟨by decide +kernel, rfl⟩
theorem iX5_digest_36 : decode cX5_digest 36 = .ok (.getfield 95, 3) ∧ 36 + 3 = 39 := ⟨by decide +kernel, rfl⟩
theorem iX5_digest_39 : decode cX5_digest 39 = .ok (.iconst 2, 1) ∧ 39 + 1 = 40 := ⟨by decide +kernel, rfl⟩
theorem iX5_digest_40 : decode cX5_digest 40 = .ok (.if_icmp .lt 15, 3) ∧ 40 + 3 = 43 := ⟨by decide +kernel, rfl⟩
theorem iX5_digest_43 : decode cX5_digest 43 = .ok (.lload_n 1, 1) ∧ 43 + 1 = 44 := ⟨by decide +kernel, rfl⟩
theorem iX5_digest_44 : decode cX5_digest 44 = .ok (.aload_n 0, 1) ∧ 44 + 1 = 45 := ⟨by decide +kernel, rfl⟩
theorem iX5_digest_45 : decode cX5_digest 45 = .ok (.iconst 0, 1) ∧ 45 + 1 = 46 := ⟨by decide +kernel, rfl⟩
theorem iX5_digest_46 : decode cX5_digest 46 = .ok (.iconst 1, 1) ∧ 46 + 1 = 47 := ⟨by decide +kernel, rfl⟩
theorem iX5_digest_47 : decode cX5_digest 47 = .ok (.invokevirtual 246, 3) ∧ 47 + 3 = 50 := ⟨by decide +kernel, rfl⟩
theorem iX5_digest_50 : decode cX5_digest 50 = .ok (.i2l, 1) ∧ 50 + 1 = 51 := ⟨by decide +kernel, rfl⟩
theorem iX5_digest_51 : decode cX5_digest 51 = .ok (.invokestatic 249, 3) ∧ 51 + 3 = 54 := ⟨by decide +kernel, rfl⟩
theorem iX5_digest_54 : decode cX5_digest 54 = .ok (.lstore_n 1, 1) ∧ 54 + 1 = 55 := ⟨by decide +kernel, rfl⟩
theorem iX5_digest_55 : decode cX5_digest 55 = .ok (.iconst 0, 1) ∧ 55 + 1 = 56 := ⟨by decide +kernel, rfl⟩
theorem iX5_digest_56 : decode cX5_digest 56 = .ok (.istore_n 3, 1) ∧ 56 + 1 = 57 := ⟨by decide +kernel, rfl⟩
theorem iX5_digest_57 : decode cX5_digest 57 = .ok (.iload_n 3, 1) ∧ 57 + 1 = 58 := ⟨by decide +kernel, rfl⟩
theorem iX5_digest_58 : decode cX5_digest 58 = .ok (.aload_n 0, 1) ∧ 58 + 1 = 59 := ⟨by decide +kernel, rfl⟩
theorem iX5_digest_59 : decode cX5_digest 59 = .ok (.getfield 10, 3) ∧ 59 + 3 = 62 := ⟨by decide +kernel, rfl⟩
theorem iX5_digest_62 : decode cX5_digest 62 = .ok (.getfield 62, 3) ∧ 62 + 3 = 65 := ⟨by decide +kernel, rfl⟩
theorem iX5_digest_65 : decode cX5_digest 65 = .ok (.if_icmp .ge 23, 3) ∧ 65 + 3 = 68 := ⟨by decide +kernel, rfl⟩
theorem iX5_digest_68 : decode cX5_digest 68 = .ok (.lload_n 1, 1) ∧ 68 + 1 = 69 := ⟨by decide +kernel, rfl⟩
theorem iX5_digest_69 : decode cX5_digest 69 = .ok (.aload_n 0, 1) ∧ 69 + 1 = 70 := ⟨by decide +kernel, rfl⟩
theorem iX5_digest_70 : decode cX5_digest 70 = .ok (.getfield 10, 3) ∧ 70 + 3 = 73 := ⟨by decide +kernel, rfl⟩
theorem iX5_digest_73 : decode cX5_digest 73 = .ok (.iload_n 3, 1) ∧ 73 + 1 = 74 := ⟨by decide +kernel, rfl⟩
theorem iX5_digest_74 : decode cX5_digest 74 = .ok (.invokevirtual 253, 3) ∧ 74 + 3 = 77 := ⟨by decide +kernel, rfl⟩
theorem iX5_digest_77 : decode cX5_digest 77 = .ok (.i2l, 1) ∧ 77 + 1 = 78 := ⟨by decide +kernel, rfl⟩
theorem iX5_digest_78 : decode cX5_digest 78 = .ok (.invokestatic 249, 3) ∧ 78 + 3 = 81 := ⟨by decide +kernel, rfl⟩
theorem iX5_digest_81 : decode cX5_digest 81 = .ok (.lstore_n 1, 1) ∧ 81 + 1 = 82 := ⟨by decide +kernel, rfl⟩
theorem iX5_digest_82 : decode cX5_digest 82 = .ok (.iinc 3 1, 3) ∧ 82 + 3 = 85 := ⟨by decide +kernel, rfl⟩
theorem iX5_digest_85 : decode cX5_digest 85 = .ok (.goto (-28), 3) ∧ 85 + 3 = 88 := ⟨by decide +kernel, rfl⟩
theorem iX5_digest_88 : decode cX5_digest 88 = .ok (.iconst 0, 1) ∧ 88 + 1 = 89 := ⟨by decide +kernel, rfl⟩
theorem iX5_digest_89 : decode cX5_digest 89 = .ok (.istore_n 3, 1) ∧ 89 + 1 = 90 := ⟨by decide +kernel, rfl⟩
theorem iX5_digest_90 : decode cX5_digest 90 = .ok (.iload_n 3, 1) ∧ 90 + 1 = 91 := ⟨by decide +kernel, rfl⟩
theorem iX5_digest_91 : decode cX5_digest 91 = .ok (.bipush 8, 2) ∧ 91 + 2 = 93 := ⟨by decide +kernel, rfl⟩
theorem iX5_digest_93 : decode cX5_digest 93 = .ok (.if_icmp .gt 20, 3) ∧ 93 + 3 = 96 := ⟨by decide +kernel, rfl⟩
theorem iX5_digest_96 : decode cX5_digest 96 = .ok (.lload_n 1, 1) ∧ 96 + 1 = 97 := ⟨by decide +kernel, rfl⟩
theorem iX5_digest_97 : decode cX5_digest 97 = .ok (.aload_n 0, 1) ∧ 97 + 1 = 98 := ⟨by decide +kernel, rfl⟩
theorem iX5_digest_98 : decode cX5_digest 98 = .ok (.iload_n 3, 1) ∧ 98 + 1 = 99 := ⟨by decide +kernel, rfl⟩
theorem iX5_digest_99 : decode cX5_digest 99 = .ok (.invokevirtual 256, 3) ∧ 99 + 3 = 102 := ⟨by decide +kernel, rfl⟩
theorem iX5_digest_102 : decode cX5_digest 102 = .ok (.i2l, 1) ∧ 102 + 1 = 103 := ⟨by decide +kernel, rfl⟩
theorem iX5_digest_103 : decode cX5_digest 103 = .ok (.invokestatic 249, 3) ∧ 103 + 3 = 106 := ⟨by decide +kernel, rfl⟩
theorem iX5_digest_106 : decode cX5_digest 106 = .ok (.lstore_n 1, 1) ∧ 106 + 1 = 107 := ⟨by decide +kernel, rfl⟩
theorem iX5_digest_107 : decode cX5_digest 107 = .ok (.iinc 3 1, 3) ∧ 107 + 3 = 110 := ⟨by decide +kernel, rfl⟩
theorem iX5_digest_110 : decode cX5_digest 110 = .ok (.goto (-20), 3) ∧ 110 + 3 = 113 := ⟨by decide +kernel, rfl⟩
theorem iX5_digest_113 : decode cX5_digest 113 = .ok (.lload_n 1, 1) ∧ 113 + 1 = 114 := ⟨by decide +kernel, rfl⟩
theorem iX5_digest_114 : decode cX5_digest 114 = .ok (.lreturn, 1) ∧ 114 + 1 = 115 := ⟨by decide +kernel, rfl⟩
theorem iX5_mix_0 : decode cX5_mix 0 = .ok (.ldc2_w 259, 3) ∧ 0 + 3 = 3 := ⟨by decide +kernel, rfl⟩
theorem iX5_mix_3 : decode cX5_mix 3 = .ok (.lload_n 0, 1) ∧ 3 + 1 = 4 := ⟨by decide +kernel, rfl⟩
theorem iX5_mix_4 : decode cX5_mix 4 = .ok (.lmul, 1) ∧ 4 + 1 = 5 := ⟨by decide +kernel, rfl⟩
theorem iX5_mix_5 : decode cX5_mix 5 = .ok (.lload_n 2, 1) ∧ 5 + 1 = 6 := ⟨by decide +kernel, rfl⟩
theorem iX5_mix_6 : decode cX5_mix 6 = .ok (.ladd, 1) ∧ 6 + 1 = 7 := ⟨by decide +kernel, rfl⟩
theorem iX5_mix_7 : decode cX5_mix 7 = .ok (.lreturn, 1) ∧ 7 + 1 = 8 := ⟨by decide +kernel, rfl⟩
theorem iX5_mixLeapers_0 : decode cX5_mixLeapers 0 = .ok (.lload_n 1, 1) ∧ 0 + 1 = 1 := ⟨by decide +kernel, rfl⟩
theorem iX5_mixLeapers_1 : decode cX5_mixLeapers 1 = .ok (.lstore_n 3, 1) ∧ 1 + 1 = 2 := ⟨by decide +kernel, rfl⟩
theorem iX5_mixLeapers_2 : decode cX5_mixLeapers 2 = .ok (.iconst 0, 1) ∧ 2 + 1 = 3 := ⟨by decide +kernel, rfl⟩
theorem iX5_mixLeapers_3 : decode cX5_mixLeapers 3 = .ok (.istore 5, 2) ∧ 3 + 2 = 5 := ⟨by decide +kernel, rfl⟩
theorem iX5_mixLeapers_5 : decode cX5_mixLeapers 5 = .ok (.iload 5, 2) ∧ 5 + 2 = 7 := ⟨by decide +kernel, rfl⟩
theorem iX5_mixLeapers_7 : decode cX5_mixLeapers 7 = .ok (.aload_n 0, 1) ∧ 7 + 1 = 8 := ⟨by decide +kernel, rfl⟩
theorem iX5_mixLeapers_8 : decode cX5_mixLeapers 8 = .ok (.getfield 26, 3) ∧ 8 + 3 = 11 := ⟨by decide +kernel, rfl⟩
theorem iX5_mixLeapers_11 : decode cX5_mixLeapers 11 = .ok (.getfield 95, 3) ∧ 11 + 3 = 14 := ⟨by decide +kernel, rfl⟩
theorem iX5_mixLeapers_14 : decode cX5_mixLeapers 14 = .ok (.if_icmp .ge 66, 3) ∧ 14 + 3 = 17 := ⟨by decide +kernel, rfl⟩
theorem iX5_mixLeapers_17 : decode cX5_mixLeapers 17 = .ok (.iconst 0, 1) ∧ 17 + 1 = 18 := ⟨by decide +kernel, rfl⟩
theorem iX5_mixLeapers_18 : decode cX5_mixLeapers 18 = .ok (.istore 6, 2) ∧ 18 + 2 = 20 := ⟨by decide +kernel, rfl⟩
theorem iX5_mixLeapers_20 : decode cX5_mixLeapers 20 = .ok (.iload 6, 2) ∧ 20 + 2 = 22 := ⟨by decide +kernel, rfl⟩
theorem iX5_mixLeapers_22 : decode cX5_mixLeapers 22 = .ok (.bipush 7, 2) ∧ 22 + 2 = 24 := ⟨by decide +kernel, rfl⟩
theorem iX5_mixLeapers_24 : decode cX5_mixLeapers 24 = .ok (.if_icmp .gt 23, 3) ∧ 24 + 3 = 27 := ⟨by decide +kernel, rfl⟩
theorem iX5_mixLeapers_27 : decode cX5_mixLeapers 27 = .ok (.lload_n 3, 1) ∧ 27 + 1 = 28 := ⟨by decide +kernel, rfl⟩
theorem iX5_mixLeapers_28 : decode cX5_mixLeapers 28 = .ok (.aload_n 0, 1) ∧ 28 + 1 = 29 := ⟨by decide +kernel, rfl⟩
theorem iX5_mixLeapers_29 : decode cX5_mixLeapers 29 = .ok (.iload 5, 2) ∧ 29 + 2 = 31 := ⟨by decide +kernel, rfl⟩
theorem iX5_mixLeapers_31 : decode cX5_mixLeapers 31 = .ok (.iload 6, 2) ∧ 31 + 2 = 33 := ⟨by decide +kernel, rfl⟩
theorem iX5_mixLeapers_33 : decode cX5_mixLeapers 33 = .ok (.invokevirtual 261, 3) ∧ 33 + 3 = 36 := ⟨by decide +kernel, rfl⟩
theorem iX5_mixLeapers_36 : decode cX5_mixLeapers 36 = .ok (.i2l, 1) ∧ 36 + 1 = 37 := ⟨by decide +kernel, rfl⟩
theorem iX5_mixLeapers_37 : decode cX5_mixLeapers 37 = .ok (.invokestatic 249, 3) ∧ 37 + 3 = 40 := ⟨by decide +kernel, rfl⟩
theorem iX5_mixLeapers_40 : decode cX5_mixLeapers 40 = .ok (.lstore_n 3, 1) ∧ 40 + 1 = 41 := ⟨by decide +kernel, rfl⟩
theorem iX5_mixLeapers_41 : decode cX5_mixLeapers 41 = .ok (.iinc 6 1, 3) ∧ 41 + 3 = 44 := ⟨by decide +kernel, rfl⟩
theorem iX5_mixLeapers_44 : decode cX5_mixLeapers 44 = .ok (.goto (-24), 3) ∧ 44 + 3 = 47 := ⟨by decide +kernel, rfl⟩
theorem iX5_mixLeapers_47 : decode cX5_mixLeapers 47 = .ok (.lload_n 3, 1) ∧ 47 + 1 = 48 := ⟨by decide +kernel, rfl⟩
theorem iX5_mixLeapers_48 : decode cX5_mixLeapers 48 = .ok (.aload_n 0, 1) ∧ 48 + 1 = 49 := ⟨by decide +kernel, rfl⟩
theorem iX5_mixLeapers_49 : decode cX5_mixLeapers 49 = .ok (.iload 5, 2) ∧ 49 + 2 = 51 := ⟨by decide +kernel, rfl⟩
theorem iX5_mixLeapers_51 : decode cX5_mixLeapers 51 = .ok (.iconst 0, 1) ∧ 51 + 1 = 52 := ⟨by decide +kernel, rfl⟩
theorem iX5_mixLeapers_52 : decode cX5_mixLeapers 52 = .ok (.invokevirtual 264, 3) ∧ 52 + 3 = 55 := ⟨by decide +kernel, rfl⟩
theorem iX5_mixLeapers_55 : decode cX5_mixLeapers 55 = .ok (.i2l, 1) ∧ 55 + 1 = 56 := ⟨by decide +kernel, rfl⟩
theorem iX5_mixLeapers_56 : decode cX5_mixLeapers 56 = .ok (.invokestatic 249, 3) ∧ 56 + 3 = 59 := ⟨by decide +kernel, rfl⟩
theorem iX5_mixLeapers_59 : decode cX5_mixLeapers 59 = .ok (.lstore_n 3, 1) ∧ 59 + 1 = 60 := ⟨by decide +kernel, rfl⟩
theorem iX5_mixLeapers_60 : decode cX5_mixLeapers 60 = .ok (.lload_n 3, 1) ∧ 60 + 1 = 61 := ⟨by decide +kernel, rfl⟩
theorem iX5_mixLeapers_61 : decode cX5_mixLeapers 61 = .ok (.aload_n 0, 1) ∧ 61 + 1 = 62 := ⟨by decide +kernel, rfl⟩
theorem iX5_mixLeapers_62 : decode cX5_mixLeapers 62 = .ok (.iload 5, 2) ∧ 62 + 2 = 64 := ⟨by decide +kernel, rfl⟩
theorem iX5_mixLeapers_64 : decode cX5_mixLeapers 64 = .ok (.iconst 3, 1) ∧ 64 + 1 = 65 := ⟨by decide +kernel, rfl⟩
theorem iX5_mixLeapers_65 : decode cX5_mixLeapers 65 = .ok (.iconst 3, 1) ∧ 65 + 1 = 66 := ⟨by decide +kernel, rfl⟩
theorem iX5_mixLeapers_66 : decode cX5_mixLeapers 66 = .ok (.invokevirtual 267, 3) ∧ 66 + 3 = 69 := ⟨by decide +kernel, rfl⟩
theorem iX5_mixLeapers_69 : decode cX5_mixLeapers 69 = .ok (.i2l, 1) ∧ 69 + 1 = 70 := ⟨by decide +kernel, rfl⟩
theorem iX5_mixLeapers_70 : decode cX5_mixLeapers 70 = .ok (.invokestatic 249, 3) ∧ 70 + 3 = 73 := ⟨by decide +kernel, rfl⟩
theorem iX5_mixLeapers_73 : decode cX5_mixLeapers 73 = .ok (.lstore_n 3, 1) ∧ 73 + 1 = 74 := ⟨by decide +kernel, rfl⟩
theorem iX5_mixLeapers_74 : decode cX5_mixLeapers 74 = .ok (.iinc 5 1, 3) ∧ 74 + 3 = 77 := ⟨by decide +kernel, rfl⟩
theorem iX5_mixLeapers_77 : decode cX5_mixLeapers 77 = .ok (.goto (-72), 3) ∧ 77 + 3 = 80 := ⟨by decide +kernel, rfl⟩
theorem iX5_mixLeapers_80 : decode cX5_mixLeapers 80 = .ok (.lload_n 3, 1) ∧ 80 + 1 = 81 := ⟨by decide +kernel, rfl⟩
theorem iX5_mixLeapers_81 : decode cX5_mixLeapers 81 = .ok (.lreturn, 1) ∧ 81 + 1 = 82 := ⟨by decide +kernel, rfl⟩
theorem iX5_mixCells_0 : decode cX5_mixCells 0 = .ok (.lload_n 1, 1) ∧ 0 + 1 = 1 := ⟨by decide +kernel, rfl⟩
theorem iX5_mixCells_1 : decode cX5_mixCells 1 = .ok (.lstore_n 3, 1) ∧ 1 + 1 = 2 := ⟨by decide +kernel, rfl⟩
theorem iX5_mixCells_2 : decode cX5_mixCells 2 = .ok (.iconst 0, 1) ∧ 2 + 1 = 3 := ⟨by decide +kernel, rfl⟩
theorem iX5_mixCells_3 : decode cX5_mixCells 3 = .ok (.istore 5, 2) ∧ 3 + 2 = 5 := ⟨by decide +kernel, rfl⟩
theorem iX5_mixCells_5 : decode cX5_mixCells 5 = .ok (.iload 5, 2) ∧ 5 + 2 = 7 := ⟨by decide +kernel, rfl⟩
theorem iX5_mixCells_7 : decode cX5_mixCells 7 = .ok (.aload_n 0, 1) ∧ 7 + 1 = 8 := ⟨by decide +kernel, rfl⟩
theorem iX5_mixCells_8 : decode cX5_mixCells 8 = .ok (.getfield 19, 3) ∧ 8 + 3 = 11 := ⟨by decide +kernel, rfl⟩
theorem iX5_mixCells_11 : decode cX5_mixCells 11 = .ok (.getfield 117, 3) ∧ 11 + 3 = 14 := ⟨by decide +kernel, rfl⟩
theorem iX5_mixCells_14 : decode cX5_mixCells 14 = .ok (.if_icmp .ge 38, 3) ∧ 14 + 3 = 17 := ⟨by decide +kernel, rfl⟩
theorem iX5_mixCells_17 : decode cX5_mixCells 17 = .ok (.iconst 0, 1) ∧ 17 + 1 = 18 := ⟨by decide +kernel, rfl⟩
theorem iX5_mixCells_18 : decode cX5_mixCells 18 = .ok (.istore 6, 2) ∧ 18 + 2 = 20 := ⟨by decide +kernel, rfl⟩
theorem iX5_mixCells_20 : decode cX5_mixCells 20 = .ok (.iload 6, 2) ∧ 20 + 2 = 22 := ⟨by decide +kernel, rfl⟩
theorem iX5_mixCells_22 : decode cX5_mixCells 22 = .ok (.iconst 2, 1) ∧ 22 + 1 = 23 := ⟨by decide +kernel, rfl⟩
theorem iX5_mixCells_23 : decode cX5_mixCells 23 = .ok (.if_icmp .gt 23, 3) ∧ 23 + 3 = 26 := ⟨by decide +kernel, rfl⟩
theorem iX5_mixCells_26 : decode cX5_mixCells 26 = .ok (.lload_n 3, 1) ∧ 26 + 1 = 27 := ⟨by decide +kernel, rfl⟩
theorem iX5_mixCells_27 : decode cX5_mixCells 27 = .ok (.aload_n 0, 1) ∧ 27 + 1 = 28 := ⟨by decide +kernel, rfl⟩
theorem iX5_mixCells_28 : decode cX5_mixCells 28 = .ok (.iload 5, 2) ∧ 28 + 2 = 30 := ⟨by decide +kernel, rfl⟩
theorem iX5_mixCells_30 : decode cX5_mixCells 30 = .ok (.iload 6, 2) ∧ 30 + 2 = 32 := ⟨by decide +kernel, rfl⟩
theorem iX5_mixCells_32 : decode cX5_mixCells 32 = .ok (.invokevirtual 271, 3) ∧ 32 + 3 = 35 := ⟨by decide +kernel, rfl⟩
theorem iX5_mixCells_35 : decode cX5_mixCells 35 = .ok (.i2l, 1) ∧ 35 + 1 = 36 := ⟨by decide +kernel, rfl⟩
theorem iX5_mixCells_36 : decode cX5_mixCells 36 = .ok (.invokestatic 249, 3) ∧ 36 + 3 = 39 := ⟨by decide +kernel, rfl⟩
theorem iX5_mixCells_39 : decode cX5_mixCells 39 = .ok (.lstore_n 3, 1) ∧ 39 + 1 = 40 := ⟨by decide +kernel, rfl⟩
theorem iX5_mixCells_40 : decode cX5_mixCells 40 = .ok (.iinc 6 1, 3) ∧ 40 + 3 = 43 := ⟨by decide +kernel, rfl⟩
theorem iX5_mixCells_43 : decode cX5_mixCells 43 = .ok (.goto (-23), 3) ∧ 43 + 3 = 46 := ⟨by decide +kernel, rfl⟩
theorem iX5_mixCells_46 : decode cX5_mixCells 46 = .ok (.iinc 5 1, 3) ∧ 46 + 3 = 49 := ⟨by decide +kernel, rfl⟩
theorem iX5_mixCells_49 : decode cX5_mixCells 49 = .ok (.goto (-44), 3) ∧ 49 + 3 = 52 := ⟨by decide +kernel, rfl⟩
theorem iX5_mixCells_52 : decode cX5_mixCells 52 = .ok (.lload_n 3, 1) ∧ 52 + 1 = 53 := ⟨by decide +kernel, rfl⟩
theorem iX5_mixCells_53 : decode cX5_mixCells 53 = .ok (.lreturn, 1) ∧ 53 + 1 = 54 := ⟨by decide +kernel, rfl⟩
theorem iX5_mixKinds_0 : decode cX5_mixKinds 0 = .ok (.lload_n 1, 1) ∧ 0 + 1 = 1 := ⟨by decide +kernel, rfl⟩
theorem iX5_mixKinds_1 : decode cX5_mixKinds 1 = .ok (.lstore_n 3, 1) ∧ 1 + 1 = 2 := ⟨by decide +kernel, rfl⟩
theorem iX5_mixKinds_2 : decode cX5_mixKinds 2 = .ok (.iconst 0, 1) ∧ 2 + 1 = 3 := ⟨by decide +kernel, rfl⟩
theorem iX5_mixKinds_3 : decode cX5_mixKinds 3 = .ok (.istore 5, 2) ∧ 3 + 2 = 5 := ⟨by decide +kernel, rfl⟩
theorem iX5_mixKinds_5 : decode cX5_mixKinds 5 = .ok (.iload 5, 2) ∧ 5 + 2 = 7 := ⟨by decide +kernel, rfl⟩
theorem iX5_mixKinds_7 : decode cX5_mixKinds 7 = .ok (.iconst 5, 1) ∧ 7 + 1 = 8 := ⟨by decide +kernel, rfl⟩
theorem iX5_mixKinds_8 : decode cX5_mixKinds 8 = .ok (.if_icmp .ge 87, 3) ∧ 8 + 3 = 11 := ⟨by decide +kernel, rfl⟩
theorem iX5_mixKinds_11 : decode cX5_mixKinds 11 = .ok (.lload_n 3, 1) ∧ 11 + 1 = 12 := ⟨by decide +kernel, rfl⟩
theorem iX5_mixKinds_12 : decode cX5_mixKinds 12 = .ok (.aload_n 0, 1) ∧ 12 + 1 = 13 := ⟨by decide +kernel, rfl⟩
theorem iX5_mixKinds_13 : decode cX5_mixKinds 13 = .ok (.iload 5, 2) ∧ 13 + 2 = 15 := ⟨by decide +kernel, rfl⟩
theorem iX5_mixKinds_15 : decode cX5_mixKinds 15 = .ok (.iconst 0, 1) ∧ 15 + 1 = 16 := ⟨by decide +kernel, rfl⟩
theorem iX5_mixKinds_16 : decode cX5_mixKinds 16 = .ok (.invokevirtual 274, 3) ∧ 16 + 3 = 19 := ⟨by decide +kernel, rfl⟩
theorem iX5_mixKinds_19 : decode cX5_mixKinds 19 = .ok (.i2l, 1) ∧ 19 + 1 = 20 := ⟨by decide +kernel, rfl⟩
theorem iX5_mixKinds_20 : decode cX5_mixKinds 20 = .ok (.invokestatic 249, 3) ∧ 20 + 3 = 23 := ⟨by decide +kernel, rfl⟩
theorem iX5_mixKinds_23 : decode cX5_mixKinds 23 = .ok (.lstore_n 3, 1) ∧ 23 + 1 = 24 := ⟨by decide +kernel, rfl⟩
theorem iX5_mixKinds_24 : decode cX5_mixKinds 24 = .ok (.lload_n 3, 1) ∧ 24 + 1 = 25 := ⟨by decide +kernel, rfl⟩
theorem iX5_mixKinds_25 : decode cX5_mixKinds 25 = .ok (.aload_n 0, 1) ∧ 25 + 1 = 26 := ⟨by decide +kernel, rfl⟩
theorem iX5_mixKinds_26 : decode cX5_mixKinds 26 = .ok (.iload 5, 2) ∧ 26 + 2 = 28 := ⟨by decide +kernel, rfl⟩
theorem iX5_mixKinds_28 : decode cX5_mixKinds 28 = .ok (.iconst 1, 1) ∧ 28 + 1 = 29 := ⟨by decide +kernel, rfl⟩
theorem iX5_mixKinds_29 : decode cX5_mixKinds 29 = .ok (.invokevirtual 274, 3) ∧ 29 + 3 = 32 := ⟨by decide +kernel, rfl⟩
theorem iX5_mixKinds_32 : decode cX5_mixKinds 32 = .ok (.i2l, 1) ∧ 32 + 1 = 33 := ⟨by decide +kernel, rfl⟩
theorem iX5_mixKinds_33 : decode cX5_mixKinds 33 = .ok (.invokestatic 249, 3) ∧ 33 + 3 = 36 := ⟨by decide +kernel, rfl⟩
theorem iX5_mixKinds_36 : decode cX5_mixKinds 36 = .ok (.lstore_n 3, 1) ∧ 36 + 1 = 37 := ⟨by decide +kernel, rfl⟩
theorem iX5_mixKinds_37 : decode cX5_mixKinds 37 = .ok (.lload_n 3, 1) ∧ 37 + 1 = 38 := ⟨by decide +kernel, rfl⟩
theorem iX5_mixKinds_38 : decode cX5_mixKinds 38 = .ok (.aload_n 0, 1) ∧ 38 + 1 = 39 := ⟨by decide +kernel, rfl⟩
theorem iX5_mixKinds_39 : decode cX5_mixKinds 39 = .ok (.iload 5, 2) ∧ 39 + 2 = 41 := ⟨by decide +kernel, rfl⟩
theorem iX5_mixKinds_41 : decode cX5_mixKinds 41 = .ok (.iconst 0, 1) ∧ 41 + 1 = 42 := ⟨by decide +kernel, rfl⟩
theorem iX5_mixKinds_42 : decode cX5_mixKinds 42 = .ok (.invokevirtual 277, 3) ∧ 42 + 3 = 45 := ⟨by decide +kernel, rfl⟩
theorem iX5_mixKinds_45 : decode cX5_mixKinds 45 = .ok (.i2l, 1) ∧ 45 + 1 = 46 := ⟨by decide +kernel, rfl⟩
theorem iX5_mixKinds_46 : decode cX5_mixKinds 46 = .ok (.invokestatic 249, 3) ∧ 46 + 3 = 49 := ⟨by decide +kernel, rfl⟩
theorem iX5_mixKinds_49 : decode cX5_mixKinds 49 = .ok (.lstore_n 3, 1) ∧ 49 + 1 = 50 := ⟨by decide +kernel, rfl⟩
theorem iX5_mixKinds_50 : decode cX5_mixKinds 50 = .ok (.lload_n 3, 1) ∧ 50 + 1 = 51 := ⟨by decide +kernel, rfl⟩
theorem iX5_mixKinds_51 : decode cX5_mixKinds 51 = .ok (.aload_n 0, 1) ∧ 51 + 1 = 52 := ⟨by decide +kernel, rfl⟩
theorem iX5_mixKinds_52 : decode cX5_mixKinds 52 = .ok (.iload 5, 2) ∧ 52 + 2 = 54 := ⟨by decide +kernel, rfl⟩
theorem iX5_mixKinds_54 : decode cX5_mixKinds 54 = .ok (.iconst 1, 1) ∧ 54 + 1 = 55 := ⟨by decide +kernel, rfl⟩
theorem iX5_mixKinds_55 : decode cX5_mixKinds 55 = .ok (.invokevirtual 277, 3) ∧ 55 + 3 = 58 := ⟨by decide +kernel, rfl⟩
theorem iX5_mixKinds_58 : decode cX5_mixKinds 58 = .ok (.i2l, 1) ∧ 58 + 1 = 59 := ⟨by decide +kernel, rfl⟩
theorem iX5_mixKinds_59 : decode cX5_mixKinds 59 = .ok (.invokestatic 249, 3) ∧ 59 + 3 = 62 := ⟨by decide +kernel, rfl⟩
theorem iX5_mixKinds_62 : decode cX5_mixKinds 62 = .ok (.lstore_n 3, 1) ∧ 62 + 1 = 63 := ⟨by decide +kernel, rfl⟩
theorem iX5_mixKinds_63 : decode cX5_mixKinds 63 = .ok (.lload_n 3, 1) ∧ 63 + 1 = 64 := ⟨by decide +kernel, rfl⟩
theorem iX5_mixKinds_64 : decode cX5_mixKinds 64 = .ok (.aload_n 0, 1) ∧ 64 + 1 = 65 := ⟨by decide +kernel, rfl⟩
theorem iX5_mixKinds_65 : decode cX5_mixKinds 65 = .ok (.iload 5, 2) ∧ 65 + 2 = 67 := ⟨by decide +kernel, rfl⟩
theorem iX5_mixKinds_67 : decode cX5_mixKinds 67 = .ok (.iconst 0, 1) ∧ 67 + 1 = 68 := ⟨by decide +kernel, rfl⟩
theorem iX5_mixKinds_68 : decode cX5_mixKinds 68 = .ok (.invokevirtual 280, 3) ∧ 68 + 3 = 71 := ⟨by decide +kernel, rfl⟩
theorem iX5_mixKinds_71 : decode cX5_mixKinds 71 = .ok (.i2l, 1) ∧ 71 + 1 = 72 := ⟨by decide +kernel, rfl⟩
theorem iX5_mixKinds_72 : decode cX5_mixKinds 72 = .ok (.invokestatic 249, 3) ∧ 72 + 3 = 75 := ⟨by decide +kernel, rfl⟩
theorem iX5_mixKinds_75 : decode cX5_mixKinds 75 = .ok (.lstore_n 3, 1) ∧ 75 + 1 = 76 := ⟨by decide +kernel, rfl⟩
theorem iX5_mixKinds_76 : decode cX5_mixKinds 76 = .ok (.lload_n 3, 1) ∧ 76 + 1 = 77 := ⟨by decide +kernel, rfl⟩
theorem iX5_mixKinds_77 : decode cX5_mixKinds 77 = .ok (.aload_n 0, 1) ∧ 77 + 1 = 78 := ⟨by decide +kernel, rfl⟩
theorem iX5_mixKinds_78 : decode cX5_mixKinds 78 = .ok (.iload 5, 2) ∧ 78 + 2 = 80 := ⟨by decide +kernel, rfl⟩
theorem iX5_mixKinds_80 : decode cX5_mixKinds 80 = .ok (.iconst 1, 1) ∧ 80 + 1 = 81 := ⟨by decide +kernel, rfl⟩
theorem iX5_mixKinds_81 : decode cX5_mixKinds 81 = .ok (.invokevirtual 280, 3) ∧ 81 + 3 = 84 := ⟨by decide +kernel, rfl⟩
theorem iX5_mixKinds_84 : decode cX5_mixKinds 84 = .ok (.i2l, 1) ∧ 84 + 1 = 85 := ⟨by decide +kernel, rfl⟩
theorem iX5_mixKinds_85 : decode cX5_mixKinds 85 = .ok (.invokestatic 249, 3) ∧ 85 + 3 = 88 := ⟨by decide +kernel, rfl⟩
theorem iX5_mixKinds_88 : decode cX5_mixKinds 88 = .ok (.lstore_n 3, 1) ∧ 88 + 1 = 89 := ⟨by decide +kernel, rfl⟩
theorem iX5_mixKinds_89 : decode cX5_mixKinds 89 = .ok (.iinc 5 1, 3) ∧ 89 + 3 = 92 := ⟨by decide +kernel, rfl⟩
theorem iX5_mixKinds_92 : decode cX5_mixKinds 92 = .ok (.goto (-87), 3) ∧ 92 + 3 = 95 := ⟨by decide +kernel, rfl⟩
theorem iX5_mixKinds_95 : decode cX5_mixKinds 95 = .ok (.lload_n 3, 1) ∧ 95 + 1 = 96 := ⟨by decide +kernel, rfl⟩
theorem iX5_mixKinds_96 : decode cX5_mixKinds 96 = .ok (.lreturn, 1) ∧ 96 + 1 = 97 := ⟨by decide +kernel, rfl⟩
theorem iX5_fanOfLeaper_0 : decode cX5_fanOfLeaper 0 = .ok (.aload_n 0, 1) ∧ 0 + 1 = 1 := ⟨by decide +kernel, rfl⟩
theorem iX5_fanOfLeaper_1 : decode cX5_fanOfLeaper 1 = .ok (.getfield 19, 3) ∧ 1 + 3 = 4 := ⟨by decide +kernel, rfl⟩
theorem iX5_fanOfLeaper_4 : decode cX5_fanOfLeaper 4 = .ok (.aload_n 0, 1) ∧ 4 + 1 = 5 := ⟨by decide +kernel, rfl⟩
theorem iX5_fanOfLeaper_5 : decode cX5_fanOfLeaper 5 = .ok (.getfield 26, 3) ∧ 5 + 3 = 8 := ⟨by decide +kernel, rfl⟩
theorem iX5_fanOfLeaper_8 : decode cX5_fanOfLeaper 8 = .ok (.iload_n 1, 1) ∧ 8 + 1 = 9 := ⟨by decide +kernel, rfl⟩
theorem iX5_fanOfLeaper_9 : decode cX5_fanOfLeaper 9 = .ok (.invokevirtual 123, 3) ∧ 9 + 3 = 12 := ⟨by decide +kernel, rfl⟩
theorem iX5_fanOfLeaper_12 : decode cX5_fanOfLeaper 12 = .ok (.invokevirtual 187, 3) ∧ 12 + 3 = 15 := ⟨by decide +kernel, rfl⟩
theorem iX5_fanOfLeaper_15 : decode cX5_fanOfLeaper 15 = .ok (.areturn, 1) ∧ 15 + 1 = 16 := ⟨by decide +kernel, rfl⟩
theorem iX5_watchedBy_0 : decode cX5_watchedBy 0 = .ok (.aload_n 0, 1) ∧ 0 + 1 = 1 := ⟨by decide +kernel, rfl⟩
theorem iX5_watchedBy_1 : decode cX5_watchedBy 1 = .ok (.getfield 19, 3) ∧ 1 + 3 = 4 := ⟨by decide +kernel, rfl⟩
theorem iX5_watchedBy_4 : decode cX5_watchedBy 4 = .ok (.aload_n 1, 1) ∧ 4 + 1 = 5 := ⟨by decide +kernel, rfl⟩
theorem iX5_watchedBy_5 : decode cX5_watchedBy 5 = .ok (.iload_n 2, 1) ∧ 5 + 1 = 6 := ⟨by decide +kernel, rfl⟩
theorem iX5_watchedBy_6 : decode cX5_watchedBy 6 = .ok (.invokevirtual 123, 3) ∧ 6 + 3 = 9 := ⟨by decide +kernel, rfl⟩
theorem iX5_watchedBy_9 : decode cX5_watchedBy 9 = .ok (.invokevirtual 187, 3) ∧ 9 + 3 = 12 := ⟨by decide +kernel, rfl⟩
theorem iX5_watchedBy_12 : decode cX5_watchedBy 12 = .ok (.astore_n 3, 1) ∧ 12 + 1 = 13 := ⟨by decide +kernel, rfl⟩
theorem iX5_watchedBy_13 : decode cX5_watchedBy 13 = .ok (.aload_n 1, 1) ∧ 13 + 1 = 14 := ⟨by decide +kernel, rfl⟩
theorem iX5_watchedBy_14 : decode cX5_watchedBy 14 = .ok (.iload_n 2, 1) ∧ 14 + 1 = 15 := ⟨by decide +kernel, rfl⟩
theorem iX5_watchedBy_15 : decode cX5_watchedBy 15 = .ok (.invokevirtual 124, 3) ∧ 15 + 3 = 18 := ⟨by decide +kernel, rfl⟩
theorem iX5_watchedBy_18 : decode cX5_watchedBy 18 = .ok (.istore 4, 2) ∧ 18 + 2 = 20 := ⟨by decide +kernel, rfl⟩
theorem iX5_watchedBy_20 : decode cX5_watchedBy 20 = .ok (.iload 4, 2) ∧ 20 + 2 = 22 := ⟨by decide +kernel, rfl⟩
theorem iX5_watchedBy_22 : decode cX5_watchedBy 22 = .ok (.ifCond .lt 22, 3) ∧ 22 + 3 = 25 := ⟨by decide +kernel, rfl⟩
theorem iX5_watchedBy_25 : decode cX5_watchedBy 25 = .ok (.iload 4, 2) ∧ 25 + 2 = 27 := ⟨by decide +kernel, rfl⟩
theorem iX5_watchedBy_27 : decode cX5_watchedBy 27 = .ok (.aload_n 3, 1) ∧ 27 + 1 = 28 := ⟨by decide +kernel, rfl⟩
theorem iX5_watchedBy_28 : decode cX5_watchedBy 28 = .ok (.arraylength, 1) ∧ 28 + 1 = 29 := ⟨by decide +kernel, rfl⟩
theorem iX5_watchedBy_29 : decode cX5_watchedBy 29 = .ok (.if_icmp .ge 15, 3) ∧ 29 + 3 = 32 := ⟨by decide +kernel, rfl⟩
theorem iX5_watchedBy_32 : decode cX5_watchedBy 32 = .ok (.aload_n 3, 1) ∧ 32 + 1 = 33 := ⟨by decide +kernel, rfl⟩
theorem iX5_watchedBy_33 : decode cX5_watchedBy 33 = .ok (.iload 4, 2) ∧ 33 + 2 = 35 := ⟨by decide +kernel, rfl⟩
theorem iX5_watchedBy_35 : decode cX5_watchedBy 35 = .ok (.iaload, 1) ∧ 35 + 1 = 36 := ⟨by decide +kernel, rfl⟩
theorem iX5_watchedBy_36 : decode cX5_watchedBy 36 = .ok (.aload_n 1, 1) ∧ 36 + 1 = 37 := ⟨by decide +kernel, rfl⟩
theorem iX5_watchedBy_37 : decode cX5_watchedBy 37 = .ok (.getfield 89, 3) ∧ 37 + 3 = 40 := ⟨by decide +kernel, rfl⟩
theorem iX5_watchedBy_40 : decode cX5_watchedBy 40 = .ok (.iand, 1) ∧ 40 + 1 = 41 := ⟨by decide +kernel, rfl⟩
theorem iX5_watchedBy_41 : decode cX5_watchedBy 41 = .ok (.goto 4, 3) ∧ 41 + 3 = 44 := ⟨by decide +kernel, rfl⟩
theorem iX5_watchedBy_44 : decode cX5_watchedBy 44 = .ok (.iconst 0, 1) ∧ 44 + 1 = 45 := ⟨by decide +kernel, rfl⟩
theorem iX5_watchedBy_45 : decode cX5_watchedBy 45 = .ok (.ireturn, 1) ∧ 45 + 1 = 46 := ⟨by decide +kernel, rfl⟩
theorem iX5_goals_0 : decode cX5_goals 0 = .ok (.aload_n 0, 1) ∧ 0 + 1 = 1 := ⟨by decide +kernel, rfl⟩
theorem iX5_goals_1 : decode cX5_goals 1 = .ok (.aload_n 1, 1) ∧ 1 + 1 = 2 := ⟨by decide +kernel, rfl⟩
theorem iX5_goals_2 : decode cX5_goals 2 = .ok (.iload_n 2, 1) ∧ 2 + 1 = 3 := ⟨by decide +kernel, rfl⟩
theorem iX5_goals_3 : decode cX5_goals 3 = .ok (.invokevirtual 125, 3) ∧ 3 + 3 = 6 := ⟨by decide +kernel, rfl⟩
theorem iX5_goals_6 : decode cX5_goals 6 = .ok (.aload_n 1, 1) ∧ 6 + 1 = 7 := ⟨by decide +kernel, rfl⟩
theorem iX5_goals_7 : decode cX5_goals 7 = .ok (.invokevirtual 142, 3) ∧ 7 + 3 = 10 := ⟨by decide +kernel, rfl⟩
theorem iX5_goals_10 : decode cX5_goals 10 = .ok (.iand, 1) ∧ 10 + 1 = 11 := ⟨by decide +kernel, rfl⟩
theorem iX5_goals_11 : decode cX5_goals 11 = .ok (.ireturn, 1) ∧ 11 + 1 = 12 := ⟨by decide +kernel, rfl⟩
theorem iX5_watchers_0 : decode cX5_watchers 0 = .ok (.iconst 0, 1) ∧ 0 + 1 = 1 := ⟨by decide +kernel, rfl⟩
theorem iX5_watchers_1 : decode cX5_watchers 1 = .ok (.istore_n 2, 1) ∧ 1 + 1 = 2 := ⟨by decide +kernel, rfl⟩
theorem iX5_watchers_2 : decode cX5_watchers 2 = .ok (.iconst 0, 1) ∧ 2 + 1 = 3 := ⟨by decide +kernel, rfl⟩
theorem iX5_watchers_3 : decode cX5_watchers 3 = .ok (.istore_n 3, 1) ∧ 3 + 1 = 4 := ⟨by decide +kernel, rfl⟩
theorem iX5_watchers_4 : decode cX5_watchers 4 = .ok (.iload_n 3, 1) ∧ 4 + 1 = 5 := ⟨by decide +kernel, rfl⟩
theorem iX5_watchers_5 : decode cX5_watchers 5 = .ok (.aload_n 0, 1) ∧ 5 + 1 = 6 := ⟨by decide +kernel, rfl⟩
theorem iX5_watchers_6 : decode cX5_watchers 6 = .ok (.getfield 26, 3) ∧ 6 + 3 = 9 := ⟨by decide +kernel, rfl⟩
theorem iX5_watchers_9 : decode cX5_watchers 9 = .ok (.getfield 95, 3) ∧ 9 + 3 = 12 := ⟨by decide +kernel, rfl⟩
theorem iX5_watchers_12 : decode cX5_watchers 12 = .ok (.if_icmp .ge 31, 3) ∧ 12 + 3 = 15 := ⟨by decide +kernel, rfl⟩
theorem iX5_watchers_15 : decode cX5_watchers 15 = .ok (.aload_n 0, 1) ∧ 15 + 1 = 16 := ⟨by decide +kernel, rfl⟩
theorem iX5_watchers_16 : decode cX5_watchers 16 = .ok (.aload_n 0, 1) ∧ 16 + 1 = 17 := ⟨by decide +kernel, rfl⟩
theorem iX5_watchers_17 : decode cX5_watchers 17 = .ok (.getfield 26, 3) ∧ 17 + 3 = 20 := ⟨by decide +kernel, rfl⟩
theorem iX5_watchers_20 : decode cX5_watchers 20 = .ok (.iload_n 3, 1) ∧ 20 + 1 = 21 := ⟨by decide +kernel, rfl⟩
theorem iX5_watchers_21 : decode cX5_watchers 21 = .ok (.invokevirtual 125, 3) ∧ 21 + 3 = 24 := ⟨by decide +kernel, rfl⟩
theorem iX5_watchers_24 : decode cX5_watchers 24 = .ok (.iload_n 1, 1) ∧ 24 + 1 = 25 := ⟨by decide +kernel, rfl⟩
theorem iX5_watchers_25 : decode cX5_watchers 25 = .ok (.invokestatic 158, 3) ∧ 25 + 3 = 28 := ⟨by decide +kernel, rfl⟩
theorem iX5_watchers_28 : decode cX5_watchers 28 = .ok (.ifCond .eq 9, 3) ∧ 28 + 3 = 31 := ⟨by decide +kernel, rfl⟩
theorem iX5_watchers_31 : decode cX5_watchers 31 = .ok (.iload_n 2, 1) ∧ 31 + 1 = 32 := ⟨by decide +kernel, rfl⟩
theorem iX5_watchers_32 : decode cX5_watchers 32 = .ok (.iconst 1, 1) ∧ 32 + 1 = 33 := ⟨by decide +kernel, rfl⟩
theorem iX5_watchers_33 : decode cX5_watchers 33 = .ok (.iload_n 3, 1) ∧ 33 + 1 = 34 := ⟨by decide +kernel, rfl⟩
theorem iX5_watchers_34 : decode cX5_watchers 34 = .ok (.ishl, 1) ∧ 34 + 1 = 35 := ⟨by decide +kernel, rfl⟩
theorem iX5_watchers_35 : decode cX5_watchers 35 = .ok (.ior, 1) ∧ 35 + 1 = 36 := ⟨by decide +kernel, rfl⟩
theorem iX5_watchers_36 : decode cX5_watchers 36 = .ok (.istore_n 2, 1) ∧ 36 + 1 = 37 := ⟨by decide +kernel, rfl⟩
theorem iX5_watchers_37 : decode cX5_watchers 37 = .ok (.iinc 3 1, 3) ∧ 37 + 3 = 40 := ⟨by decide +kernel, rfl⟩
theorem iX5_watchers_40 : decode cX5_watchers 40 = .ok (.goto (-36), 3) ∧ 40 + 3 = 43 := ⟨by decide +kernel, rfl⟩
theorem iX5_watchers_43 : decode cX5_watchers 43 = .ok (.iload_n 2, 1) ∧ 43 + 1 = 44 := ⟨by decide +kernel, rfl⟩
theorem iX5_watchers_44 : decode cX5_watchers 44 = .ok (.ireturn, 1) ∧ 44 + 1 = 45 := ⟨by decide +kernel, rfl⟩
theorem iX5_watchedEmpty_0 : decode cX5_watchedEmpty 0 = .ok (.iconst 0, 1) ∧ 0 + 1 = 1 := ⟨by decide +kernel, rfl⟩
theorem iX5_watchedEmpty_1 : decode cX5_watchedEmpty 1 = .ok (.istore_n 2, 1) ∧ 1 + 1 = 2 := ⟨by decide +kernel, rfl⟩
theorem iX5_watchedEmpty_2 : decode cX5_watchedEmpty 2 = .ok (.iconst 0, 1) ∧ 2 + 1 = 3 := ⟨by decide +kernel, rfl⟩
theorem iX5_watchedEmpty_3 : decode cX5_watchedEmpty 3 = .ok (.istore_n 3, 1) ∧ 3 + 1 = 4 := ⟨by decide +kernel, rfl⟩
theorem iX5_watchedEmpty_4 : decode cX5_watchedEmpty 4 = .ok (.iload_n 3, 1) ∧ 4 + 1 = 5 := ⟨by decide +kernel, rfl⟩
theorem iX5_watchedEmpty_5 : decode cX5_watchedEmpty 5 = .ok (.aload_n 1, 1) ∧ 5 + 1 = 6 := ⟨by decide +kernel, rfl⟩
theorem iX5_watchedEmpty_6 : decode cX5_watchedEmpty 6 = .ok (.getfield 95, 3) ∧ 6 + 3 = 9 := ⟨by decide +kernel, rfl⟩
theorem iX5_watchedEmpty_9 : decode cX5_watchedEmpty 9 = .ok (.if_icmp .ge 18, 3) ∧ 9 + 3 = 12 := ⟨by decide +kernel, rfl⟩
theorem iX5_watchedEmpty_12 : decode cX5_watchedEmpty 12 = .ok (.iload_n 2, 1) ∧ 12 + 1 = 13 := ⟨by decide +kernel, rfl⟩
theorem iX5_watchedEmpty_13 : decode cX5_watchedEmpty 13 = .ok (.aload_n 0, 1) ∧ 13 + 1 = 14 := ⟨by decide +kernel, rfl⟩
theorem iX5_watchedEmpty_14 : decode cX5_watchedEmpty 14 = .ok (.aload_n 1, 1) ∧ 14 + 1 = 15 := ⟨by decide +kernel, rfl⟩
theorem iX5_watchedEmpty_15 : decode cX5_watchedEmpty 15 = .ok (.iload_n 3, 1) ∧ 15 + 1 = 16 := ⟨by decide +kernel, rfl⟩
theorem iX5_watchedEmpty_16 : decode cX5_watchedEmpty 16 = .ok (.invokevirtual 129, 3) ∧ 16 + 3 = 19 := ⟨by decide +kernel, rfl⟩
theorem iX5_watchedEmpty_19 : decode cX5_watchedEmpty 19 = .ok (.ior, 1) ∧ 19 + 1 = 20 := ⟨by decide +kernel, rfl⟩
theorem iX5_watchedEmpty_20 : decode cX5_watchedEmpty 20 = .ok (.istore_n 2, 1) ∧ 20 + 1 = 21 := ⟨by decide +kernel, rfl⟩
theorem iX5_watchedEmpty_21 : decode cX5_watchedEmpty 21 = .ok (.iinc 3 1, 3) ∧ 21 + 3 = 24 := ⟨by decide +kernel, rfl⟩
theorem iX5_watchedEmpty_24 : decode cX5_watchedEmpty 24 = .ok (.goto (-20), 3) ∧ 24 + 3 = 27 := ⟨by decide +kernel, rfl⟩
theorem iX5_watchedEmpty_27 : decode cX5_watchedEmpty 27 = .ok (.iload_n 2, 1) ∧ 27 + 1 = 28 := ⟨by decide +kernel, rfl⟩
theorem iX5_watchedEmpty_28 : decode cX5_watchedEmpty 28 = .ok (.invokestatic 168, 3) ∧ 28 + 3 = 31 := ⟨by decide +kernel, rfl⟩
theorem iX5_watchedEmpty_31 : decode cX5_watchedEmpty 31 = .ok (.ireturn, 1) ∧ 31 + 1 = 32 := ⟨by decide +kernel, rfl⟩
theorem iX5_walkTrial_0 : decode cX5_walkTrial 0 = .ok (.aload_n 0, 1) ∧ 0 + 1 = 1 := ⟨by decide +kernel, rfl⟩
theorem iX5_walkTrial_1 : decode cX5_walkTrial 1 = .ok (.getfield 33, 3) ∧ 1 + 3 = 4 := ⟨by decide +kernel, rfl⟩
theorem iX5_walkTrial_4 : decode cX5_walkTrial 4 = .ok (.aload_n 0, 1) ∧ 4 + 1 = 5 := ⟨by decide +kernel, rfl⟩
theorem iX5_walkTrial_5 : decode cX5_walkTrial 5 = .ok (.getfield 26, 3) ∧ 5 + 3 = 8 := ⟨by decide +kernel, rfl⟩
theorem iX5_walkTrial_8 : decode cX5_walkTrial 8 = .ok (.invokevirtual 226, 3) ∧ 8 + 3 = 11 := ⟨by decide +kernel, rfl⟩
theorem iX5_walkTrial_11 : decode cX5_walkTrial 11 = .ok (.aload_n 0, 1) ∧ 11 + 1 = 12 := ⟨by decide +kernel, rfl⟩
theorem iX5_walkTrial_12 : decode cX5_walkTrial 12 = .ok (.getfield 33, 3) ∧ 12 + 3 = 15 := ⟨by decide +kernel, rfl⟩
theorem iX5_walkTrial_15 : decode cX5_walkTrial 15 = .ok (.iconst 0, 1) ∧ 15 + 1 = 16 := ⟨by decide +kernel, rfl⟩
theorem iX5_walkTrial_16 : decode cX5_walkTrial 16 = .ok (.putfield 111, 3) ∧ 16 + 3 = 19 := ⟨by decide +kernel, rfl⟩
theorem iX5_walkTrial_19 : decode cX5_walkTrial 19 = .ok (.aload_n 0, 1) ∧ 19 + 1 = 20 := ⟨by decide +kernel, rfl⟩
theorem iX5_walkTrial_20 : decode cX5_walkTrial 20 = .ok (.getfield 46, 3) ∧ 20 + 3 = 23 := ⟨by decide +kernel, rfl⟩
theorem iX5_walkTrial_23 : decode cX5_walkTrial 23 = .ok (.iload_n 2, 1) ∧ 23 + 1 = 24 := ⟨by decide +kernel, rfl⟩
theorem iX5_walkTrial_24 : decode cX5_walkTrial 24 = .ok (.putfield 223, 3) ∧ 24 + 3 = 27 := ⟨by decide +kernel, rfl⟩
theorem iX5_walkTrial_27 : decode cX5_walkTrial 27 = .ok (.iconst 0, 1) ∧ 27 + 1 = 28 := ⟨by decide +kernel, rfl⟩
theorem iX5_walkTrial_28 : decode cX5_walkTrial 28 = .ok (.istore_n 3, 1) ∧ 28 + 1 = 29 := ⟨by decide +kernel, rfl⟩
theorem iX5_walkTrial_29 : decode cX5_walkTrial 29 = .ok (.iload_n 3, 1) ∧ 29 + 1 = 30 := ⟨by decide +kernel, rfl⟩
theorem iX5_walkTrial_30 : decode cX5_walkTrial 30 = .ok (.iload_n 1, 1) ∧ 30 + 1 = 31 := ⟨by decide +kernel, rfl⟩
theorem iX5_walkTrial_31 : decode cX5_walkTrial 31 = .ok (.if_icmp .ge 94, 3) ∧ 31 + 3 = 34 := ⟨by decide +kernel, rfl⟩
theorem iX5_walkTrial_34 : decode cX5_walkTrial 34 = .ok (.aload_n 0, 1) ∧ 34 + 1 = 35 := ⟨by decide +kernel, rfl⟩
theorem iX5_walkTrial_35 : decode cX5_walkTrial 35 = .ok (.getfield 46, 3) ∧ 35 + 3 = 38 := ⟨by decide +kernel, rfl⟩
theorem iX5_walkTrial_38 : decode cX5_walkTrial 38 = .ok (.aload_n 0, 1) ∧ 38 + 1 = 39 := ⟨by decide +kernel, rfl⟩
theorem iX5_walkTrial_39 : decode cX5_walkTrial 39 = .ok (.getfield 33, 3) ∧ 39 + 3 = 42 := ⟨by decide +kernel, rfl⟩
theorem iX5_walkTrial_42 : decode cX5_walkTrial 42 = .ok (.getfield 95, 3) ∧ 42 + 3 = 45 := ⟨by decide +kernel, rfl⟩
theorem iX5_walkTrial_45 : decode cX5_walkTrial 45 = .ok (.invokevirtual 283, 3) ∧ 45 + 3 = 48 := ⟨by decide +kernel, rfl⟩
theorem iX5_walkTrial_48 : decode cX5_walkTrial 48 = .ok (.istore 4, 2) ∧ 48 + 2 = 50 := ⟨by decide +kernel, rfl⟩
theorem iX5_walkTrial_50 : decode cX5_walkTrial 50 = .ok (.aload_n 0, 1) ∧ 50 + 1 = 51 := ⟨by decide +kernel, rfl⟩
theorem iX5_walkTrial_51 : decode cX5_walkTrial 51 = .ok (.aload_n 0, 1) ∧ 51 + 1 = 52 := ⟨by decide +kernel, rfl⟩
theorem iX5_walkTrial_52 : decode cX5_walkTrial 52 = .ok (.getfield 33, 3) ∧ 52 + 3 = 55 := ⟨by decide +kernel, rfl⟩
theorem iX5_walkTrial_55 : decode cX5_walkTrial 55 = .ok (.iload 4, 2) ∧ 55 + 2 = 57 := ⟨by decide +kernel, rfl⟩
theorem iX5_walkTrial_57 : decode cX5_walkTrial 57 = .ok (.invokevirtual 129, 3) ∧ 57 + 3 = 60 := ⟨by decide +kernel, rfl⟩
theorem iX5_walkTrial_60 : decode cX5_walkTrial 60 = .ok (.istore 5, 2) ∧ 60 + 2 = 62 := ⟨by decide +kernel, rfl⟩
theorem iX5_walkTrial_62 : decode cX5_walkTrial 62 = .ok (.iload 5, 2) ∧ 62 + 2 = 64 := ⟨by decide +kernel, rfl⟩
theorem iX5_walkTrial_64 : decode cX5_walkTrial 64 = .ok (.ifCond .eq 55, 3) ∧ 64 + 3 = 67 := ⟨by decide +kernel, rfl⟩
theorem iX5_walkTrial_67 : decode cX5_walkTrial 67 = .ok (.aload_n 0, 1) ∧ 67 + 1 = 68 := ⟨by decide +kernel, rfl⟩
theorem iX5_walkTrial_68 : decode cX5_walkTrial 68 = .ok (.getfield 33, 3) ∧ 68 + 3 = 71 := ⟨by decide +kernel, rfl⟩
theorem iX5_walkTrial_71 : decode cX5_walkTrial 71 = .ok (.iload 4, 2) ∧ 71 + 2 = 73 := ⟨by decide +kernel, rfl⟩
theorem iX5_walkTrial_73 : decode cX5_walkTrial 73 = .ok (.invokevirtual 120, 3) ∧ 73 + 3 = 76 := ⟨by decide +kernel, rfl⟩
theorem iX5_walkTrial_76 : decode cX5_walkTrial 76 = .ok (.ifCond .eq 43, 3) ∧ 76 + 3 = 79 := ⟨by decide +kernel, rfl⟩
theorem iX5_walkTrial_79 : decode cX5_walkTrial 79 = .ok (.aload_n 0, 1) ∧ 79 + 1 = 80 := ⟨by decide +kernel, rfl⟩
theorem iX5_walkTrial_80 : decode cX5_walkTrial 80 = .ok (.getfield 33, 3) ∧ 80 + 3 = 83 := ⟨by decide +kernel, rfl⟩
theorem iX5_walkTrial_83 : decode cX5_walkTrial 83 = .ok (.getfield 105, 3) ∧ 83 + 3 = 86 := ⟨by decide +kernel, rfl⟩
theorem iX5_walkTrial_86 : decode cX5_walkTrial 86 = .ok (.iload 4, 2) ∧ 86 + 2 = 88 := ⟨by decide +kernel, rfl⟩
theorem iX5_walkTrial_88 : decode cX5_walkTrial 88 = .ok (.iload 5, 2) ∧ 88 + 2 = 90 := ⟨by decide +kernel, rfl⟩
theorem iX5_walkTrial_90 : decode cX5_walkTrial 90 = .ok (.aload_n 0, 1) ∧ 90 + 1 = 91 := ⟨by decide +kernel, rfl⟩
theorem iX5_walkTrial_91 : decode cX5_walkTrial 91 = .ok (.getfield 46, 3) ∧ 91 + 3 = 94 := ⟨by decide +kernel, rfl⟩
theorem iX5_walkTrial_94 : decode cX5_walkTrial 94 = .ok (.iload 5, 2) ∧ 94 + 2 = 96 := ⟨by decide +kernel, rfl⟩
theorem iX5_walkTrial_96 : decode cX5_walkTrial 96 = .ok (.invokestatic 168, 3) ∧ 96 + 3 = 99 := ⟨by decide +kernel, rfl⟩
theorem iX5_walkTrial_99 : decode cX5_walkTrial 99 = .ok (.invokevirtual 283, 3) ∧ 99 + 3 = 102 := ⟨by decide +kernel, rfl⟩
theorem iX5_walkTrial_102 : decode cX5_walkTrial 102 = .ok (.invokestatic 286, 3) ∧ 102 + 3 = 105 := ⟨by decide +kernel, rfl⟩
theorem iX5_walkTrial_105 : decode cX5_walkTrial 105 = .ok (.iastore, 1) ∧ 105 + 1 = 106 := ⟨by decide +kernel, rfl⟩
theorem iX5_walkTrial_106 : decode cX5_walkTrial 106 = .ok (.aload_n 0, 1) ∧ 106 + 1 = 107 := ⟨by decide +kernel, rfl⟩
theorem iX5_walkTrial_107 : decode cX5_walkTrial 107 = .ok (.getfield 33, 3) ∧ 107 + 3 = 110 := ⟨by decide +kernel, rfl⟩
theorem iX5_walkTrial_110 : decode cX5_walkTrial 110 = .ok (.dup, 1) ∧ 110 + 1 = 111 := ⟨by decide +kernel, rfl⟩
theorem iX5_walkTrial_111 : decode cX5_walkTrial 111 = .ok (.getfield 111, 3) ∧ 111 + 3 = 114 := ⟨by decide +kernel, rfl⟩
theorem iX5_walkTrial_114 : decode cX5_walkTrial 114 = .ok (.iconst 1, 1) ∧ 114 + 1 = 115 := ⟨by decide +kernel, rfl⟩
theorem iX5_walkTrial_115 : decode cX5_walkTrial 115 = .ok (.iadd, 1) ∧ 115 + 1 = 116 := ⟨by decide +kernel, rfl⟩
theorem iX5_walkTrial_116 : decode cX5_walkTrial 116 = .ok (.putfield 111, 3) ∧ 116 + 3 = 119 := ⟨by decide +kernel, rfl⟩
theorem iX5_walkTrial_119 : decode cX5_walkTrial 119 = .ok (.iinc 3 1, 3) ∧ 119 + 3 = 122 := ⟨by decide +kernel, rfl⟩
theorem iX5_walkTrial_122 : decode cX5_walkTrial 122 = .ok (.goto (-93), 3) ∧ 122 + 3 = 125 := ⟨by decide +kernel, rfl⟩
theorem iX5_walkTrial_125 : decode cX5_walkTrial 125 = .ok (.return_, 1) ∧ 125 + 1 = 126 := ⟨by decide +kernel, rfl⟩
theorem iX5_isKind_0 : decode cX5_isKind 0 = .ok (.iload_n 0, 1) ∧ 0 + 1 = 1 := ⟨by decide +kernel, rfl⟩
theorem iX5_isKind_1 : decode cX5_isKind 1 = .ok (.ifCond .lt 12, 3) ∧ 1 + 3 = 4 := ⟨by decide +kernel, rfl⟩
theorem iX5_isKind_4 : decode cX5_isKind 4 = .ok (.iload_n 0, 1) ∧ 4 + 1 = 5 := ⟨by decide +kernel, rfl⟩
theorem iX5_isKind_5 : decode cX5_isKind 5 = .ok (.iconst 5, 1) ∧ 5 + 1 = 6 := ⟨by decide +kernel, rfl⟩
theorem iX5_isKind_6 : decode cX5_isKind 6 = .ok (.if_icmp .ge 7, 3) ∧ 6 + 3 = 9 := ⟨by decide +kernel, rfl⟩
theorem iX5_isKind_9 : decode cX5_isKind 9 = .ok (.iconst 1, 1) ∧ 9 + 1 = 10 := ⟨by decide +kernel, rfl⟩
theorem iX5_isKind_10 : decode cX5_isKind 10 = .ok (.goto 4, 3) ∧ 10 + 3 = 13 := ⟨by decide +kernel, rfl⟩
theorem iX5_isKind_13 : decode cX5_isKind 13 = .ok (.iconst 0, 1) ∧ 13 + 1 = 14 := ⟨by decide +kernel, rfl⟩
theorem iX5_isKind_14 : decode cX5_isKind 14 = .ok (.ireturn, 1) ∧ 14 + 1 = 15 := ⟨by decide +kernel, rfl⟩
theorem iX5_isOneOfTwo_0 : decode cX5_isOneOfTwo 0 = .ok (.iload_n 0, 1) ∧ 0 + 1 = 1 := ⟨by decide +kernel, rfl⟩
theorem iX5_isOneOfTwo_1 : decode cX5_isOneOfTwo 1 = .ok (.ifCond .eq 8, 3) ∧ 1 + 3 = 4 := ⟨by decide +kernel, rfl⟩
theorem iX5_isOneOfTwo_4 : decode cX5_isOneOfTwo 4 = .ok (.iload_n 0, 1) ∧ 4 + 1 = 5 := ⟨by decide +kernel, rfl⟩
theorem iX5_isOneOfTwo_5 : decode cX5_isOneOfTwo 5 = .ok (.iconst 1, 1) ∧ 5 + 1 = 6 := ⟨by decide +kernel, rfl⟩
theorem iX5_isOneOfTwo_6 : decode cX5_isOneOfTwo 6 = .ok (.if_icmp .ne 7, 3) ∧ 6 + 3 = 9 := ⟨by decide +kernel, rfl⟩
theorem iX5_isOneOfTwo_9 : decode cX5_isOneOfTwo 9 = .ok (.iconst 1, 1) ∧ 9 + 1 = 10 := ⟨by decide +kernel, rfl⟩
theorem iX5_isOneOfTwo_10 : decode cX5_isOneOfTwo 10 = .ok (.goto 4, 3) ∧ 10 + 3 = 13 := ⟨by decide +kernel, rfl⟩
theorem iX5_isOneOfTwo_13 : decode cX5_isOneOfTwo 13 = .ok (.iconst 0, 1) ∧ 13 + 1 = 14 := ⟨by decide +kernel, rfl⟩
theorem iX5_isOneOfTwo_14 : decode cX5_isOneOfTwo 14 = .ok (.ireturn, 1) ∧ 14 + 1 = 15 := ⟨by decide +kernel, rfl⟩
theorem iX5_goes_0 : decode cX5_goes 0 = .ok (.iload_n 1, 1) ∧ 0 + 1 = 1 := ⟨by decide +kernel, rfl⟩
theorem iX5_goes_1 : decode cX5_goes 1 = .ok (.iload_n 2, 1) ∧ 1 + 1 = 2 := ⟨by decide +kernel, rfl⟩
theorem iX5_goes_2 : decode cX5_goes 2 = .ok (.invokestatic 289, 3) ∧ 2 + 3 = 5 := ⟨by decide +kernel, rfl⟩
theorem iX5_goes_5 : decode cX5_goes 5 = .ok (.istore_n 3, 1) ∧ 5 + 1 = 6 := ⟨by decide +kernel, rfl⟩
theorem iX5_goes_6 : decode cX5_goes 6 = .ok (.iload_n 1, 1) ∧ 6 + 1 = 7 := ⟨by decide +kernel, rfl⟩
theorem iX5_goes_7 : decode cX5_goes 7 = .ok (.iload_n 2, 1) ∧ 7 + 1 = 8 := ⟨by decide +kernel, rfl⟩
theorem iX5_goes_8 : decode cX5_goes 8 = .ok (.invokestatic 294, 3) ∧ 8 + 3 = 11 := ⟨by decide +kernel, rfl⟩
theorem iX5_goes_11 : decode cX5_goes 11 = .ok (.istore 4, 2) ∧ 11 + 2 = 13 := ⟨by decide +kernel, rfl⟩
theorem iX5_goes_13 : decode cX5_goes 13 = .ok (.iload_n 3, 1) ∧ 13 + 1 = 14 := ⟨by decide +kernel, rfl⟩
theorem iX5_goes_14 : decode cX5_goes 14 = .ok (.iconst 1, 1) ∧ 14 + 1 = 15 := ⟨by decide +kernel, rfl⟩
theorem iX5_goes_15 : decode cX5_goes 15 = .ok (.if_icmp .ne 13, 3) ∧ 15 + 3 = 18 := ⟨by decide +kernel, rfl⟩
theorem iX5_goes_18 : decode cX5_goes 18 = .ok (.iload 4, 2) ∧ 18 + 2 = 20 := ⟨by decide +kernel, rfl⟩
theorem iX5_goes_20 : decode cX5_goes 20 = .ok (.iconst 2, 1) ∧ 20 + 1 = 21 := ⟨by decide +kernel, rfl⟩
theorem iX5_goes_21 : decode cX5_goes 21 = .ok (.if_icmp .ne 7, 3) ∧ 21 + 3 = 24 := ⟨by decide +kernel, rfl⟩
theorem iX5_goes_24 : decode cX5_goes 24 = .ok (.iconst 1, 1) ∧ 24 + 1 = 25 := ⟨by decide +kernel, rfl⟩
theorem iX5_goes_25 : decode cX5_goes 25 = .ok (.goto 4, 3) ∧ 25 + 3 = 28 := ⟨by decide +kernel, rfl⟩
theorem iX5_goes_28 : decode cX5_goes 28 = .ok (.iconst 0, 1) ∧ 28 + 1 = 29 := ⟨by decide +kernel, rfl⟩
theorem iX5_goes_29 : decode cX5_goes 29 = .ok (.istore 5, 2) ∧ 29 + 2 = 31 := ⟨by decide +kernel, rfl⟩
theorem iX5_goes_31 : decode cX5_goes 31 = .ok (.iload_n 3, 1) ∧ 31 + 1 = 32 := ⟨by decide +kernel, rfl⟩
theorem iX5_goes_32 : decode cX5_goes 32 = .ok (.ifCond .ne 13, 3) ∧ 32 + 3 = 35 := ⟨by decide +kernel, rfl⟩
theorem iX5_goes_35 : decode cX5_goes 35 = .ok (.iload 4, 2) ∧ 35 + 2 = 37 := ⟨by decide +kernel, rfl⟩
theorem iX5_goes_37 : decode cX5_goes 37 = .ok (.iconst 1, 1) ∧ 37 + 1 = 38 := ⟨by decide +kernel, rfl⟩
theorem iX5_goes_38 : decode cX5_goes 38 = .ok (.if_icmp .ne 7, 3) ∧ 38 + 3 = 41 := ⟨by decide +kernel, rfl⟩
theorem iX5_goes_41 : decode cX5_goes 41 = .ok (.iconst 1, 1) ∧ 41 + 1 = 42 := ⟨by decide +kernel, rfl⟩
theorem iX5_goes_42 : decode cX5_goes 42 = .ok (.goto 4, 3) ∧ 42 + 3 = 45 := ⟨by decide +kernel, rfl⟩
theorem iX5_goes_45 : decode cX5_goes 45 = .ok (.iconst 0, 1) ∧ 45 + 1 = 46 := ⟨by decide +kernel, rfl⟩
theorem iX5_goes_46 : decode cX5_goes 46 = .ok (.istore 6, 2) ∧ 46 + 2 = 48 := ⟨by decide +kernel, rfl⟩
theorem iX5_goes_48 : decode cX5_goes 48 = .ok (.iload_n 0, 1) ∧ 48 + 1 = 49 := ⟨by decide +kernel, rfl⟩
theorem iX5_goes_49 : decode cX5_goes 49 = .ok (.tableswitch 91 0 4 #[35, 38, 41, 58, 75], 35) ∧ 49 + 35 = 84 := ⟨by decide +kernel, rfl⟩
theorem iX5_goes_84 : decode cX5_goes 84 = .ok (.iload 5, 2) ∧ 84 + 2 = 86 := ⟨by decide +kernel, rfl⟩
theorem iX5_goes_86 : decode cX5_goes 86 = .ok (.ireturn, 1) ∧ 86 + 1 = 87 := ⟨by decide +kernel, rfl⟩
theorem iX5_goes_87 : decode cX5_goes 87 = .ok (.iload 6, 2) ∧ 87 + 2 = 89 := ⟨by decide +kernel, rfl⟩
theorem iX5_goes_89 : decode cX5_goes 89 = .ok (.ireturn, 1) ∧ 89 + 1 = 90 := ⟨by decide +kernel, rfl⟩
theorem iX5_goes_90 : decode cX5_goes 90 = .ok (.iload_n 3, 1) ∧ 90 + 1 = 91 := ⟨by decide +kernel, rfl⟩
theorem iX5_goes_91 : decode cX5_goes 91 = .ok (.iconst 1, 1) ∧ 91 + 1 = 92 := ⟨by decide +kernel, rfl⟩
theorem iX5_goes_92 : decode cX5_goes 92 = .ok (.if_icmp .ne 13, 3) ∧ 92 + 3 = 95 := ⟨by decide +kernel, rfl⟩
theorem iX5_goes_95 : decode cX5_goes 95 = .ok (.iload 4, 2) ∧ 95 + 2 = 97 := ⟨by decide +kernel, rfl⟩
theorem iX5_goes_97 : decode cX5_goes 97 = .ok (.iconst 1, 1) ∧ 97 + 1 = 98 := ⟨by decide +kernel, rfl⟩
theorem iX5_goes_98 : decode cX5_goes 98 = .ok (.if_icmp .ne 7, 3) ∧ 98 + 3 = 101 := ⟨by decide +kernel, rfl⟩
theorem iX5_goes_101 : decode cX5_goes 101 = .ok (.iconst 1, 1) ∧ 101 + 1 = 102 := ⟨by decide +kernel, rfl⟩
theorem iX5_goes_102 : decode cX5_goes 102 = .ok (.goto 4, 3) ∧ 102 + 3 = 105 := ⟨by decide +kernel, rfl⟩
theorem iX5_goes_105 : decode cX5_goes 105 = .ok (.iconst 0, 1) ∧ 105 + 1 = 106 := ⟨by decide +kernel, rfl⟩
theorem iX5_goes_106 : decode cX5_goes 106 = .ok (.ireturn, 1) ∧ 106 + 1 = 107 := ⟨by decide +kernel, rfl⟩
theorem iX5_goes_107 : decode cX5_goes 107 = .ok (.iload_n 3, 1) ∧ 107 + 1 = 108 := ⟨by decide +kernel, rfl⟩
theorem iX5_goes_108 : decode cX5_goes 108 = .ok (.iconst 1, 1) ∧ 108 + 1 = 109 := ⟨by decide +kernel, rfl⟩
theorem iX5_goes_109 : decode cX5_goes 109 = .ok (.if_icmp .ne 13, 3) ∧ 109 + 3 = 112 := ⟨by decide +kernel, rfl⟩
theorem iX5_goes_112 : decode cX5_goes 112 = .ok (.iload 4, 2) ∧ 112 + 2 = 114 := ⟨by decide +kernel, rfl⟩
theorem iX5_goes_114 : decode cX5_goes 114 = .ok (.iconst 3, 1) ∧ 114 + 1 = 115 := ⟨by decide +kernel, rfl⟩
theorem iX5_goes_115 : decode cX5_goes 115 = .ok (.if_icmp .ne 7, 3) ∧ 115 + 3 = 118 := ⟨by decide +kernel, rfl⟩
theorem iX5_goes_118 : decode cX5_goes 118 = .ok (.iconst 1, 1) ∧ 118 + 1 = 119 := ⟨by decide +kernel, rfl⟩
theorem iX5_goes_119 : decode cX5_goes 119 = .ok (.goto 4, 3) ∧ 119 + 3 = 122 := ⟨by decide +kernel, rfl⟩
theorem iX5_goes_122 : decode cX5_goes 122 = .ok (.iconst 0, 1) ∧ 122 + 1 = 123 := ⟨by decide +kernel, rfl⟩
theorem iX5_goes_123 : decode cX5_goes 123 = .ok (.ireturn, 1) ∧ 123 + 1 = 124 := ⟨by decide +kernel, rfl⟩
theorem iX5_goes_124 : decode cX5_goes 124 = .ok (.iload 5, 2) ∧ 124 + 2 = 126 := ⟨by decide +kernel, rfl⟩
theorem iX5_goes_126 : decode cX5_goes 126 = .ok (.ifCond .ne 8, 3) ∧ 126 + 3 = 129 := ⟨by decide +kernel, rfl⟩
theorem iX5_goes_129 : decode cX5_goes 129 = .ok (.iload 6, 2) ∧ 129 + 2 = 131 := ⟨by decide +kernel, rfl⟩
theorem iX5_goes_131 : decode cX5_goes 131 = .ok (.ifCond .eq 7, 3) ∧ 131 + 3 = 134 := ⟨by decide +kernel, rfl⟩
theorem iX5_goes_134 : decode cX5_goes 134 = .ok (.iconst 1, 1) ∧ 134 + 1 = 135 := ⟨by decide +kernel, rfl⟩
theorem iX5_goes_135 : decode cX5_goes 135 = .ok (.goto 4, 3) ∧ 135 + 3 = 138 := ⟨by decide +kernel, rfl⟩
theorem iX5_goes_138 : decode cX5_goes 138 = .ok (.iconst 0, 1) ∧ 138 + 1 = 139 := ⟨by decide +kernel, rfl⟩
theorem iX5_goes_139 : decode cX5_goes 139 = .ok (.ireturn, 1) ∧ 139 + 1 = 140 := ⟨by decide +kernel, rfl⟩
theorem iX5_goes_140 : decode cX5_goes 140 = .ok (.iconst 0, 1) ∧ 140 + 1 = 141 := ⟨by decide +kernel, rfl⟩
theorem iX5_goes_141 : decode cX5_goes 141 = .ok (.ireturn, 1) ∧ 141 + 1 = 142 := ⟨by decide +kernel, rfl⟩
theorem iX5_goers_0 : decode cX5_goers 0 = .ok (.iconst 0, 1) ∧ 0 + 1 = 1 := ⟨by decide +kernel, rfl⟩
theorem iX5_goers_1 : decode cX5_goers 1 = .ok (.istore_n 2, 1) ∧ 1 + 1 = 2 := ⟨by decide +kernel, rfl⟩
theorem iX5_goers_2 : decode cX5_goers 2 = .ok (.iconst 0, 1) ∧ 2 + 1 = 3 := ⟨by decide +kernel, rfl⟩
theorem iX5_goers_3 : decode cX5_goers 3 = .ok (.istore_n 3, 1) ∧ 3 + 1 = 4 := ⟨by decide +kernel, rfl⟩
theorem iX5_goers_4 : decode cX5_goers 4 = .ok (.iload_n 3, 1) ∧ 4 + 1 = 5 := ⟨by decide +kernel, rfl⟩
theorem iX5_goers_5 : decode cX5_goers 5 = .ok (.iconst 5, 1) ∧ 5 + 1 = 6 := ⟨by decide +kernel, rfl⟩
theorem iX5_goers_6 : decode cX5_goers 6 = .ok (.if_icmp .ge 24, 3) ∧ 6 + 3 = 9 := ⟨by decide +kernel, rfl⟩
theorem iX5_goers_9 : decode cX5_goers 9 = .ok (.iload_n 3, 1) ∧ 9 + 1 = 10 := ⟨by decide +kernel, rfl⟩
theorem iX5_goers_10 : decode cX5_goers 10 = .ok (.iload_n 0, 1) ∧ 10 + 1 = 11 := ⟨by decide +kernel, rfl⟩
theorem iX5_goers_11 : decode cX5_goers 11 = .ok (.iload_n 1, 1) ∧ 11 + 1 = 12 := ⟨by decide +kernel, rfl⟩
theorem iX5_goers_12 : decode cX5_goers 12 = .ok (.invokestatic 297, 3) ∧ 12 + 3 = 15 := ⟨by decide +kernel, rfl⟩
theorem iX5_goers_15 : decode cX5_goers 15 = .ok (.ifCond .eq 9, 3) ∧ 15 + 3 = 18 := ⟨by decide +kernel, rfl⟩
theorem iX5_goers_18 : decode cX5_goers 18 = .ok (.iload_n 2, 1) ∧ 18 + 1 = 19 := ⟨by decide +kernel, rfl⟩
theorem iX5_goers_19 : decode cX5_goers 19 = .ok (.iconst 1, 1) ∧ 19 + 1 = 20 := ⟨by decide +kernel, rfl⟩
theorem iX5_goers_20 : decode cX5_goers 20 = .ok (.iload_n 3, 1) ∧ 20 + 1 = 21 := ⟨by decide +kernel, rfl⟩
theorem iX5_goers_21 : decode cX5_goers 21 = .ok (.ishl, 1) ∧ 21 + 1 = 22 := ⟨by decide +kernel, rfl⟩
theorem iX5_goers_22 : decode cX5_goers 22 = .ok (.ior, 1) ∧ 22 + 1 = 23 := ⟨by decide +kernel, rfl⟩
theorem iX5_goers_23 : decode cX5_goers 23 = .ok (.istore_n 2, 1) ∧ 23 + 1 = 24 := ⟨by decide +kernel, rfl⟩
theorem iX5_goers_24 : decode cX5_goers 24 = .ok (.iinc 3 1, 3) ∧ 24 + 3 = 27 := ⟨by decide +kernel, rfl⟩
theorem iX5_goers_27 : decode cX5_goers 27 = .ok (.goto (-23), 3) ∧ 27 + 3 = 30 := ⟨by decide +kernel, rfl⟩
theorem iX5_goers_30 : decode cX5_goers 30 = .ok (.iload_n 2, 1) ∧ 30 + 1 = 31 := ⟨by decide +kernel, rfl⟩
theorem iX5_goers_31 : decode cX5_goers 31 = .ok (.ireturn, 1) ∧ 31 + 1 = 32 := ⟨by decide +kernel, rfl⟩
theorem iX5_bestAsk_0 : decode cX5_bestAsk 0 = .ok (.iconst (-1), 1) ∧ 0 + 1 = 1 := ⟨by decide +kernel, rfl⟩
theorem iX5_bestAsk_1 : decode cX5_bestAsk 1 = .ok (.istore_n 1, 1) ∧ 1 + 1 = 2 := ⟨by decide +kernel, rfl⟩
theorem iX5_bestAsk_2 : decode cX5_bestAsk 2 = .ok (.iload_n 0, 1) ∧ 2 + 1 = 3 := ⟨by decide +kernel, rfl⟩
theorem iX5_bestAsk_3 : decode cX5_bestAsk 3 = .ok (.ifCond .ne 5, 3) ∧ 3 + 3 = 6 := ⟨by decide +kernel, rfl⟩
theorem iX5_bestAsk_6 : decode cX5_bestAsk 6 = .ok (.iload_n 1, 1) ∧ 6 + 1 = 7 := ⟨by decide +kernel, rfl⟩
theorem iX5_bestAsk_7 : decode cX5_bestAsk 7 = .ok (.ireturn, 1) ∧ 7 + 1 = 8 := ⟨by decide +kernel, rfl⟩
theorem iX5_bestAsk_8 : decode cX5_bestAsk 8 = .ok (.bipush 6, 2) ∧ 8 + 2 = 10 := ⟨by decide +kernel, rfl⟩
theorem iX5_bestAsk_10 : decode cX5_bestAsk 10 = .ok (.istore_n 2, 1) ∧ 10 + 1 = 11 := ⟨by decide +kernel, rfl⟩
theorem iX5_bestAsk_11 : decode cX5_bestAsk 11 = .ok (.iconst 0, 1) ∧ 11 + 1 = 12 := ⟨by decide +kernel, rfl⟩
theorem iX5_bestAsk_12 : decode cX5_bestAsk 12 = .ok (.istore_n 3, 1) ∧ 12 + 1 = 13 := ⟨by decide +kernel, rfl⟩
theorem iX5_bestAsk_13 : decode cX5_bestAsk 13 = .ok (.iload_n 3, 1) ∧ 13 + 1 = 14 := ⟨by decide +kernel, rfl⟩
theorem iX5_bestAsk_14 : decode cX5_bestAsk 14 = .ok (.iconst 3, 1) ∧ 14 + 1 = 15 := ⟨by decide +kernel, rfl⟩
theorem iX5_bestAsk_15 : decode cX5_bestAsk 15 = .ok (.if_icmp .gt 68, 3) ∧ 15 + 3 = 18 := ⟨by decide +kernel, rfl⟩
theorem iX5_bestAsk_18 : decode cX5_bestAsk 18 = .ok (.iconst 0, 1) ∧ 18 + 1 = 19 := ⟨by decide +kernel, rfl⟩
theorem iX5_bestAsk_19 : decode cX5_bestAsk 19 = .ok (.istore 4, 2) ∧ 19 + 2 = 21 := ⟨by decide +kernel, rfl⟩
theorem iX5_bestAsk_21 : decode cX5_bestAsk 21 = .ok (.iload 4, 2) ∧ 21 + 2 = 23 := ⟨by decide +kernel, rfl⟩
theorem iX5_bestAsk_23 : decode cX5_bestAsk 23 = .ok (.iconst 3, 1) ∧ 23 + 1 = 24 := ⟨by decide +kernel, rfl⟩
theorem iX5_bestAsk_24 : decode cX5_bestAsk 24 = .ok (.if_icmp .gt 53, 3) ∧ 24 + 3 = 27 := ⟨by decide +kernel, rfl⟩
theorem iX5_bestAsk_27 : decode cX5_bestAsk 27 = .ok (.iload_n 0, 1) ∧ 27 + 1 = 28 := ⟨by decide +kernel, rfl⟩
theorem iX5_bestAsk_28 : decode cX5_bestAsk 28 = .ok (.iload_n 3, 1) ∧ 28 + 1 = 29 := ⟨by decide +kernel, rfl⟩
theorem iX5_bestAsk_29 : decode cX5_bestAsk 29 = .ok (.iload 4, 2) ∧ 29 + 2 = 31 := ⟨by decide +kernel, rfl⟩
theorem iX5_bestAsk_31 : decode cX5_bestAsk 31 = .ok (.invokestatic 209, 3) ∧ 31 + 3 = 34 := ⟨by decide +kernel, rfl⟩
theorem iX5_bestAsk_34 : decode cX5_bestAsk 34 = .ok (.iand, 1) ∧ 34 + 1 = 35 := ⟨by decide +kernel, rfl⟩
theorem iX5_bestAsk_35 : decode cX5_bestAsk 35 = .ok (.invokestatic 168, 3) ∧ 35 + 3 = 38 := ⟨by decide +kernel, rfl⟩
theorem iX5_bestAsk_38 : decode cX5_bestAsk 38 = .ok (.istore 5, 2) ∧ 38 + 2 = 40 := ⟨by decide +kernel, rfl⟩
theorem iX5_bestAsk_40 : decode cX5_bestAsk 40 = .ok (.iload 5, 2) ∧ 40 + 2 = 42 := ⟨by decide +kernel, rfl⟩
theorem iX5_bestAsk_42 : decode cX5_bestAsk 42 = .ok (.iload_n 0, 1) ∧ 42 + 1 = 43 := ⟨by decide +kernel, rfl⟩
theorem iX5_bestAsk_43 : decode cX5_bestAsk 43 = .ok (.invokestatic 168, 3) ∧ 43 + 3 = 46 := ⟨by decide +kernel, rfl⟩
theorem iX5_bestAsk_46 : decode cX5_bestAsk 46 = .ok (.iload 5, 2) ∧ 46 + 2 = 48 := ⟨by decide +kernel, rfl⟩
theorem iX5_bestAsk_48 : decode cX5_bestAsk 48 = .ok (.isub, 1) ∧ 48 + 1 = 49 := ⟨by decide +kernel, rfl⟩
theorem iX5_bestAsk_49 : decode cX5_bestAsk 49 = .ok (.invokestatic 294, 3) ∧ 49 + 3 = 52 := ⟨by decide +kernel, rfl⟩
theorem iX5_bestAsk_52 : decode cX5_bestAsk 52 = .ok (.istore 6, 2) ∧ 52 + 2 = 54 := ⟨by decide +kernel, rfl⟩
theorem iX5_bestAsk_54 : decode cX5_bestAsk 54 = .ok (.iload 6, 2) ∧ 54 + 2 = 56 := ⟨by decide +kernel, rfl⟩
theorem iX5_bestAsk_56 : decode cX5_bestAsk 56 = .ok (.iload_n 2, 1) ∧ 56 + 1 = 57 := ⟨by decide +kernel, rfl⟩
theorem iX5_bestAsk_57 : decode cX5_bestAsk 57 = .ok (.if_icmp .ge 14, 3) ∧ 57 + 3 = 60 := ⟨by decide +kernel, rfl⟩
theorem iX5_bestAsk_60 : decode cX5_bestAsk 60 = .ok (.iload 6, 2) ∧ 60 + 2 = 62 := ⟨by decide +kernel, rfl⟩
theorem iX5_bestAsk_62 : decode cX5_bestAsk 62 = .ok (.istore_n 2, 1) ∧ 62 + 1 = 63 := ⟨by decide +kernel, rfl⟩
theorem iX5_bestAsk_63 : decode cX5_bestAsk 63 = .ok (.bipush 10, 2) ∧ 63 + 2 = 65 := ⟨by decide +kernel, rfl⟩
theorem iX5_bestAsk_65 : decode cX5_bestAsk 65 = .ok (.iload_n 3, 1) ∧ 65 + 1 = 66 := ⟨by decide +kernel, rfl⟩
theorem iX5_bestAsk_66 : decode cX5_bestAsk 66 = .ok (.imul, 1) ∧ 66 + 1 = 67 := ⟨by decide +kernel, rfl⟩
theorem iX5_bestAsk_67 : decode cX5_bestAsk 67 = .ok (.iload 4, 2) ∧ 67 + 2 = 69 := ⟨by decide +kernel, rfl⟩
theorem iX5_bestAsk_69 : decode cX5_bestAsk 69 = .ok (.iadd, 1) ∧ 69 + 1 = 70 := ⟨by decide +kernel, rfl⟩
theorem iX5_bestAsk_70 : decode cX5_bestAsk 70 = .ok (.istore_n 1, 1) ∧ 70 + 1 = 71 := ⟨by decide +kernel, rfl⟩
theorem iX5_bestAsk_71 : decode cX5_bestAsk 71 = .ok (.iinc 4 1, 3) ∧ 71 + 3 = 74 := ⟨by decide +kernel, rfl⟩
theorem iX5_bestAsk_74 : decode cX5_bestAsk 74 = .ok (.goto (-53), 3) ∧ 74 + 3 = 77 := ⟨by decide +kernel, rfl⟩
theorem iX5_bestAsk_77 : decode cX5_bestAsk 77 = .ok (.iinc 3 1, 3) ∧ 77 + 3 = 80 := ⟨by decide +kernel, rfl⟩
theorem iX5_bestAsk_80 : decode cX5_bestAsk 80 = .ok (.goto (-67), 3) ∧ 80 + 3 = 83 := ⟨by decide +kernel, rfl⟩
theorem iX5_bestAsk_83 : decode cX5_bestAsk 83 = .ok (.iload_n 1, 1) ∧ 83 + 1 = 84 := ⟨by decide +kernel, rfl⟩
theorem iX5_bestAsk_84 : decode cX5_bestAsk 84 = .ok (.ireturn, 1) ∧ 84 + 1 = 85 := ⟨by decide +kernel, rfl⟩
theorem iX5_has_0 : decode cX5_has 0 = .ok (.iload_n 0, 1) ∧ 0 + 1 = 1 := ⟨by decide +kernel, rfl⟩
theorem iX5_has_1 : decode cX5_has 1 = .ok (.iload_n 1, 1) ∧ 1 + 1 = 2 := ⟨by decide +kernel, rfl⟩
theorem iX5_has_2 : decode cX5_has 2 = .ok (.ishr, 1) ∧ 2 + 1 = 3 := ⟨by decide +kernel, rfl⟩
theorem iX5_has_3 : decode cX5_has 3 = .ok (.iconst 1, 1) ∧ 3 + 1 = 4 := ⟨by decide +kernel, rfl⟩
theorem iX5_has_4 : decode cX5_has 4 = .ok (.iand, 1) ∧ 4 + 1 = 5 := ⟨by decide +kernel, rfl⟩
theorem iX5_has_5 : decode cX5_has 5 = .ok (.iconst 1, 1) ∧ 5 + 1 = 6 := ⟨by decide +kernel, rfl⟩
theorem iX5_has_6 : decode cX5_has 6 = .ok (.if_icmp .ne 7, 3) ∧ 6 + 3 = 9 := ⟨by decide +kernel, rfl⟩
theorem iX5_has_9 : decode cX5_has 9 = .ok (.iconst 1, 1) ∧ 9 + 1 = 10 := ⟨by decide +kernel, rfl⟩
theorem iX5_has_10 : decode cX5_has 10 = .ok (.goto 4, 3) ∧ 10 + 3 = 13 := ⟨by decide +kernel, rfl⟩
theorem iX5_has_13 : decode cX5_has 13 = .ok (.iconst 0, 1) ∧ 13 + 1 = 14 := ⟨by decide +kernel, rfl⟩
theorem iX5_has_14 : decode cX5_has 14 = .ok (.ireturn, 1) ∧ 14 + 1 = 15 := ⟨by decide +kernel, rfl⟩
theorem iX5_lowestOf_0 : decode cX5_lowestOf 0 = .ok (.iload_n 0, 1) ∧ 0 + 1 = 1 := ⟨by decide +kernel, rfl⟩
theorem iX5_lowestOf_1 : decode cX5_lowestOf 1 = .ok (.iconst 0, 1) ∧ 1 + 1 = 2 := ⟨by decide +kernel, rfl⟩
theorem iX5_lowestOf_2 : decode cX5_lowestOf 2 = .ok (.invokestatic 286, 3) ∧ 2 + 3 = 5 := ⟨by decide +kernel, rfl⟩
theorem iX5_lowestOf_5 : decode cX5_lowestOf 5 = .ok (.ireturn, 1) ∧ 5 + 1 = 6 := ⟨by decide +kernel, rfl⟩
theorem iX5_nthOf_0 : decode cX5_nthOf 0 = .ok (.iconst 0, 1) ∧ 0 + 1 = 1 := ⟨by decide +kernel, rfl⟩
theorem iX5_nthOf_1 : decode cX5_nthOf 1 = .ok (.istore_n 2, 1) ∧ 1 + 1 = 2 := ⟨by decide +kernel, rfl⟩
theorem iX5_nthOf_2 : decode cX5_nthOf 2 = .ok (.iconst 0, 1) ∧ 2 + 1 = 3 := ⟨by decide +kernel, rfl⟩
theorem iX5_nthOf_3 : decode cX5_nthOf 3 = .ok (.istore_n 3, 1) ∧ 3 + 1 = 4 := ⟨by decide +kernel, rfl⟩
theorem iX5_nthOf_4 : decode cX5_nthOf 4 = .ok (.iload_n 3, 1) ∧ 4 + 1 = 5 := ⟨by decide +kernel, rfl⟩
theorem iX5_nthOf_5 : decode cX5_nthOf 5 = .ok (.bipush 12, 2) ∧ 5 + 2 = 7 := ⟨by decide +kernel, rfl⟩
theorem iX5_nthOf_7 : decode cX5_nthOf 7 = .ok (.if_icmp .ge 27, 3) ∧ 7 + 3 = 10 := ⟨by decide +kernel, rfl⟩
theorem iX5_nthOf_10 : decode cX5_nthOf 10 = .ok (.iload_n 0, 1) ∧ 10 + 1 = 11 := ⟨by decide +kernel, rfl⟩
theorem iX5_nthOf_11 : decode cX5_nthOf 11 = .ok (.iload_n 3, 1) ∧ 11 + 1 = 12 := ⟨by decide +kernel, rfl⟩
theorem iX5_nthOf_12 : decode cX5_nthOf 12 = .ok (.invokestatic 158, 3) ∧ 12 + 3 = 15 := ⟨by decide +kernel, rfl⟩
theorem iX5_nthOf_15 : decode cX5_nthOf 15 = .ok (.ifCond .eq 13, 3) ∧ 15 + 3 = 18 := ⟨by decide +kernel, rfl⟩
theorem iX5_nthOf_18 : decode cX5_nthOf 18 = .ok (.iload_n 2, 1) ∧ 18 + 1 = 19 := ⟨by decide +kernel, rfl⟩
theorem iX5_nthOf_19 : decode cX5_nthOf 19 = .ok (.iload_n 1, 1) ∧ 19 + 1 = 20 := ⟨by decide +kernel, rfl⟩
theorem iX5_nthOf_20 : decode cX5_nthOf 20 = .ok (.if_icmp .ne 5, 3) ∧ 20 + 3 = 23 := ⟨by decide +kernel, rfl⟩
theorem iX5_nthOf_23 : decode cX5_nthOf 23 = .ok (.iload_n 3, 1) ∧ 23 + 1 = 24 := ⟨by decide +kernel, rfl⟩
theorem iX5_nthOf_24 : decode cX5_nthOf 24 = .ok (.ireturn, 1) ∧ 24 + 1 = 25 := ⟨by decide +kernel, rfl⟩
theorem iX5_nthOf_25 : decode cX5_nthOf 25 = .ok (.iinc 2 1, 3) ∧ 25 + 3 = 28 := ⟨by decide +kernel, rfl⟩
theorem iX5_nthOf_28 : decode cX5_nthOf 28 = .ok (.iinc 3 1, 3) ∧ 28 + 3 = 31 := ⟨by decide +kernel, rfl⟩
theorem iX5_nthOf_31 : decode cX5_nthOf 31 = .ok (.goto (-27), 3) ∧ 31 + 3 = 34 := ⟨by decide +kernel, rfl⟩
theorem iX5_nthOf_34 : decode cX5_nthOf 34 = .ok (.iconst (-1), 1) ∧ 34 + 1 = 35 := ⟨by decide +kernel, rfl⟩
theorem iX5_nthOf_35 : decode cX5_nthOf 35 = .ok (.ireturn, 1) ∧ 35 + 1 = 36 := ⟨by decide +kernel, rfl⟩
theorem iX6_init_0 : decode cX6_init 0 = .ok (.aload_n 0, 1) ∧ 0 + 1 = 1 := ⟨by decide +kernel, rfl⟩
theorem iX6_init_1 : decode cX6_init 1 = .ok (.invokespecial 1, 3) ∧ 1 + 3 = 4 := ⟨by decide +kernel, rfl⟩
theorem iX6_init_4 : decode cX6_init 4 = .ok (.aload_n 0, 1) ∧ 4 + 1 = 5 := ⟨by decide +kernel, rfl⟩
theorem iX6_init_5 : decode cX6_init 5 = .ok (.iconst 4, 1) ∧ 5 + 1 = 6 := ⟨by decide +kernel, rfl⟩
theorem iX6_init_6 : decode cX6_init 6 = .ok (.newarray .int, 2) ∧ 6 + 2 = 8 := ⟨by decide +kernel, rfl⟩
theorem iX6_init_8 : decode cX6_init 8 = .ok (.putfield 7, 3) ∧ 8 + 3 = 11 := ⟨by decide +kernel, rfl⟩
theorem iX6_init_11 : decode cX6_init 11 = .ok (.aload_n 0, 1) ∧ 11 + 1 = 12 := ⟨by decide +kernel, rfl⟩
theorem iX6_init_12 : decode cX6_init 12 = .ok (.iconst 4, 1) ∧ 12 + 1 = 13 := ⟨by decide +kernel, rfl⟩
theorem iX6_init_13 : decode cX6_init 13 = .ok (.newarray .int, 2) ∧ 13 + 2 = 15 := ⟨by decide +kernel, rfl⟩
theorem iX6_init_15 : decode cX6_init 15 = .ok (.putfield 13, 3) ∧ 15 + 3 = 18 := ⟨by decide +kernel, rfl⟩
theorem iX6_init_18 : decode cX6_init 18 = .ok (.aload_n 0, 1) ∧ 18 + 1 = 19 := ⟨by decide +kernel, rfl⟩
theorem iX6_init_19 : decode cX6_init 19 = .ok (.bipush 6, 2) ∧ 19 + 2 = 21 := ⟨by decide +kernel, rfl⟩
theorem iX6_init_21 : decode cX6_init 21 = .ok (.newarray .int, 2) ∧ 21 + 2 = 23 := ⟨by decide +kernel, rfl⟩
theorem iX6_init_23 : decode cX6_init 23 = .ok (.putfield 16, 3) ∧ 23 + 3 = 26 := ⟨by decide +kernel, rfl⟩
theorem iX6_init_26 : decode cX6_init 26 = .ok (.aload_n 0, 1) ∧ 26 + 1 = 27 := ⟨by decide +kernel, rfl⟩
theorem iX6_init_27 : decode cX6_init 27 = .ok (.bipush 6, 2) ∧ 27 + 2 = 29 := ⟨by decide +kernel, rfl⟩
theorem iX6_init_29 : decode cX6_init 29 = .ok (.newarray .int, 2) ∧ 29 + 2 = 31 := ⟨by decide +kernel, rfl⟩
theorem iX6_init_31 : decode cX6_init 31 = .ok (.putfield 19, 3) ∧ 31 + 3 = 34 := ⟨by decide +kernel, rfl⟩
theorem iX6_init_34 : decode cX6_init 34 = .ok (.aload_n 0, 1) ∧ 34 + 1 = 35 := ⟨by decide +kernel, rfl⟩
theorem iX6_init_35 : decode cX6_init 35 = .ok (.bipush 6, 2) ∧ 35 + 2 = 37 := ⟨by decide +kernel, rfl⟩
theorem iX6_init_37 : decode cX6_init 37 = .ok (.newarray .int, 2) ∧ 37 + 2 = 39 := ⟨by decide +kernel, rfl⟩
theorem iX6_init_39 : decode cX6_init 39 = .ok (.putfield 22, 3) ∧ 39 + 3 = 42 := ⟨by decide +kernel, rfl⟩
theorem iX6_init_42 : decode cX6_init 42 = .ok (.aload_n 0, 1) ∧ 42 + 1 = 43 := ⟨by decide +kernel, rfl⟩
theorem iX6_init_43 : decode cX6_init 43 = .ok (.bipush 6, 2) ∧ 43 + 2 = 45 := ⟨by decide +kernel, rfl⟩
theorem iX6_init_45 : decode cX6_init 45 = .ok (.newarray .int, 2) ∧ 45 + 2 = 47 := ⟨by decide +kernel, rfl⟩
theorem iX6_init_47 : decode cX6_init 47 = .ok (.putfield 25, 3) ∧ 47 + 3 = 50 := ⟨by decide +kernel, rfl⟩
theorem iX6_init_50 : decode cX6_init 50 = .ok (.aload_n 0, 1) ∧ 50 + 1 = 51 := ⟨by decide +kernel, rfl⟩
theorem iX6_init_51 : decode cX6_init 51 = .ok (.bipush 30, 2) ∧ 51 + 2 = 53 := ⟨by decide +kernel, rfl⟩
theorem iX6_init_53 : decode cX6_init 53 = .ok (.newarray .byte, 2) ∧ 53 + 2 = 55 := ⟨by decide +kernel, rfl⟩
theorem iX6_init_55 : decode cX6_init 55 = .ok (.putfield 28, 3) ∧ 55 + 3 = 58 := ⟨by decide +kernel, rfl⟩
theorem iX6_init_58 : decode cX6_init 58 = .ok (.aload_n 0, 1) ∧ 58 + 1 = 59 := ⟨by decide +kernel, rfl⟩
theorem iX6_init_59 : decode cX6_init 59 = .ok (.sipush 144, 3) ∧ 59 + 3 = 62 := ⟨by decide +kernel, rfl⟩
theorem iX6_init_62 : decode cX6_init 62 = .ok (.newarray .int, 2) ∧ 62 + 2 = 64 := ⟨by decide +kernel, rfl⟩
theorem iX6_init_64 : decode cX6_init 64 = .ok (.putfield 32, 3) ∧ 64 + 3 = 67 := ⟨by decide +kernel, rfl⟩
theorem iX6_init_67 : decode cX6_init 67 = .ok (.aload_n 0, 1) ∧ 67 + 1 = 68 := ⟨by decide +kernel, rfl⟩
theorem iX6_init_68 : decode cX6_init 68 = .ok (.sipush 144, 3) ∧ 68 + 3 = 71 := ⟨by decide +kernel, rfl⟩
theorem iX6_init_71 : decode cX6_init 71 = .ok (.newarray .int, 2) ∧ 71 + 2 = 73 := ⟨by decide +kernel, rfl⟩
theorem iX6_init_73 : decode cX6_init 73 = .ok (.putfield 35, 3) ∧ 73 + 3 = 76 := ⟨by decide +kernel, rfl⟩
theorem iX6_init_76 : decode cX6_init 76 = .ok (.aload_n 0, 1) ∧ 76 + 1 = 77 := ⟨by decide +kernel, rfl⟩
theorem iX6_init_77 : decode cX6_init 77 = .ok (.sipush 4096, 3) ∧ 77 + 3 = 80 := ⟨by decide +kernel, rfl⟩
theorem iX6_init_80 : decode cX6_init 80 = .ok (.newarray .int, 2) ∧ 80 + 2 = 82 := ⟨by decide +kernel, rfl⟩
theorem iX6_init_82 : decode cX6_init 82 = .ok (.putfield 38, 3) ∧ 82 + 3 = 85 := ⟨by decide +kernel, rfl⟩
theorem iX6_init_85 : decode cX6_init 85 = .ok (.aload_n 0, 1) ∧ 85 + 1 = 86 := ⟨by decide +kernel, rfl⟩
theorem iX6_init_86 : decode cX6_init 86 = .ok (.bipush 12, 2) ∧ 86 + 2 = 88 := ⟨by decide +kernel, rfl⟩
theorem iX6_init_88 : decode cX6_init 88 = .ok (.newarray .int, 2) ∧ 88 + 2 = 90 := ⟨by decide +kernel, rfl⟩
theorem iX6_init_90 : decode cX6_init 90 = .ok (.putfield 41, 3) ∧ 90 + 3 = 93 := ⟨by decide +kernel, rfl⟩
theorem iX6_init_93 : decode cX6_init 93 = .ok (.aload_n 0, 1) ∧ 93 + 1 = 94 := ⟨by decide +kernel, rfl⟩
theorem iX6_init_94 : decode cX6_init 94 = .ok (.bipush 12, 2) ∧ 94 + 2 = 96 := ⟨by decide +kernel, rfl⟩
theorem iX6_init_96 : decode cX6_init 96 = .ok (.newarray .int, 2) ∧ 96 + 2 = 98 := ⟨by decide +kernel, rfl⟩
theorem iX6_init_98 : decode cX6_init 98 = .ok (.putfield 44, 3) ∧ 98 + 3 = 101 := ⟨by decide +kernel, rfl⟩
theorem iX6_init_101 : decode cX6_init 101 = .ok (.aload_n 0, 1) ∧ 101 + 1 = 102 := ⟨by decide +kernel, rfl⟩
theorem iX6_init_102 : decode cX6_init 102 = .ok (.iconst 4, 1) ∧ 102 + 1 = 103 := ⟨by decide +kernel, rfl⟩
theorem iX6_init_103 : decode cX6_init 103 = .ok (.newarray .int, 2) ∧ 103 + 2 = 105 := ⟨by decide +kernel, rfl⟩
theorem iX6_init_105 : decode cX6_init 105 = .ok (.putfield 47, 3) ∧ 105 + 3 = 108 := ⟨by decide +kernel, rfl⟩
theorem iX6_init_108 : decode cX6_init 108 = .ok (.aload_n 0, 1) ∧ 108 + 1 = 109 := ⟨by decide +kernel, rfl⟩
theorem iX6_init_109 : decode cX6_init 109 = .ok (.iconst 4, 1) ∧ 109 + 1 = 110 := ⟨by decide +kernel, rfl⟩
theorem iX6_init_110 : decode cX6_init 110 = .ok (.newarray .int, 2) ∧ 110 + 2 = 112 := ⟨by decide +kernel, rfl⟩
theorem iX6_init_112 : decode cX6_init 112 = .ok (.putfield 50, 3) ∧ 112 + 3 = 115 := ⟨by decide +kernel, rfl⟩
theorem iX6_init_115 : decode cX6_init 115 = .ok (.aload_n 0, 1) ∧ 115 + 1 = 116 := ⟨by decide +kernel, rfl⟩
theorem iX6_init_116 : decode cX6_init 116 = .ok (.iconst 4, 1) ∧ 116 + 1 = 117 := ⟨by decide +kernel, rfl⟩
theorem iX6_init_117 : decode cX6_init 117 = .ok (.newarray .int, 2) ∧ 117 + 2 = 119 := ⟨by decide +kernel, rfl⟩
theorem iX6_init_119 : decode cX6_init 119 = .ok (.putfield 53, 3) ∧ 119 + 3 = 122 := ⟨by decide +kernel, rfl⟩
theorem iX6_init_122 : decode cX6_init 122 = .ok (.aload_n 0, 1) ∧ 122 + 1 = 123 := ⟨by decide +kernel, rfl⟩
theorem iX6_init_123 : decode cX6_init 123 = .ok (.bipush 6, 2) ∧ 123 + 2 = 125 := ⟨by decide +kernel, rfl⟩
theorem iX6_init_125 : decode cX6_init 125 = .ok (.newarray .int, 2) ∧ 125 + 2 = 127 := ⟨by decide +kernel, rfl⟩
theorem iX6_init_127 : decode cX6_init 127 = .ok (.putfield 56, 3) ∧ 127 + 3 = 130 := ⟨by decide +kernel, rfl⟩
theorem iX6_init_130 : decode cX6_init 130 = .ok (.aload_n 0, 1) ∧ 130 + 1 = 131 := ⟨by decide +kernel, rfl⟩
theorem iX6_init_131 : decode cX6_init 131 = .ok (.bipush 6, 2) ∧ 131 + 2 = 133 := ⟨by decide +kernel, rfl⟩
theorem iX6_init_133 : decode cX6_init 133 = .ok (.newarray .int, 2) ∧ 133 + 2 = 135 := ⟨by decide +kernel, rfl⟩
theorem iX6_init_135 : decode cX6_init 135 = .ok (.putfield 59, 3) ∧ 135 + 3 = 138 := ⟨by decide +kernel, rfl⟩
theorem iX6_init_138 : decode cX6_init 138 = .ok (.aload_n 0, 1) ∧ 138 + 1 = 139 := ⟨by decide +kernel, rfl⟩
theorem iX6_init_139 : decode cX6_init 139 = .ok (.bipush 6, 2) ∧ 139 + 2 = 141 := ⟨by decide +kernel, rfl⟩
theorem iX6_init_141 : decode cX6_init 141 = .ok (.newarray .int, 2) ∧ 141 + 2 = 143 := ⟨by decide +kernel, rfl⟩
theorem iX6_init_143 : decode cX6_init 143 = .ok (.putfield 62, 3) ∧ 143 + 3 = 146 := ⟨by decide +kernel, rfl⟩
theorem iX6_init_146 : decode cX6_init 146 = .ok (.aload_n 0, 1) ∧ 146 + 1 = 147 := ⟨by decide +kernel, rfl⟩
theorem iX6_init_147 : decode cX6_init 147 = .ok (.bipush 6, 2) ∧ 147 + 2 = 149 := ⟨by decide +kernel, rfl⟩
theorem iX6_init_149 : decode cX6_init 149 = .ok (.newarray .int, 2) ∧ 149 + 2 = 151 := ⟨by decide +kernel, rfl⟩
theorem iX6_init_151 : decode cX6_init 151 = .ok (.putfield 65, 3) ∧ 151 + 3 = 154 := ⟨by decide +kernel, rfl⟩
theorem iX6_init_154 : decode cX6_init 154 = .ok (.return_, 1) ∧ 154 + 1 = 155 := ⟨by decide +kernel, rfl⟩
theorem iX6_within_0 : decode cX6_within 0 = .ok (.iload_n 0, 1) ∧ 0 + 1 = 1 := ⟨by decide +kernel, rfl⟩
theorem iX6_within_1 : decode cX6_within 1 = .ok (.iload_n 1, 1) ∧ 1 + 1 = 2 := ⟨by decide +kernel, rfl⟩
theorem iX6_within_2 : decode cX6_within 2 = .ok (.if_icmp .lt 12, 3) ∧ 2 + 3 = 5 := ⟨by decide +kernel, rfl⟩
theorem iX6_within_5 : decode cX6_within 5 = .ok (.iload_n 0, 1) ∧ 5 + 1 = 6 := ⟨by decide +kernel, rfl⟩
theorem iX6_within_6 : decode cX6_within 6 = .ok (.iload_n 2, 1) ∧ 6 + 1 = 7 := ⟨by decide +kernel, rfl⟩
theorem iX6_within_7 : decode cX6_within 7 = .ok (.if_icmp .gt 7, 3) ∧ 7 + 3 = 10 := ⟨by decide +kernel, rfl⟩
theorem iX6_within_10 : decode cX6_within 10 = .ok (.iconst 1, 1) ∧ 10 + 1 = 11 := ⟨by decide +kernel, rfl⟩
theorem iX6_within_11 : decode cX6_within 11 = .ok (.goto 4, 3) ∧ 11 + 3 = 14 := ⟨by decide +kernel, rfl⟩
theorem iX6_within_14 : decode cX6_within 14 = .ok (.iconst 0, 1) ∧ 14 + 1 = 15 := ⟨by decide +kernel, rfl⟩
theorem iX6_within_15 : decode cX6_within 15 = .ok (.ireturn, 1) ∧ 15 + 1 = 16 := ⟨by decide +kernel, rfl⟩
theorem iX6_isIn_0 : decode cX6_isIn 0 = .ok (.iload_n 0, 1) ∧ 0 + 1 = 1 := ⟨by decide +kernel, rfl⟩
theorem iX6_isIn_1 : decode cX6_isIn 1 = .ok (.iload_n 1, 1) ∧ 1 + 1 = 2 := ⟨by decide +kernel, rfl⟩
theorem iX6_isIn_2 : decode cX6_isIn 2 = .ok (.ishr, 1) ∧ 2 + 1 = 3 := ⟨by decide +kernel, rfl⟩
theorem iX6_isIn_3 : decode cX6_isIn 3 = .ok (.iconst 1, 1) ∧ 3 + 1 = 4 := ⟨by decide +kernel, rfl⟩
theorem iX6_isIn_4 : decode cX6_isIn 4 = .ok (.iand, 1) ∧ 4 + 1 = 5 := ⟨by decide +kernel, rfl⟩
theorem iX6_isIn_5 : decode cX6_isIn 5 = .ok (.iconst 1, 1) ∧ 5 + 1 = 6 := ⟨by decide +kernel, rfl⟩
theorem iX6_isIn_6 : decode cX6_isIn 6 = .ok (.if_icmp .ne 7, 3) ∧ 6 + 3 = 9 := ⟨by decide +kernel, rfl⟩
theorem iX6_isIn_9 : decode cX6_isIn 9 = .ok (.iconst 1, 1) ∧ 9 + 1 = 10 := ⟨by decide +kernel, rfl⟩
theorem iX6_isIn_10 : decode cX6_isIn 10 = .ok (.goto 4, 3) ∧ 10 + 3 = 13 := ⟨by decide +kernel, rfl⟩
theorem iX6_isIn_13 : decode cX6_isIn 13 = .ok (.iconst 0, 1) ∧ 13 + 1 = 14 := ⟨by decide +kernel, rfl⟩
theorem iX6_isIn_14 : decode cX6_isIn 14 = .ok (.ireturn, 1) ∧ 14 + 1 = 15 := ⟨by decide +kernel, rfl⟩
theorem iX6_size_0 : decode cX6_size 0 = .ok (.iconst 0, 1) ∧ 0 + 1 = 1 := ⟨by decide +kernel, rfl⟩
theorem iX6_size_1 : decode cX6_size 1 = .ok (.istore_n 1, 1) ∧ 1 + 1 = 2 := ⟨by decide +kernel, rfl⟩
theorem iX6_size_2 : decode cX6_size 2 = .ok (.iconst 0, 1) ∧ 2 + 1 = 3 := ⟨by decide +kernel, rfl⟩
theorem iX6_size_3 : decode cX6_size 3 = .ok (.istore_n 2, 1) ∧ 3 + 1 = 4 := ⟨by decide +kernel, rfl⟩
theorem iX6_size_4 : decode cX6_size 4 = .ok (.iload_n 2, 1) ∧ 4 + 1 = 5 := ⟨by decide +kernel, rfl⟩
theorem iX6_size_5 : decode cX6_size 5 = .ok (.bipush 12, 2) ∧ 5 + 2 = 7 := ⟨by decide +kernel, rfl⟩
theorem iX6_size_7 : decode cX6_size 7 = .ok (.if_icmp .ge 17, 3) ∧ 7 + 3 = 10 := ⟨by decide +kernel, rfl⟩
theorem iX6_size_10 : decode cX6_size 10 = .ok (.iload_n 1, 1) ∧ 10 + 1 = 11 := ⟨by decide +kernel, rfl⟩
theorem iX6_size_11 : decode cX6_size 11 = .ok (.iload_n 0, 1) ∧ 11 + 1 = 12 := ⟨by decide +kernel, rfl⟩
theorem iX6_size_12 : decode cX6_size 12 = .ok (.iload_n 2, 1) ∧ 12 + 1 = 13 := ⟨by decide +kernel, rfl⟩
theorem iX6_size_13 : decode cX6_size 13 = .ok (.ishr, 1) ∧ 13 + 1 = 14 := ⟨by decide +kernel, rfl⟩
theorem iX6_size_14 : decode cX6_size 14 = .ok (.iconst 1, 1) ∧ 14 + 1 = 15 := ⟨by decide +kernel, rfl⟩
theorem iX6_size_15 : decode cX6_size 15 = .ok (.iand, 1) ∧ 15 + 1 = 16 := ⟨by decide +kernel, rfl⟩
theorem iX6_size_16 : decode cX6_size 16 = .ok (.iadd, 1) ∧ 16 + 1 = 17 := ⟨by decide +kernel, rfl⟩
theorem iX6_size_17 : decode cX6_size 17 = .ok (.istore_n 1, 1) ∧ 17 + 1 = 18 := ⟨by decide +kernel, rfl⟩
theorem iX6_size_18 : decode cX6_size 18 = .ok (.iinc 2 1, 3) ∧ 18 + 3 = 21 := ⟨by decide +kernel, rfl⟩
theorem iX6_size_21 : decode cX6_size 21 = .ok (.goto (-17), 3) ∧ 21 + 3 = 24 := ⟨by decide +kernel, rfl⟩
theorem iX6_size_24 : decode cX6_size 24 = .ok (.iload_n 1, 1) ∧ 24 + 1 = 25 := ⟨by decide +kernel, rfl⟩
theorem iX6_size_25 : decode cX6_size 25 = .ok (.ireturn, 1) ∧ 25 + 1 = 26 := ⟨by decide +kernel, rfl⟩
theorem iX6_letter_0 : decode cX6_letter 0 = .ok (.iload_n 1, 1) ∧ 0 + 1 = 1 := ⟨by decide +kernel, rfl⟩
theorem iX6_letter_1 : decode cX6_letter 1 = .ok (.bipush 32, 2) ∧ 1 + 2 = 3 := ⟨by decide +kernel, rfl⟩
theorem iX6_letter_3 : decode cX6_letter 3 = .ok (.bipush 126, 2) ∧ 3 + 2 = 5 := ⟨by decide +kernel, rfl⟩
theorem iX6_letter_5 : decode cX6_letter 5 = .ok (.invokestatic 68, 3) ∧ 5 + 3 = 8 := ⟨by decide +kernel, rfl⟩
theorem iX6_letter_8 : decode cX6_letter 8 = .ok (.ifCond .ne 6, 3) ∧ 8 + 3 = 11 := ⟨by decide +kernel, rfl⟩
theorem iX6_letter_11 : decode cX6_letter 11 = .ok (.bipush (-102), 2) ∧ 11 + 2 = 13 := ⟨by decide +kernel, rfl⟩
theorem iX6_letter_13 : decode cX6_letter 13 = .ok (.ireturn, 1) ∧ 13 + 1 = 14 := ⟨by decide +kernel, rfl⟩
theorem iX6_letter_14 : decode cX6_letter 14 = .ok (.aload_n 0, 1) ∧ 14 + 1 = 15 := ⟨by decide +kernel, rfl⟩
theorem iX6_letter_15 : decode cX6_letter 15 = .ok (.getfield 72, 3) ∧ 15 + 3 = 18 := ⟨by decide +kernel, rfl⟩
theorem iX6_letter_18 : decode cX6_letter 18 = .ok (.bipush 30, 2) ∧ 18 + 2 = 20 := ⟨by decide +kernel, rfl⟩
theorem iX6_letter_20 : decode cX6_letter 20 = .ok (.if_icmp .ne 6, 3) ∧ 20 + 3 = 23 := ⟨by decide +kernel, rfl⟩
theorem iX6_letter_23 : decode cX6_letter 23 = .ok (.bipush (-104), 2) ∧ 23 + 2 = 25 := ⟨by decide +kernel, rfl⟩
theorem iX6_letter_25 : decode cX6_letter 25 = .ok (.ireturn, 1) ∧ 25 + 1 = 26 := ⟨by decide +kernel, rfl⟩
theorem iX6_letter_26 : decode cX6_letter 26 = .ok (.aload_n 0, 1) ∧ 26 + 1 = 27 := ⟨by decide +kernel, rfl⟩
theorem iX6_letter_27 : decode cX6_letter 27 = .ok (.getfield 28, 3) ∧ 27 + 3 = 30 := ⟨by decide +kernel, rfl⟩
theorem iX6_letter_30 : decode cX6_letter 30 = .ok (.aload_n 0, 1) ∧ 30 + 1 = 31 := ⟨by decide +kernel, rfl⟩
theorem iX6_letter_31 : decode cX6_letter 31 = .ok (.getfield 72, 3) ∧ 31 + 3 = 34 := ⟨by decide +kernel, rfl⟩
theorem iX6_letter_34 : decode cX6_letter 34 = .ok (.iload_n 1, 1) ∧ 34 + 1 = 35 := ⟨by decide +kernel, rfl⟩
theorem iX6_letter_35 : decode cX6_letter 35 = .ok (.i2b, 1) ∧ 35 + 1 = 36 := ⟨by decide +kernel, rfl⟩
theorem iX6_letter_36 : decode cX6_letter 36 = .ok (.bastore, 1) ∧ 36 + 1 = 37 := ⟨by decide +kernel, rfl⟩
theorem iX6_letter_37 : decode cX6_letter 37 = .ok (.aload_n 0, 1) ∧ 37 + 1 = 38 := ⟨by decide +kernel, rfl⟩
theorem iX6_letter_38 : decode cX6_letter 38 = .ok (.dup, 1) ∧ 38 + 1 = 39 := ⟨by decide +kernel, rfl⟩
theorem iX6_letter_39 : decode cX6_letter 39 = .ok (.getfield 72, 3) ∧ 39 + 3 = 42 := ⟨by decide +kernel, rfl⟩
theorem iX6_letter_42 : decode cX6_letter 42 = .ok (.iconst 1, 1) ∧ 42 + 1 = 43 := ⟨by decide +kernel, rfl⟩
theorem iX6_letter_43 : decode cX6_letter 43 = .ok (.iadd, 1) ∧ 43 + 1 = 44 := ⟨by decide +kernel, rfl⟩
theorem iX6_letter_44 : decode cX6_letter 44 = .ok (.putfield 72, 3) ∧ 44 + 3 = 47 := ⟨by decide +kernel, rfl⟩
theorem iX6_letter_47 : decode cX6_letter 47 = .ok (.aload_n 0, 1) ∧ 47 + 1 = 48 := ⟨by decide +kernel, rfl⟩
theorem iX6_letter_48 : decode cX6_letter 48 = .ok (.getfield 72, 3) ∧ 48 + 3 = 51 := ⟨by decide +kernel, rfl⟩
theorem iX6_letter_51 : decode cX6_letter 51 = .ok (.ireturn, 1) ∧ 51 + 1 = 52 := ⟨by decide +kernel, rfl⟩
theorem iX6_blank_0 : decode cX6_blank 0 = .ok (.aload_n 0, 1) ∧ 0 + 1 = 1 := ⟨by decide +kernel, rfl⟩
theorem iX6_blank_1 : decode cX6_blank 1 = .ok (.getfield 72, 3) ∧ 1 + 3 = 4 := ⟨by decide +kernel, rfl⟩
theorem iX6_blank_4 : decode cX6_blank 4 = .ok (.istore_n 1, 1) ∧ 4 + 1 = 5 := ⟨by decide +kernel, rfl⟩
theorem iX6_blank_5 : decode cX6_blank 5 = .ok (.aload_n 0, 1) ∧ 5 + 1 = 6 := ⟨by decide +kernel, rfl⟩
theorem iX6_blank_6 : decode cX6_blank 6 = .ok (.iconst 0, 1) ∧ 6 + 1 = 7 := ⟨by decide +kernel, rfl⟩
theorem iX6_blank_7 : decode cX6_blank 7 = .ok (.putfield 72, 3) ∧ 7 + 3 = 10 := ⟨by decide +kernel, rfl⟩
theorem iX6_blank_10 : decode cX6_blank 10 = .ok (.iload_n 1, 1) ∧ 10 + 1 = 11 := ⟨by decide +kernel, rfl⟩
theorem iX6_blank_11 : decode cX6_blank 11 = .ok (.ireturn, 1) ∧ 11 + 1 = 12 := ⟨by decide +kernel, rfl⟩
theorem iX6_kindBy_0 : decode cX6_kindBy 0 = .ok (.iload_n 0, 1) ∧ 0 + 1 = 1 := ⟨by decide +kernel, rfl⟩
theorem iX6_kindBy_1 : decode cX6_kindBy 1 = .ok (.lookupswitch 61 #[(98, 59), (99, 57), (102, 55), (107, 51), (119, 53)], 51) ∧ 1 + 51 = 52 := ⟨by decide +kernel, rfl⟩
theorem iX6_kindBy_52 : decode cX6_kindBy 52 = .ok (.iconst 0, 1) ∧ 52 + 1 = 53 := ⟨by decide +kernel, rfl⟩
theorem iX6_kindBy_53 : decode cX6_kindBy 53 = .ok (.ireturn, 1) ∧ 53 + 1 = 54 := ⟨by decide +kernel, rfl⟩
theorem iX6_kindBy_54 : decode cX6_kindBy 54 = .ok (.iconst 1, 1) ∧ 54 + 1 = 55 := ⟨by decide +kernel, rfl⟩
theorem iX6_kindBy_55 : decode cX6_kindBy 55 = .ok (.ireturn, 1) ∧ 55 + 1 = 56 := ⟨by decide +kernel, rfl⟩
theorem iX6_kindBy_56 : decode cX6_kindBy 56 = .ok (.iconst 2, 1) ∧ 56 + 1 = 57 := ⟨by decide +kernel, rfl⟩
theorem iX6_kindBy_57 : decode cX6_kindBy 57 = .ok (.ireturn, 1) ∧ 57 + 1 = 58 := ⟨by decide +kernel, rfl⟩
theorem iX6_kindBy_58 : decode cX6_kindBy 58 = .ok (.iconst 3, 1) ∧ 58 + 1 = 59 := ⟨by decide +kernel, rfl⟩
theorem iX6_kindBy_59 : decode cX6_kindBy 59 = .ok (.ireturn, 1) ∧ 59 + 1 = 60 := ⟨by decide +kernel, rfl⟩
theorem iX6_kindBy_60 : decode cX6_kindBy 60 = .ok (.iconst 4, 1) ∧ 60 + 1 = 61 := ⟨by decide +kernel, rfl⟩
theorem iX6_kindBy_61 : decode cX6_kindBy 61 = .ok (.ireturn, 1) ∧ 61 + 1 = 62 := ⟨by decide +kernel, rfl⟩
theorem iX6_kindBy_62 : decode cX6_kindBy 62 = .ok (.iconst (-1), 1) ∧ 62 + 1 = 63 := ⟨by decide +kernel, rfl⟩
theorem iX6_kindBy_63 : decode cX6_kindBy 63 = .ok (.ireturn, 1) ∧ 63 + 1 = 64 := ⟨by decide +kernel, rfl⟩
theorem iX6_at_0 : decode cX6_at 0 = .ok (.iload_n 1, 1) ∧ 0 + 1 = 1 := ⟨by decide +kernel, rfl⟩
theorem iX6_at_1 : decode cX6_at 1 = .ok (.aload_n 0, 1) ∧ 1 + 1 = 2 := ⟨by decide +kernel, rfl⟩
theorem iX6_at_2 : decode cX6_at 2 = .ok (.getfield 72, 3) ∧ 2 + 3 = 5 := ⟨by decide +kernel, rfl⟩
theorem iX6_at_5 : decode cX6_at 5 = .ok (.if_icmp .ge 12, 3) ∧ 5 + 3 = 8 := ⟨by decide +kernel, rfl⟩
theorem iX6_at_8 : decode cX6_at 8 = .ok (.aload_n 0, 1) ∧ 8 + 1 = 9 := ⟨by decide +kernel, rfl⟩
theorem iX6_at_9 : decode cX6_at 9 = .ok (.getfield 28, 3) ∧ 9 + 3 = 12 := ⟨by decide +kernel, rfl⟩
theorem iX6_at_12 : decode cX6_at 12 = .ok (.iload_n 1, 1) ∧ 12 + 1 = 13 := ⟨by decide +kernel, rfl⟩
theorem iX6_at_13 : decode cX6_at 13 = .ok (.baload, 1) ∧ 13 + 1 = 14 := ⟨by decide +kernel, rfl⟩
theorem iX6_at_14 : decode cX6_at 14 = .ok (.goto 4, 3) ∧ 14 + 3 = 17 := ⟨by decide +kernel, rfl⟩
theorem iX6_at_17 : decode cX6_at 17 = .ok (.iconst 0, 1) ∧ 17 + 1 = 18 := ⟨by decide +kernel, rfl⟩
theorem iX6_at_18 : decode cX6_at 18 = .ok (.ireturn, 1) ∧ 18 + 1 = 19 := ⟨by decide +kernel, rfl⟩
theorem iX6_readCells_0 : decode cX6_readCells 0 = .ok (.iconst 0, 1) ∧ 0 + 1 = 1 := ⟨by decide +kernel, rfl⟩
theorem iX6_readCells_1 : decode cX6_readCells 1 = .ok (.istore_n 2, 1) ∧ 1 + 1 = 2 := ⟨by decide +kernel, rfl⟩
theorem iX6_readCells_2 : decode cX6_readCells 2 = .ok (.iload_n 2, 1) ∧ 2 + 1 = 3 := ⟨by decide +kernel, rfl⟩
theorem iX6_readCells_3 : decode cX6_readCells 3 = .ok (.aload_n 0, 1) ∧ 3 + 1 = 4 := ⟨by decide +kernel, rfl⟩
theorem iX6_readCells_4 : decode cX6_readCells 4 = .ok (.getfield 76, 3) ∧ 4 + 3 = 7 := ⟨by decide +kernel, rfl⟩
theorem iX6_readCells_7 : decode cX6_readCells 7 = .ok (.if_icmp .ge 61, 3) ∧ 7 + 3 = 10 := ⟨by decide +kernel, rfl⟩
theorem iX6_readCells_10 : decode cX6_readCells 10 = .ok (.aload_n 0, 1) ∧ 10 + 1 = 11 := ⟨by decide +kernel, rfl⟩
theorem iX6_readCells_11 : decode cX6_readCells 11 = .ok (.iload_n 1, 1) ∧ 11 + 1 = 12 := ⟨by decide +kernel, rfl⟩
theorem iX6_readCells_12 : decode cX6_readCells 12 = .ok (.iload_n 2, 1) ∧ 12 + 1 = 13 := ⟨by decide +kernel, rfl⟩
theorem iX6_readCells_13 : decode cX6_readCells 13 = .ok (.iadd, 1) ∧ 13 + 1 = 14 := ⟨by decide +kernel, rfl⟩
theorem iX6_readCells_14 : decode cX6_readCells 14 = .ok (.invokevirtual 79, 3) ∧ 14 + 3 = 17 := ⟨by decide +kernel, rfl⟩
theorem iX6_readCells_17 : decode cX6_readCells 17 = .ok (.bipush 46, 2) ∧ 17 + 2 = 19 := ⟨by decide +kernel, rfl⟩
theorem iX6_readCells_19 : decode cX6_readCells 19 = .ok (.if_icmp .eq 15, 3) ∧ 19 + 3 = 22 := ⟨by decide +kernel, rfl⟩
theorem iX6_readCells_22 : decode cX6_readCells 22 = .ok (.aload_n 0, 1) ∧ 22 + 1 = 23 := ⟨by decide +kernel, rfl⟩
theorem iX6_readCells_23 : decode cX6_readCells 23 = .ok (.iload_n 1, 1) ∧ 23 + 1 = 24 := ⟨by decide +kernel, rfl⟩
theorem iX6_readCells_24 : decode cX6_readCells 24 = .ok (.iload_n 2, 1) ∧ 24 + 1 = 25 := ⟨by decide +kernel, rfl⟩
theorem iX6_readCells_25 : decode cX6_readCells 25 = .ok (.iadd, 1) ∧ 25 + 1 = 26 := ⟨by decide +kernel, rfl⟩
theorem iX6_readCells_26 : decode cX6_readCells 26 = .ok (.invokevirtual 79, 3) ∧ 26 + 3 = 29 := ⟨by decide +kernel, rfl⟩
theorem iX6_readCells_29 : decode cX6_readCells 29 = .ok (.bipush 35, 2) ∧ 29 + 2 = 31 := ⟨by decide +kernel, rfl⟩
theorem iX6_readCells_31 : decode cX6_readCells 31 = .ok (.if_icmp .ne 37, 3) ∧ 31 + 3 = 34 := ⟨by decide +kernel, rfl⟩
theorem iX6_readCells_34 : decode cX6_readCells 34 = .ok (.aload_n 0, 1) ∧ 34 + 1 = 35 := ⟨by decide +kernel, rfl⟩
theorem iX6_readCells_35 : decode cX6_readCells 35 = .ok (.dup, 1) ∧ 35 + 1 = 36 := ⟨by decide +kernel, rfl⟩
theorem iX6_readCells_36 : decode cX6_readCells 36 = .ok (.getfield 83, 3) ∧ 36 + 3 = 39 := ⟨by decide +kernel, rfl⟩
theorem iX6_readCells_39 : decode cX6_readCells 39 = .ok (.aload_n 0, 1) ∧ 39 + 1 = 40 := ⟨by decide +kernel, rfl⟩
theorem iX6_readCells_40 : decode cX6_readCells 40 = .ok (.iload_n 1, 1) ∧ 40 + 1 = 41 := ⟨by decide +kernel, rfl⟩
theorem iX6_readCells_41 : decode cX6_readCells 41 = .ok (.iload_n 2, 1) ∧ 41 + 1 = 42 := ⟨by decide +kernel, rfl⟩
theorem iX6_readCells_42 : decode cX6_readCells 42 = .ok (.iadd, 1) ∧ 42 + 1 = 43 := ⟨by decide +kernel, rfl⟩
theorem iX6_readCells_43 : decode cX6_readCells 43 = .ok (.invokevirtual 79, 3) ∧ 43 + 3 = 46 := ⟨by decide +kernel, rfl⟩
theorem iX6_readCells_46 : decode cX6_readCells 46 = .ok (.bipush 46, 2) ∧ 46 + 2 = 48 := ⟨by decide +kernel, rfl⟩
theorem iX6_readCells_48 : decode cX6_readCells 48 = .ok (.if_icmp .ne 9, 3) ∧ 48 + 3 = 51 := ⟨by decide +kernel, rfl⟩
theorem iX6_readCells_51 : decode cX6_readCells 51 = .ok (.iconst 1, 1) ∧ 51 + 1 = 52 := ⟨by decide +kernel, rfl⟩
theorem iX6_readCells_52 : decode cX6_readCells 52 = .ok (.iload_n 2, 1) ∧ 52 + 1 = 53 := ⟨by decide +kernel, rfl⟩
theorem iX6_readCells_53 : decode cX6_readCells 53 = .ok (.ishl, 1) ∧ 53 + 1 = 54 := ⟨by decide +kernel, rfl⟩
theorem iX6_readCells_54 : decode cX6_readCells 54 = .ok (.goto 4, 3) ∧ 54 + 3 = 57 := ⟨by decide +kernel, rfl⟩
theorem iX6_readCells_57 : decode cX6_readCells 57 = .ok (.iconst 0, 1) ∧ 57 + 1 = 58 := ⟨by decide +kernel, rfl⟩
theorem iX6_readCells_58 : decode cX6_readCells 58 = .ok (.ior, 1) ∧ 58 + 1 = 59 := ⟨by decide +kernel, rfl⟩
theorem iX6_readCells_59 : decode cX6_readCells 59 = .ok (.putfield 83, 3) ∧ 59 + 3 = 62 := ⟨by decide +kernel, rfl⟩
theorem iX6_readCells_62 : decode cX6_readCells 62 = .ok (.iinc 2 1, 3) ∧ 62 + 3 = 65 := ⟨by decide +kernel, rfl⟩
theorem iX6_readCells_65 : decode cX6_readCells 65 = .ok (.goto (-63), 3) ∧ 65 + 3 = 68 := ⟨by decide +kernel, rfl⟩
theorem iX6_readCells_68 : decode cX6_readCells 68 = .ok (.iload_n 1, 1) ∧ 68 + 1 = 69 := ⟨by decide +kernel, rfl⟩
theorem iX6_readCells_69 : decode cX6_readCells 69 = .ok (.iload_n 2, 1) ∧ 69 + 1 = 70 := ⟨by decide +kernel, rfl⟩
theorem iX6_readCells_70 : decode cX6_readCells 70 = .ok (.iadd, 1) ∧ 70 + 1 = 71 := ⟨by decide +kernel, rfl⟩
theorem iX6_readCells_71 : decode cX6_readCells 71 = .ok (.ireturn, 1) ∧ 71 + 1 = 72 := ⟨by decide +kernel, rfl⟩
theorem iX6_readLeapers_0 : decode cX6_readLeapers 0 = .ok (.aload_n 0, 1) ∧ 0 + 1 = 1 := ⟨by decide +kernel, rfl⟩
theorem iX6_readLeapers_1 : decode cX6_readLeapers 1 = .ok (.getfield 83, 3) ∧ 1 + 3 = 4 := ⟨by decide +kernel, rfl⟩
theorem iX6_readLeapers_4 : decode cX6_readLeapers 4 = .ok (.istore_n 2, 1) ∧ 4 + 1 = 5 := ⟨by decide +kernel, rfl⟩
theorem iX6_readLeapers_5 : decode cX6_readLeapers 5 = .ok (.iload_n 1, 1) ∧ 5 + 1 = 6 := ⟨by decide +kernel, rfl⟩
theorem iX6_readLeapers_6 : decode cX6_readLeapers 6 = .ok (.istore_n 3, 1) ∧ 6 + 1 = 7 := ⟨by decide +kernel, rfl⟩
theorem iX6_readLeapers_7 : decode cX6_readLeapers 7 = .ok (.aload_n 0, 1) ∧ 7 + 1 = 8 := ⟨by decide +kernel, rfl⟩
theorem iX6_readLeapers_8 : decode cX6_readLeapers 8 = .ok (.getfield 86, 3) ∧ 8 + 3 = 11 := ⟨by decide +kernel, rfl⟩
theorem iX6_readLeapers_11 : decode cX6_readLeapers 11 = .ok (.iconst 4, 1) ∧ 11 + 1 = 12 := ⟨by decide +kernel, rfl⟩
theorem iX6_readLeapers_12 : decode cX6_readLeapers 12 = .ok (.if_icmp .ge 122, 3) ∧ 12 + 3 = 15 := ⟨by decide +kernel, rfl⟩
theorem iX6_readLeapers_15 : decode cX6_readLeapers 15 = .ok (.aload_n 0, 1) ∧ 15 + 1 = 16 := ⟨by decide +kernel, rfl⟩
theorem iX6_readLeapers_16 : decode cX6_readLeapers 16 = .ok (.iload_n 3, 1) ∧ 16 + 1 = 17 := ⟨by decide +kernel, rfl⟩
theorem iX6_readLeapers_17 : decode cX6_readLeapers 17 = .ok (.invokevirtual 79, 3) ∧ 17 + 3 = 20 := ⟨by decide +kernel, rfl⟩
theorem iX6_readLeapers_20 : decode cX6_readLeapers 20 = .ok (.invokestatic 89, 3) ∧ 20 + 3 = 23 := ⟨by decide +kernel, rfl⟩
theorem iX6_readLeapers_23 : decode cX6_readLeapers 23 = .ok (.iconst (-1), 1) ∧ 23 + 1 = 24 := ⟨by decide +kernel, rfl⟩
theorem iX6_readLeapers_24 : decode cX6_readLeapers 24 = .ok (.if_icmp .ne 5, 3) ∧ 24 + 3 = 27 := ⟨by decide +kernel, rfl⟩
theorem iX6_readLeapers_27 : decode cX6_readLeapers 27 = .ok (.iload_n 3, 1) ∧ 27 + 1 = 28 := ⟨by decide +kernel, rfl⟩
theorem iX6_readLeapers_28 : decode cX6_readLeapers 28 = .ok (.ireturn, 1) ∧ 28 + 1 = 29 := ⟨by decide +kernel, rfl⟩
theorem iX6_readLeapers_29 : decode cX6_readLeapers 29 = .ok (.aload_n 0, 1) ∧ 29 + 1 = 30 := ⟨by decide +kernel, rfl⟩
theorem iX6_readLeapers_30 : decode cX6_readLeapers 30 = .ok (.iload_n 3, 1) ∧ 30 + 1 = 31 := ⟨by decide +kernel, rfl⟩
theorem iX6_readLeapers_31 : decode cX6_readLeapers 31 = .ok (.iconst 1, 1) ∧ 31 + 1 = 32 := ⟨by decide +kernel, rfl⟩
theorem iX6_readLeapers_32 : decode cX6_readLeapers 32 = .ok (.iadd, 1) ∧ 32 + 1 = 33 := ⟨by decide +kernel, rfl⟩
theorem iX6_readLeapers_33 : decode cX6_readLeapers 33 = .ok (.invokevirtual 79, 3) ∧ 33 + 3 = 36 := ⟨by decide +kernel, rfl⟩
theorem iX6_readLeapers_36 : decode cX6_readLeapers 36 = .ok (.bipush 97, 2) ∧ 36 + 2 = 38 := ⟨by decide +kernel, rfl⟩
theorem iX6_readLeapers_38 : decode cX6_readLeapers 38 = .ok (.isub, 1) ∧ 38 + 1 = 39 := ⟨by decide +kernel, rfl⟩
theorem iX6_readLeapers_39 : decode cX6_readLeapers 39 = .ok (.istore 4, 2) ∧ 39 + 2 = 41 := ⟨by decide +kernel, rfl⟩
theorem iX6_readLeapers_41 : decode cX6_readLeapers 41 = .ok (.iload 4, 2) ∧ 41 + 2 = 43 := ⟨by decide +kernel, rfl⟩
theorem iX6_readLeapers_43 : decode cX6_readLeapers 43 = .ok (.iconst 0, 1) ∧ 43 + 1 = 44 := ⟨by decide +kernel, rfl⟩
theorem iX6_readLeapers_44 : decode cX6_readLeapers 44 = .ok (.aload_n 0, 1) ∧ 44 + 1 = 45 := ⟨by decide +kernel, rfl⟩
theorem iX6_readLeapers_45 : decode cX6_readLeapers 45 = .ok (.getfield 76, 3) ∧ 45 + 3 = 48 := ⟨by decide +kernel, rfl⟩
theorem iX6_readLeapers_48 : decode cX6_readLeapers 48 = .ok (.iconst 1, 1) ∧ 48 + 1 = 49 := ⟨by decide +kernel, rfl⟩
theorem iX6_readLeapers_49 : decode cX6_readLeapers 49 = .ok (.isub, 1) ∧ 49 + 1 = 50 := ⟨by decide +kernel, rfl⟩
theorem iX6_readLeapers_50 : decode cX6_readLeapers 50 = .ok (.invokestatic 68, 3) ∧ 50 + 3 = 53 := ⟨by decide +kernel, rfl⟩
theorem iX6_readLeapers_53 : decode cX6_readLeapers 53 = .ok (.ifCond .eq 12, 3) ∧ 53 + 3 = 56 := ⟨by decide +kernel, rfl⟩
theorem iX6_readLeapers_56 : decode cX6_readLeapers 56 = .ok (.iload_n 2, 1) ∧ 56 + 1 = 57 := ⟨by decide +kernel, rfl⟩
theorem iX6_readLeapers_57 : decode cX6_readLeapers 57 = .ok (.iload 4, 2) ∧ 57 + 2 = 59 := ⟨by decide +kernel, rfl⟩
theorem iX6_readLeapers_59 : decode cX6_readLeapers 59 = .ok (.invokestatic 92, 3) ∧ 59 + 3 = 62 := ⟨by decide +kernel, rfl⟩
theorem iX6_readLeapers_62 : decode cX6_readLeapers 62 = .ok (.ifCond .ne 7, 3) ∧ 62 + 3 = 65 := ⟨by decide +kernel, rfl⟩
theorem iX6_readLeapers_65 : decode cX6_readLeapers 65 = .ok (.iload_n 3, 1) ∧ 65 + 1 = 66 := ⟨by decide +kernel, rfl⟩
theorem iX6_readLeapers_66 : decode cX6_readLeapers 66 = .ok (.iconst 1, 1) ∧ 66 + 1 = 67 := ⟨by decide +kernel, rfl⟩
theorem iX6_readLeapers_67 : decode cX6_readLeapers 67 = .ok (.iadd, 1) ∧ 67 + 1 = 68 := ⟨by decide +kernel, rfl⟩
theorem iX6_readLeapers_68 : decode cX6_readLeapers 68 = .ok (.ireturn, 1) ∧ 68 + 1 = 69 := ⟨by decide +kernel, rfl⟩
theorem iX6_readLeapers_69 : decode cX6_readLeapers 69 = .ok (.iload_n 2, 1) ∧ 69 + 1 = 70 := ⟨by decide +kernel, rfl⟩
theorem iX6_readLeapers_70 : decode cX6_readLeapers 70 = .ok (.iconst 1, 1) ∧ 70 + 1 = 71 := ⟨by decide +kernel, rfl⟩
theorem iX6_readLeapers_71 : decode cX6_readLeapers 71 = .ok (.iload 4, 2) ∧ 71 + 2 = 73 := ⟨by decide +kernel, rfl⟩
theorem iX6_readLeapers_73 : decode cX6_readLeapers 73 = .ok (.ishl, 1) ∧ 73 + 1 = 74 := ⟨by decide +kernel, rfl⟩
theorem iX6_readLeapers_74 : decode cX6_readLeapers 74 = .ok (.iconst (-1), 1) ∧ 74 + 1 = 75 := ⟨by decide +kernel, rfl⟩
theorem iX6_readLeapers_75 : decode cX6_readLeapers 75 = .ok (.ixor, 1) ∧ 75 + 1 = 76 := ⟨by decide +kernel, rfl⟩
theorem iX6_readLeapers_76 : decode cX6_readLeapers 76 = .ok (.iand, 1) ∧ 76 + 1 = 77 := ⟨by decide +kernel, rfl⟩
theorem iX6_readLeapers_77 : decode cX6_readLeapers 77 = .ok (.istore_n 2, 1) ∧ 77 + 1 = 78 := ⟨by decide +kernel, rfl⟩
theorem iX6_readLeapers_78 : decode cX6_readLeapers 78 = .ok (.aload_n 0, 1) ∧ 78 + 1 = 79 := ⟨by decide +kernel, rfl⟩
theorem iX6_readLeapers_79 : decode cX6_readLeapers 79 = .ok (.dup, 1) ∧ 79 + 1 = 80 := ⟨by decide +kernel, rfl⟩
theorem iX6_readLeapers_80 : decode cX6_readLeapers 80 = .ok (.getfield 86, 3) ∧ 80 + 3 = 83 := ⟨by decide +kernel, rfl⟩
theorem iX6_readLeapers_83 : decode cX6_readLeapers 83 = .ok (.iconst 1, 1) ∧ 83 + 1 = 84 := ⟨by decide +kernel, rfl⟩
theorem iX6_readLeapers_84 : decode cX6_readLeapers 84 = .ok (.iadd, 1) ∧ 84 + 1 = 85 := ⟨by decide +kernel, rfl⟩
theorem iX6_readLeapers_85 : decode cX6_readLeapers 85 = .ok (.putfield 86, 3) ∧ 85 + 3 = 88 := ⟨by decide +kernel, rfl⟩
theorem iX6_readLeapers_88 : decode cX6_readLeapers 88 = .ok (.iinc 3 2, 3) ∧ 88 + 3 = 91 := ⟨by decide +kernel, rfl⟩
theorem iX6_readLeapers_91 : decode cX6_readLeapers 91 = .ok (.aload_n 0, 1) ∧ 91 + 1 = 92 := ⟨by decide +kernel, rfl⟩
theorem iX6_readLeapers_92 : decode cX6_readLeapers 92 = .ok (.iload_n 3, 1) ∧ 92 + 1 = 93 := ⟨by decide +kernel, rfl⟩
theorem iX6_readLeapers_93 : decode cX6_readLeapers 93 = .ok (.aload_n 0, 1) ∧ 93 + 1 = 94 := ⟨by decide +kernel, rfl⟩
theorem iX6_readLeapers_94 : decode cX6_readLeapers 94 = .ok (.getfield 72, 3) ∧ 94 + 3 = 97 := ⟨by decide +kernel, rfl⟩
theorem iX6_readLeapers_97 : decode cX6_readLeapers 97 = .ok (.if_icmp .ne 7, 3) ∧ 97 + 3 = 100 := ⟨by decide +kernel, rfl⟩
theorem iX6_readLeapers_100 : decode cX6_readLeapers 100 = .ok (.iconst 1, 1) ∧ 100 + 1 = 101 := ⟨by decide +kernel, rfl⟩
theorem iX6_readLeapers_101 : decode cX6_readLeapers 101 = .ok (.goto 4, 3) ∧ 101 + 3 = 104 := ⟨by decide +kernel, rfl⟩
theorem iX6_readLeapers_104 : decode cX6_readLeapers 104 = .ok (.iconst 0, 1) ∧ 104 + 1 = 105 := ⟨by decide +kernel, rfl⟩
theorem iX6_readLeapers_105 : decode cX6_readLeapers 105 = .ok (.putfield 96, 3) ∧ 105 + 3 = 108 := ⟨by decide +kernel, rfl⟩
theorem iX6_readLeapers_108 : decode cX6_readLeapers 108 = .ok (.aload_n 0, 1) ∧ 108 + 1 = 109 := ⟨by decide +kernel, rfl⟩
theorem iX6_readLeapers_109 : decode cX6_readLeapers 109 = .ok (.getfield 86, 3) ∧ 109 + 3 = 112 := ⟨by decide +kernel, rfl⟩
theorem iX6_readLeapers_112 : decode cX6_readLeapers 112 = .ok (.iconst 4, 1) ∧ 112 + 1 = 113 := ⟨by decide +kernel, rfl⟩
theorem iX6_readLeapers_113 : decode cX6_readLeapers 113 = .ok (.if_icmp .eq 13, 3) ∧ 113 + 3 = 116 := ⟨by decide +kernel, rfl⟩
theorem iX6_readLeapers_116 : decode cX6_readLeapers 116 = .ok (.aload_n 0, 1) ∧ 116 + 1 = 117 := ⟨by decide +kernel, rfl⟩
theorem iX6_readLeapers_117 : decode cX6_readLeapers 117 = .ok (.iload_n 3, 1) ∧ 117 + 1 = 118 := ⟨by decide +kernel, rfl⟩
theorem iX6_readLeapers_118 : decode cX6_readLeapers 118 = .ok (.invokevirtual 79, 3) ∧ 118 + 3 = 121 := ⟨by decide +kernel, rfl⟩
theorem iX6_readLeapers_121 : decode cX6_readLeapers 121 = .ok (.bipush 44, 2) ∧ 121 + 2 = 123 := ⟨by decide +kernel, rfl⟩
theorem iX6_readLeapers_123 : decode cX6_readLeapers 123 = .ok (.if_icmp .eq 5, 3) ∧ 123 + 3 = 126 := ⟨by decide +kernel, rfl⟩
theorem iX6_readLeapers_126 : decode cX6_readLeapers 126 = .ok (.iload_n 3, 1) ∧ 126 + 1 = 127 := ⟨by decide +kernel, rfl⟩
theorem iX6_readLeapers_127 : decode cX6_readLeapers 127 = .ok (.ireturn, 1) ∧ 127 + 1 = 128 := ⟨by decide +kernel, rfl⟩
theorem iX6_readLeapers_128 : decode cX6_readLeapers 128 = .ok (.iinc 3 1, 3) ∧ 128 + 3 = 131 := ⟨by decide +kernel, rfl⟩
theorem iX6_readLeapers_131 : decode cX6_readLeapers 131 = .ok (.goto (-124), 3) ∧ 131 + 3 = 134 := ⟨by decide +kernel, rfl⟩
theorem iX6_readLeapers_134 : decode cX6_readLeapers 134 = .ok (.iload_n 3, 1) ∧ 134 + 1 = 135 := ⟨by decide +kernel, rfl⟩
theorem iX6_readLeapers_135 : decode cX6_readLeapers 135 = .ok (.ireturn, 1) ∧ 135 + 1 = 136 := ⟨by decide +kernel, rfl⟩
theorem iX6_read_0 : decode cX6_read 0 = .ok (.aload_n 0, 1) ∧ 0 + 1 = 1 := ⟨by decide +kernel, rfl⟩
theorem iX6_read_1 : decode cX6_read 1 = .ok (.iconst 0, 1) ∧ 1 + 1 = 2 := ⟨by decide +kernel, rfl⟩
theorem iX6_read_2 : decode cX6_read 2 = .ok (.putfield 96, 3) ∧ 2 + 3 = 5 := ⟨by decide +kernel, rfl⟩
theorem iX6_read_5 : decode cX6_read 5 = .ok (.aload_n 0, 1) ∧ 5 + 1 = 6 := ⟨by decide +kernel, rfl⟩
theorem iX6_read_6 : decode cX6_read 6 = .ok (.iconst 0, 1) ∧ 6 + 1 = 7 := ⟨by decide +kernel, rfl⟩
theorem iX6_read_7 : decode cX6_read 7 = .ok (.putfield 83, 3) ∧ 7 + 3 = 10 := ⟨by decide +kernel, rfl⟩
theorem iX6_read_10 : decode cX6_read 10 = .ok (.aload_n 0, 1) ∧ 10 + 1 = 11 := ⟨by decide +kernel, rfl⟩
theorem iX6_read_11 : decode cX6_read 11 = .ok (.iconst 0, 1) ∧ 11 + 1 = 12 := ⟨by decide +kernel, rfl⟩
theorem iX6_read_12 : decode cX6_read 12 = .ok (.putfield 86, 3) ∧ 12 + 3 = 15 := ⟨by decide +kernel, rfl⟩
theorem iX6_read_15 : decode cX6_read 15 = .ok (.aload_n 0, 1) ∧ 15 + 1 = 16 := ⟨by decide +kernel, rfl⟩
theorem iX6_read_16 : decode cX6_read 16 = .ok (.iconst 0, 1) ∧ 16 + 1 = 17 := ⟨by decide +kernel, rfl⟩
theorem iX6_read_17 : decode cX6_read 17 = .ok (.invokevirtual 79, 3) ∧ 17 + 3 = 20 := ⟨by decide +kernel, rfl⟩
theorem iX6_read_20 : decode cX6_read 20 = .ok (.bipush 48, 2) ∧ 20 + 2 = 22 := ⟨by decide +kernel, rfl⟩
theorem iX6_read_22 : decode cX6_read 22 = .ok (.isub, 1) ∧ 22 + 1 = 23 := ⟨by decide +kernel, rfl⟩
theorem iX6_read_23 : decode cX6_read 23 = .ok (.iconst 2, 1) ∧ 23 + 1 = 24 := ⟨by decide +kernel, rfl⟩
theorem iX6_read_24 : decode cX6_read 24 = .ok (.iconst 3, 1) ∧ 24 + 1 = 25 := ⟨by decide +kernel, rfl⟩
theorem iX6_read_25 : decode cX6_read 25 = .ok (.invokestatic 68, 3) ∧ 25 + 3 = 28 := ⟨by decide +kernel, rfl⟩
theorem iX6_read_28 : decode cX6_read 28 = .ok (.ifCond .ne 5, 3) ∧ 28 + 3 = 31 := ⟨by decide +kernel, rfl⟩
theorem iX6_read_31 : decode cX6_read 31 = .ok (.iconst 0, 1) ∧ 31 + 1 = 32 := ⟨by decide +kernel, rfl⟩
theorem iX6_read_32 : decode cX6_read 32 = .ok (.ireturn, 1) ∧ 32 + 1 = 33 := ⟨by decide +kernel, rfl⟩
theorem iX6_read_33 : decode cX6_read 33 = .ok (.aload_n 0, 1) ∧ 33 + 1 = 34 := ⟨by decide +kernel, rfl⟩
theorem iX6_read_34 : decode cX6_read 34 = .ok (.iconst 1, 1) ∧ 34 + 1 = 35 := ⟨by decide +kernel, rfl⟩
theorem iX6_read_35 : decode cX6_read 35 = .ok (.invokevirtual 79, 3) ∧ 35 + 3 = 38 := ⟨by decide +kernel, rfl⟩
theorem iX6_read_38 : decode cX6_read 38 = .ok (.bipush 48, 2) ∧ 38 + 2 = 40 := ⟨by decide +kernel, rfl⟩
theorem iX6_read_40 : decode cX6_read 40 = .ok (.isub, 1) ∧ 40 + 1 = 41 := ⟨by decide +kernel, rfl⟩
theorem iX6_read_41 : decode cX6_read 41 = .ok (.iconst 2, 1) ∧ 41 + 1 = 42 := ⟨by decide +kernel, rfl⟩
theorem iX6_read_42 : decode cX6_read 42 = .ok (.iconst 4, 1) ∧ 42 + 1 = 43 := ⟨by decide +kernel, rfl⟩
theorem iX6_read_43 : decode cX6_read 43 = .ok (.invokestatic 68, 3) ∧ 43 + 3 = 46 := ⟨by decide +kernel, rfl⟩
theorem iX6_read_46 : decode cX6_read 46 = .ok (.ifCond .ne 5, 3) ∧ 46 + 3 = 49 := ⟨by decide +kernel, rfl⟩
theorem iX6_read_49 : decode cX6_read 49 = .ok (.iconst 1, 1) ∧ 49 + 1 = 50 := ⟨by decide +kernel, rfl⟩
theorem iX6_read_50 : decode cX6_read 50 = .ok (.ireturn, 1) ∧ 50 + 1 = 51 := ⟨by decide +kernel, rfl⟩
theorem iX6_read_51 : decode cX6_read 51 = .ok (.aload_n 0, 1) ∧ 51 + 1 = 52 := ⟨by decide +kernel, rfl⟩
theorem iX6_read_52 : decode cX6_read 52 = .ok (.iconst 2, 1) ∧ 52 + 1 = 53 := ⟨by decide +kernel, rfl⟩
theorem iX6_read_53 : decode cX6_read 53 = .ok (.invokevirtual 79, 3) ∧ 53 + 3 = 56 := ⟨by decide +kernel, rfl⟩
theorem iX6_read_56 : decode cX6_read 56 = .ok (.bipush 59, 2) ∧ 56 + 2 = 58 := ⟨by decide +kernel, rfl⟩
theorem iX6_read_58 : decode cX6_read 58 = .ok (.if_icmp .eq 5, 3) ∧ 58 + 3 = 61 := ⟨by decide +kernel, rfl⟩
theorem iX6_read_61 : decode cX6_read 61 = .ok (.iconst 2, 1) ∧ 61 + 1 = 62 := ⟨by decide +kernel, rfl⟩
theorem iX6_read_62 : decode cX6_read 62 = .ok (.ireturn, 1) ∧ 62 + 1 = 63 := ⟨by decide +kernel, rfl⟩
theorem iX6_read_63 : decode cX6_read 63 = .ok (.aload_n 0, 1) ∧ 63 + 1 = 64 := ⟨by decide +kernel, rfl⟩
theorem iX6_read_64 : decode cX6_read 64 = .ok (.aload_n 0, 1) ∧ 64 + 1 = 65 := ⟨by decide +kernel, rfl⟩
theorem iX6_read_65 : decode cX6_read 65 = .ok (.iconst 0, 1) ∧ 65 + 1 = 66 := ⟨by decide +kernel, rfl⟩
theorem iX6_read_66 : decode cX6_read 66 = .ok (.invokevirtual 79, 3) ∧ 66 + 3 = 69 := ⟨by decide +kernel, rfl⟩
theorem iX6_read_69 : decode cX6_read 69 = .ok (.bipush 48, 2) ∧ 69 + 2 = 71 := ⟨by decide +kernel, rfl⟩
theorem iX6_read_71 : decode cX6_read 71 = .ok (.isub, 1) ∧ 71 + 1 = 72 := ⟨by decide +kernel, rfl⟩
theorem iX6_read_72 : decode cX6_read 72 = .ok (.aload_n 0, 1) ∧ 72 + 1 = 73 := ⟨by decide +kernel, rfl⟩
theorem iX6_read_73 : decode cX6_read 73 = .ok (.iconst 1, 1) ∧ 73 + 1 = 74 := ⟨by decide +kernel, rfl⟩
theorem iX6_read_74 : decode cX6_read 74 = .ok (.invokevirtual 79, 3) ∧ 74 + 3 = 77 := ⟨by decide +kernel, rfl⟩
theorem iX6_read_77 : decode cX6_read 77 = .ok (.bipush 48, 2) ∧ 77 + 2 = 79 := ⟨by decide +kernel, rfl⟩
theorem iX6_read_79 : decode cX6_read 79 = .ok (.isub, 1) ∧ 79 + 1 = 80 := ⟨by decide +kernel, rfl⟩
theorem iX6_read_80 : decode cX6_read 80 = .ok (.imul, 1) ∧ 80 + 1 = 81 := ⟨by decide +kernel, rfl⟩
theorem iX6_read_81 : decode cX6_read 81 = .ok (.putfield 76, 3) ∧ 81 + 3 = 84 := ⟨by decide +kernel, rfl⟩
theorem iX6_read_84 : decode cX6_read 84 = .ok (.aload_n 0, 1) ∧ 84 + 1 = 85 := ⟨by decide +kernel, rfl⟩
theorem iX6_read_85 : decode cX6_read 85 = .ok (.iconst 3, 1) ∧ 85 + 1 = 86 := ⟨by decide +kernel, rfl⟩
theorem iX6_read_86 : decode cX6_read 86 = .ok (.invokevirtual 100, 3) ∧ 86 + 3 = 89 := ⟨by decide +kernel, rfl⟩
theorem iX6_read_89 : decode cX6_read 89 = .ok (.istore_n 1, 1) ∧ 89 + 1 = 90 := ⟨by decide +kernel, rfl⟩
theorem iX6_read_90 : decode cX6_read 90 = .ok (.iload_n 1, 1) ∧ 90 + 1 = 91 := ⟨by decide +kernel, rfl⟩
theorem iX6_read_91 : decode cX6_read 91 = .ok (.iconst 3, 1) ∧ 91 + 1 = 92 := ⟨by decide +kernel, rfl⟩
theorem iX6_read_92 : decode cX6_read 92 = .ok (.aload_n 0, 1) ∧ 92 + 1 = 93 := ⟨by decide +kernel, rfl⟩
theorem iX6_read_93 : decode cX6_read 93 = .ok (.getfield 76, 3) ∧ 93 + 3 = 96 := ⟨by decide +kernel, rfl⟩
theorem iX6_read_96 : decode cX6_read 96 = .ok (.iadd, 1) ∧ 96 + 1 = 97 := ⟨by decide +kernel, rfl⟩
theorem iX6_read_97 : decode cX6_read 97 = .ok (.if_icmp .lt 13, 3) ∧ 97 + 3 = 100 := ⟨by decide +kernel, rfl⟩
theorem iX6_read_100 : decode cX6_read 100 = .ok (.aload_n 0, 1) ∧ 100 + 1 = 101 := ⟨by decide +kernel, rfl⟩
theorem iX6_read_101 : decode cX6_read 101 = .ok (.iload_n 1, 1) ∧ 101 + 1 = 102 := ⟨by decide +kernel, rfl⟩
theorem iX6_read_102 : decode cX6_read 102 = .ok (.invokevirtual 79, 3) ∧ 102 + 3 = 105 := ⟨by decide +kernel, rfl⟩
theorem iX6_read_105 : decode cX6_read 105 = .ok (.bipush 59, 2) ∧ 105 + 2 = 107 := ⟨by decide +kernel, rfl⟩
theorem iX6_read_107 : decode cX6_read 107 = .ok (.if_icmp .eq 5, 3) ∧ 107 + 3 = 110 := ⟨by decide +kernel, rfl⟩
theorem iX6_read_110 : decode cX6_read 110 = .ok (.iload_n 1, 1) ∧ 110 + 1 = 111 := ⟨by decide +kernel, rfl⟩
theorem iX6_read_111 : decode cX6_read 111 = .ok (.ireturn, 1) ∧ 111 + 1 = 112 := ⟨by decide +kernel, rfl⟩
theorem iX6_read_112 : decode cX6_read 112 = .ok (.aload_n 0, 1) ∧ 112 + 1 = 113 := ⟨by decide +kernel, rfl⟩
theorem iX6_read_113 : decode cX6_read 113 = .ok (.iload_n 1, 1) ∧ 113 + 1 = 114 := ⟨by decide +kernel, rfl⟩
theorem iX6_read_114 : decode cX6_read 114 = .ok (.iconst 1, 1) ∧ 114 + 1 = 115 := ⟨by decide +kernel, rfl⟩
theorem iX6_read_115 : decode cX6_read 115 = .ok (.iadd, 1) ∧ 115 + 1 = 116 := ⟨by decide +kernel, rfl⟩
theorem iX6_read_116 : decode cX6_read 116 = .ok (.invokevirtual 103, 3) ∧ 116 + 3 = 119 := ⟨by decide +kernel, rfl⟩
theorem iX6_read_119 : decode cX6_read 119 = .ok (.ireturn, 1) ∧ 119 + 1 = 120 := ⟨by decide +kernel, rfl⟩
theorem iX6_fault_0 : decode cX6_fault 0 = .ok (.aload_n 0, 1) ∧ 0 + 1 = 1 := ⟨by decide +kernel, rfl⟩
theorem iX6_fault_1 : decode cX6_fault 1 = .ok (.invokevirtual 106, 3) ∧ 1 + 3 = 4 := ⟨by decide +kernel, rfl⟩
theorem iX6_fault_4 : decode cX6_fault 4 = .ok (.ireturn, 1) ∧ 4 + 1 = 5 := ⟨by decide +kernel, rfl⟩
theorem iX6_board_0 : decode cX6_board 0 = .ok (.aload_n 0, 1) ∧ 0 + 1 = 1 := ⟨by decide +kernel, rfl⟩
theorem iX6_board_1 : decode cX6_board 1 = .ok (.invokevirtual 106, 3) ∧ 1 + 3 = 4 := ⟨by decide +kernel, rfl⟩
theorem iX6_board_4 : decode cX6_board 4 = .ok (.pop, 1) ∧ 4 + 1 = 5 := ⟨by decide +kernel, rfl⟩
theorem iX6_board_5 : decode cX6_board 5 = .ok (.aload_n 0, 1) ∧ 5 + 1 = 6 := ⟨by decide +kernel, rfl⟩
theorem iX6_board_6 : decode cX6_board 6 = .ok (.getfield 96, 3) ∧ 6 + 3 = 9 := ⟨by decide +kernel, rfl⟩
theorem iX6_board_9 : decode cX6_board 9 = .ok (.ifCond .ne 6, 3) ∧ 9 + 3 = 12 := ⟨by decide +kernel, rfl⟩
theorem iX6_board_12 : decode cX6_board 12 = .ok (.bipush (-103), 2) ∧ 12 + 2 = 14 := ⟨by decide +kernel, rfl⟩
theorem iX6_board_14 : decode cX6_board 14 = .ok (.ireturn, 1) ∧ 14 + 1 = 15 := ⟨by decide +kernel, rfl⟩
theorem iX6_board_15 : decode cX6_board 15 = .ok (.aload_n 0, 1) ∧ 15 + 1 = 16 := ⟨by decide +kernel, rfl⟩
theorem iX6_board_16 : decode cX6_board 16 = .ok (.aload_n 0, 1) ∧ 16 + 1 = 17 := ⟨by decide +kernel, rfl⟩
theorem iX6_board_17 : decode cX6_board 17 = .ok (.getfield 28, 3) ∧ 17 + 3 = 20 := ⟨by decide +kernel, rfl⟩
theorem iX6_board_20 : decode cX6_board 20 = .ok (.iconst 0, 1) ∧ 20 + 1 = 21 := ⟨by decide +kernel, rfl⟩
theorem iX6_board_21 : decode cX6_board 21 = .ok (.baload, 1) ∧ 21 + 1 = 22 := ⟨by decide +kernel, rfl⟩
theorem iX6_board_22 : decode cX6_board 22 = .ok (.bipush 48, 2) ∧ 22 + 2 = 24 := ⟨by decide +kernel, rfl⟩
theorem iX6_board_24 : decode cX6_board 24 = .ok (.isub, 1) ∧ 24 + 1 = 25 := ⟨by decide +kernel, rfl⟩
theorem iX6_board_25 : decode cX6_board 25 = .ok (.putfield 110, 3) ∧ 25 + 3 = 28 := ⟨by decide +kernel, rfl⟩
theorem iX6_board_28 : decode cX6_board 28 = .ok (.aload_n 0, 1) ∧ 28 + 1 = 29 := ⟨by decide +kernel, rfl⟩
theorem iX6_board_29 : decode cX6_board 29 = .ok (.aload_n 0, 1) ∧ 29 + 1 = 30 := ⟨by decide +kernel, rfl⟩
theorem iX6_board_30 : decode cX6_board 30 = .ok (.getfield 28, 3) ∧ 30 + 3 = 33 := ⟨by decide +kernel, rfl⟩
theorem iX6_board_33 : decode cX6_board 33 = .ok (.iconst 1, 1) ∧ 33 + 1 = 34 := ⟨by decide +kernel, rfl⟩
theorem iX6_board_34 : decode cX6_board 34 = .ok (.baload, 1) ∧ 34 + 1 = 35 := ⟨by decide +kernel, rfl⟩
theorem iX6_board_35 : decode cX6_board 35 = .ok (.bipush 48, 2) ∧ 35 + 2 = 37 := ⟨by decide +kernel, rfl⟩
theorem iX6_board_37 : decode cX6_board 37 = .ok (.isub, 1) ∧ 37 + 1 = 38 := ⟨by decide +kernel, rfl⟩
theorem iX6_board_38 : decode cX6_board 38 = .ok (.putfield 113, 3) ∧ 38 + 3 = 41 := ⟨by decide +kernel, rfl⟩
theorem iX6_board_41 : decode cX6_board 41 = .ok (.aload_n 0, 1) ∧ 41 + 1 = 42 := ⟨by decide +kernel, rfl⟩
theorem iX6_board_42 : decode cX6_board 42 = .ok (.aload_n 0, 1) ∧ 42 + 1 = 43 := ⟨by decide +kernel, rfl⟩
theorem iX6_board_43 : decode cX6_board 43 = .ok (.getfield 83, 3) ∧ 43 + 3 = 46 := ⟨by decide +kernel, rfl⟩
theorem iX6_board_46 : decode cX6_board 46 = .ok (.putfield 116, 3) ∧ 46 + 3 = 49 := ⟨by decide +kernel, rfl⟩
theorem iX6_board_49 : decode cX6_board 49 = .ok (.aload_n 0, 1) ∧ 49 + 1 = 50 := ⟨by decide +kernel, rfl⟩
theorem iX6_board_50 : decode cX6_board 50 = .ok (.aload_n 0, 1) ∧ 50 + 1 = 51 := ⟨by decide +kernel, rfl⟩
theorem iX6_board_51 : decode cX6_board 51 = .ok (.getfield 86, 3) ∧ 51 + 3 = 54 := ⟨by decide +kernel, rfl⟩
theorem iX6_board_54 : decode cX6_board 54 = .ok (.putfield 119, 3) ∧ 54 + 3 = 57 := ⟨by decide +kernel, rfl⟩
theorem iX6_board_57 : decode cX6_board 57 = .ok (.iconst 0, 1) ∧ 57 + 1 = 58 := ⟨by decide +kernel, rfl⟩
theorem iX6_board_58 : decode cX6_board 58 = .ok (.istore_n 1, 1) ∧ 58 + 1 = 59 := ⟨by decide +kernel, rfl⟩
theorem iX6_board_59 : decode cX6_board 59 = .ok (.iload_n 1, 1) ∧ 59 + 1 = 60 := ⟨by decide +kernel, rfl⟩
theorem iX6_board_60 : decode cX6_board 60 = .ok (.aload_n 0, 1) ∧ 60 + 1 = 61 := ⟨by decide +kernel, rfl⟩
theorem iX6_board_61 : decode cX6_board 61 = .ok (.getfield 119, 3) ∧ 61 + 3 = 64 := ⟨by decide +kernel, rfl⟩
theorem iX6_board_64 : decode cX6_board 64 = .ok (.if_icmp .ge 52, 3) ∧ 64 + 3 = 67 := ⟨by decide +kernel, rfl⟩
theorem iX6_board_67 : decode cX6_board 67 = .ok (.iconst 4, 1) ∧ 67 + 1 = 68 := ⟨by decide +kernel, rfl⟩
theorem iX6_board_68 : decode cX6_board 68 = .ok (.aload_n 0, 1) ∧ 68 + 1 = 69 := ⟨by decide +kernel, rfl⟩
theorem iX6_board_69 : decode cX6_board 69 = .ok (.getfield 76, 3) ∧ 69 + 3 = 72 := ⟨by decide +kernel, rfl⟩
theorem iX6_board_72 : decode cX6_board 72 = .ok (.iadd, 1) ∧ 72 + 1 = 73 := ⟨by decide +kernel, rfl⟩
theorem iX6_board_73 : decode cX6_board 73 = .ok (.iconst 3, 1) ∧ 73 + 1 = 74 := ⟨by decide +kernel, rfl⟩
theorem iX6_board_74 : decode cX6_board 74 = .ok (.iload_n 1, 1) ∧ 74 + 1 = 75 := ⟨by decide +kernel, rfl⟩
theorem iX6_board_75 : decode cX6_board 75 = .ok (.imul, 1) ∧ 75 + 1 = 76 := ⟨by decide +kernel, rfl⟩
theorem iX6_board_76 : decode cX6_board 76 = .ok (.iadd, 1) ∧ 76 + 1 = 77 := ⟨by decide +kernel, rfl⟩
theorem iX6_board_77 : decode cX6_board 77 = .ok (.istore_n 2, 1) ∧ 77 + 1 = 78 := ⟨by decide +kernel, rfl⟩
theorem iX6_board_78 : decode cX6_board 78 = .ok (.aload_n 0, 1) ∧ 78 + 1 = 79 := ⟨by decide +kernel, rfl⟩
theorem iX6_board_79 : decode cX6_board 79 = .ok (.getfield 7, 3) ∧ 79 + 3 = 82 := ⟨by decide +kernel, rfl⟩
theorem iX6_board_82 : decode cX6_board 82 = .ok (.iload_n 1, 1) ∧ 82 + 1 = 83 := ⟨by decide +kernel, rfl⟩
theorem iX6_board_83 : decode cX6_board 83 = .ok (.aload_n 0, 1) ∧ 83 + 1 = 84 := ⟨by decide +kernel, rfl⟩
theorem iX6_board_84 : decode cX6_board 84 = .ok (.getfield 28, 3) ∧ 84 + 3 = 87 := ⟨by decide +kernel, rfl⟩
theorem iX6_board_87 : decode cX6_board 87 = .ok (.iload_n 2, 1) ∧ 87 + 1 = 88 := ⟨by decide +kernel, rfl⟩
theorem iX6_board_88 : decode cX6_board 88 = .ok (.baload, 1) ∧ 88 + 1 = 89 := ⟨by decide +kernel, rfl⟩
theorem iX6_board_89 : decode cX6_board 89 = .ok (.invokestatic 89, 3) ∧ 89 + 3 = 92 := ⟨by decide +kernel, rfl⟩
theorem iX6_board_92 : decode cX6_board 92 = .ok (.iastore, 1) ∧ 92 + 1 = 93 := ⟨by decide +kernel, rfl⟩
theorem iX6_board_93 : decode cX6_board 93 = .ok (.aload_n 0, 1) ∧ 93 + 1 = 94 := ⟨by decide +kernel, rfl⟩
theorem iX6_board_94 : decode cX6_board 94 = .ok (.getfield 13, 3) ∧ 94 + 3 = 97 := ⟨by decide +kernel, rfl⟩
theorem iX6_board_97 : decode cX6_board 97 = .ok (.iload_n 1, 1) ∧ 97 + 1 = 98 := ⟨by decide +kernel, rfl⟩
theorem iX6_board_98 : decode cX6_board 98 = .ok (.aload_n 0, 1) ∧ 98 + 1 = 99 := ⟨by decide +kernel, rfl⟩
theorem iX6_board_99 : decode cX6_board 99 = .ok (.getfield 28, 3) ∧ 99 + 3 = 102 := ⟨by decide +kernel, rfl⟩
theorem iX6_board_102 : decode cX6_board 102 = .ok (.iload_n 2, 1) ∧ 102 + 1 = 103 := ⟨by decide +kernel, rfl⟩
theorem iX6_board_103 : decode cX6_board 103 = .ok (.iconst 1, 1) ∧ 103 + 1 = 104 := ⟨by decide +kernel, rfl⟩
theorem iX6_board_104 : decode cX6_board 104 = .ok (.iadd, 1) ∧ 104 + 1 = 105 := ⟨by decide +kernel, rfl⟩
theorem iX6_board_105 : decode cX6_board 105 = .ok (.baload, 1) ∧ 105 + 1 = 106 := ⟨by decide +kernel, rfl⟩
theorem iX6_board_106 : decode cX6_board 106 = .ok (.bipush 97, 2) ∧ 106 + 2 = 108 := ⟨by decide +kernel, rfl⟩
theorem iX6_board_108 : decode cX6_board 108 = .ok (.isub, 1) ∧ 108 + 1 = 109 := ⟨by decide +kernel, rfl⟩
theorem iX6_board_109 : decode cX6_board 109 = .ok (.iastore, 1) ∧ 109 + 1 = 110 := ⟨by decide +kernel, rfl⟩
theorem iX6_board_110 : decode cX6_board 110 = .ok (.iinc 1 1, 3) ∧ 110 + 3 = 113 := ⟨by decide +kernel, rfl⟩
theorem iX6_board_113 : decode cX6_board 113 = .ok (.goto (-54), 3) ∧ 113 + 3 = 116 := ⟨by decide +kernel, rfl⟩
theorem iX6_board_116 : decode cX6_board 116 = .ok (.aload_n 0, 1) ∧ 116 + 1 = 117 := ⟨by decide +kernel, rfl⟩
theorem iX6_board_117 : decode cX6_board 117 = .ok (.iconst 0, 1) ∧ 117 + 1 = 118 := ⟨by decide +kernel, rfl⟩
theorem iX6_board_118 : decode cX6_board 118 = .ok (.putfield 122, 3) ∧ 118 + 3 = 121 := ⟨by decide +kernel, rfl⟩
theorem iX6_board_121 : decode cX6_board 121 = .ok (.aload_n 0, 1) ∧ 121 + 1 = 122 := ⟨by decide +kernel, rfl⟩
theorem iX6_board_122 : decode cX6_board 122 = .ok (.dup, 1) ∧ 122 + 1 = 123 := ⟨by decide +kernel, rfl⟩
theorem iX6_board_123 : decode cX6_board 123 = .ok (.getfield 125, 3) ∧ 123 + 3 = 126 := ⟨by decide +kernel, rfl⟩
theorem iX6_board_126 : decode cX6_board 126 = .ok (.iconst 1, 1) ∧ 126 + 1 = 127 := ⟨by decide +kernel, rfl⟩
theorem iX6_board_127 : decode cX6_board 127 = .ok (.iadd, 1) ∧ 127 + 1 = 128 := ⟨by decide +kernel, rfl⟩
theorem iX6_board_128 : decode cX6_board 128 = .ok (.putfield 125, 3) ∧ 128 + 3 = 131 := ⟨by decide +kernel, rfl⟩
theorem iX6_board_131 : decode cX6_board 131 = .ok (.aload_n 0, 1) ∧ 131 + 1 = 132 := ⟨by decide +kernel, rfl⟩
theorem iX6_board_132 : decode cX6_board 132 = .ok (.iconst 0, 1) ∧ 132 + 1 = 133 := ⟨by decide +kernel, rfl⟩
theorem iX6_board_133 : decode cX6_board 133 = .ok (.putfield 128, 3) ∧ 133 + 3 = 136 := ⟨by decide +kernel, rfl⟩
theorem iX6_board_136 : decode cX6_board 136 = .ok (.aload_n 0, 1) ∧ 136 + 1 = 137 := ⟨by decide +kernel, rfl⟩
theorem iX6_board_137 : decode cX6_board 137 = .ok (.iconst 0, 1) ∧ 137 + 1 = 138 := ⟨by decide +kernel, rfl⟩
theorem iX6_board_138 : decode cX6_board 138 = .ok (.putfield 72, 3) ∧ 138 + 3 = 141 := ⟨by decide +kernel, rfl⟩
theorem iX6_board_141 : decode cX6_board 141 = .ok (.aload_n 0, 1) ∧ 141 + 1 = 142 := ⟨by decide +kernel, rfl⟩
theorem iX6_board_142 : decode cX6_board 142 = .ok (.invokevirtual 131, 3) ∧ 142 + 3 = 145 := ⟨by decide +kernel, rfl⟩
theorem iX6_board_145 : decode cX6_board 145 = .ok (.ireturn, 1) ∧ 145 + 1 = 146 := ⟨by decide +kernel, rfl⟩
theorem iX6_cells_0 : decode cX6_cells 0 = .ok (.aload_n 0, 1) ∧ 0 + 1 = 1 := ⟨by decide +kernel, rfl⟩
theorem iX6_cells_1 : decode cX6_cells 1 = .ok (.getfield 110, 3) ∧ 1 + 3 = 4 := ⟨by decide +kernel, rfl⟩
theorem iX6_cells_4 : decode cX6_cells 4 = .ok (.aload_n 0, 1) ∧ 4 + 1 = 5 := ⟨by decide +kernel, rfl⟩
theorem iX6_cells_5 : decode cX6_cells 5 = .ok (.getfield 113, 3) ∧ 5 + 3 = 8 := ⟨by decide +kernel, rfl⟩
theorem iX6_cells_8 : decode cX6_cells 8 = .ok (.imul, 1) ∧ 8 + 1 = 9 := ⟨by decide +kernel, rfl⟩
theorem iX6_cells_9 : decode cX6_cells 9 = .ok (.ireturn, 1) ∧ 9 + 1 = 10 := ⟨by decide +kernel, rfl⟩
theorem iX6_isLeaper_0 : decode cX6_isLeaper 0 = .ok (.iload_n 1, 1) ∧ 0 + 1 = 1 := ⟨by decide +kernel, rfl⟩
theorem iX6_isLeaper_1 : decode cX6_isLeaper 1 = .ok (.iconst 0, 1) ∧ 1 + 1 = 2 := ⟨by decide +kernel, rfl⟩
theorem iX6_isLeaper_2 : decode cX6_isLeaper 2 = .ok (.aload_n 0, 1) ∧ 2 + 1 = 3 := ⟨by decide +kernel, rfl⟩
theorem iX6_isLeaper_3 : decode cX6_isLeaper 3 = .ok (.getfield 119, 3) ∧ 3 + 3 = 6 := ⟨by decide +kernel, rfl⟩
theorem iX6_isLeaper_6 : decode cX6_isLeaper 6 = .ok (.iconst 1, 1) ∧ 6 + 1 = 7 := ⟨by decide +kernel, rfl⟩
theorem iX6_isLeaper_7 : decode cX6_isLeaper 7 = .ok (.isub, 1) ∧ 7 + 1 = 8 := ⟨by decide +kernel, rfl⟩
theorem iX6_isLeaper_8 : decode cX6_isLeaper 8 = .ok (.invokestatic 68, 3) ∧ 8 + 3 = 11 := ⟨by decide +kernel, rfl⟩
theorem iX6_isLeaper_11 : decode cX6_isLeaper 11 = .ok (.ireturn, 1) ∧ 11 + 1 = 12 := ⟨by decide +kernel, rfl⟩
theorem iX6_isCell_0 : decode cX6_isCell 0 = .ok (.iload_n 1, 1) ∧ 0 + 1 = 1 := ⟨by decide +kernel, rfl⟩
theorem iX6_isCell_1 : decode cX6_isCell 1 = .ok (.iconst 0, 1) ∧ 1 + 1 = 2 := ⟨by decide +kernel, rfl⟩
theorem iX6_isCell_2 : decode cX6_isCell 2 = .ok (.aload_n 0, 1) ∧ 2 + 1 = 3 := ⟨by decide +kernel, rfl⟩
theorem iX6_isCell_3 : decode cX6_isCell 3 = .ok (.invokevirtual 131, 3) ∧ 3 + 3 = 6 := ⟨by decide +kernel, rfl⟩
theorem iX6_isCell_6 : decode cX6_isCell 6 = .ok (.iconst 1, 1) ∧ 6 + 1 = 7 := ⟨by decide +kernel, rfl⟩
theorem iX6_isCell_7 : decode cX6_isCell 7 = .ok (.isub, 1) ∧ 7 + 1 = 8 := ⟨by decide +kernel, rfl⟩
theorem iX6_isCell_8 : decode cX6_isCell 8 = .ok (.invokestatic 68, 3) ∧ 8 + 3 = 11 := ⟨by decide +kernel, rfl⟩
theorem iX6_isCell_11 : decode cX6_isCell 11 = .ok (.ireturn, 1) ∧ 11 + 1 = 12 := ⟨by decide +kernel, rfl⟩
theorem iX6_isBy_0 : decode cX6_isBy 0 = .ok (.iload_n 0, 1) ∧ 0 + 1 = 1 := ⟨by decide +kernel, rfl⟩
theorem iX6_isBy_1 : decode cX6_isBy 1 = .ok (.iload_n 2, 1) ∧ 1 + 1 = 2 := ⟨by decide +kernel, rfl⟩
theorem iX6_isBy_2 : decode cX6_isBy 2 = .ok (.if_icmp .ne 8, 3) ∧ 2 + 3 = 5 := ⟨by decide +kernel, rfl⟩
theorem iX6_isBy_5 : decode cX6_isBy 5 = .ok (.iload_n 1, 1) ∧ 5 + 1 = 6 := ⟨by decide +kernel, rfl⟩
theorem iX6_isBy_6 : decode cX6_isBy 6 = .ok (.iload_n 3, 1) ∧ 6 + 1 = 7 := ⟨by decide +kernel, rfl⟩
theorem iX6_isBy_7 : decode cX6_isBy 7 = .ok (.if_icmp .eq 13, 3) ∧ 7 + 3 = 10 := ⟨by decide +kernel, rfl⟩
theorem iX6_isBy_10 : decode cX6_isBy 10 = .ok (.iload_n 0, 1) ∧ 10 + 1 = 11 := ⟨by decide +kernel, rfl⟩
theorem iX6_isBy_11 : decode cX6_isBy 11 = .ok (.iload_n 3, 1) ∧ 11 + 1 = 12 := ⟨by decide +kernel, rfl⟩
theorem iX6_isBy_12 : decode cX6_isBy 12 = .ok (.if_icmp .ne 12, 3) ∧ 12 + 3 = 15 := ⟨by decide +kernel, rfl⟩
theorem iX6_isBy_15 : decode cX6_isBy 15 = .ok (.iload_n 1, 1) ∧ 15 + 1 = 16 := ⟨by decide +kernel, rfl⟩
theorem iX6_isBy_16 : decode cX6_isBy 16 = .ok (.iload_n 2, 1) ∧ 16 + 1 = 17 := ⟨by decide +kernel, rfl⟩
theorem iX6_isBy_17 : decode cX6_isBy 17 = .ok (.if_icmp .ne 7, 3) ∧ 17 + 3 = 20 := ⟨by decide +kernel, rfl⟩
theorem iX6_isBy_20 : decode cX6_isBy 20 = .ok (.iconst 1, 1) ∧ 20 + 1 = 21 := ⟨by decide +kernel, rfl⟩
theorem iX6_isBy_21 : decode cX6_isBy 21 = .ok (.goto 4, 3) ∧ 21 + 3 = 24 := ⟨by decide +kernel, rfl⟩
theorem iX6_isBy_24 : decode cX6_isBy 24 = .ok (.iconst 0, 1) ∧ 24 + 1 = 25 := ⟨by decide +kernel, rfl⟩
theorem iX6_isBy_25 : decode cX6_isBy 25 = .ok (.ireturn, 1) ∧ 25 + 1 = 26 := ⟨by decide +kernel, rfl⟩
theorem iX6_canBy_0 : decode cX6_canBy 0 = .ok (.iload_n 0, 1) ∧ 0 + 1 = 1 := ⟨by decide +kernel, rfl⟩
theorem iX6_canBy_1 : decode cX6_canBy 1 = .ok (.tableswitch 81 1 4 #[31, 39, 47, 55], 31) ∧ 1 + 31 = 32 := ⟨by decide +kernel, rfl⟩
theorem iX6_canBy_32 : decode cX6_canBy 32 = .ok (.iload_n 1, 1) ∧ 32 + 1 = 33 := ⟨by decide +kernel, rfl⟩
theorem iX6_canBy_33 : decode cX6_canBy 33 = .ok (.iload_n 2, 1) ∧ 33 + 1 = 34 := ⟨by decide +kernel, rfl⟩
theorem iX6_canBy_34 : decode cX6_canBy 34 = .ok (.iconst 1, 1) ∧ 34 + 1 = 35 := ⟨by decide +kernel, rfl⟩
theorem iX6_canBy_35 : decode cX6_canBy 35 = .ok (.iconst 0, 1) ∧ 35 + 1 = 36 := ⟨by decide +kernel, rfl⟩
theorem iX6_canBy_36 : decode cX6_canBy 36 = .ok (.invokestatic 134, 3) ∧ 36 + 3 = 39 := ⟨by decide +kernel, rfl⟩
theorem iX6_canBy_39 : decode cX6_canBy 39 = .ok (.ireturn, 1) ∧ 39 + 1 = 40 := ⟨by decide +kernel, rfl⟩
theorem iX6_canBy_40 : decode cX6_canBy 40 = .ok (.iload_n 1, 1) ∧ 40 + 1 = 41 := ⟨by decide +kernel, rfl⟩
theorem iX6_canBy_41 : decode cX6_canBy 41 = .ok (.iload_n 2, 1) ∧ 41 + 1 = 42 := ⟨by decide +kernel, rfl⟩
theorem iX6_canBy_42 : decode cX6_canBy 42 = .ok (.iconst 1, 1) ∧ 42 + 1 = 43 := ⟨by decide +kernel, rfl⟩
theorem iX6_canBy_43 : decode cX6_canBy 43 = .ok (.iconst 1, 1) ∧ 43 + 1 = 44 := ⟨by decide +kernel, rfl⟩
theorem iX6_canBy_44 : decode cX6_canBy 44 = .ok (.invokestatic 134, 3) ∧ 44 + 3 = 47 := ⟨by decide +kernel, rfl⟩
theorem iX6_canBy_47 : decode cX6_canBy 47 = .ok (.ireturn, 1) ∧ 47 + 1 = 48 := ⟨by decide +kernel, rfl⟩
theorem iX6_canBy_48 : decode cX6_canBy 48 = .ok (.iload_n 1, 1) ∧ 48 + 1 = 49 := ⟨by decide +kernel, rfl⟩
theorem iX6_canBy_49 : decode cX6_canBy 49 = .ok (.iload_n 2, 1) ∧ 49 + 1 = 50 := ⟨by decide +kernel, rfl⟩
theorem iX6_canBy_50 : decode cX6_canBy 50 = .ok (.iconst 1, 1) ∧ 50 + 1 = 51 := ⟨by decide +kernel, rfl⟩
theorem iX6_canBy_51 : decode cX6_canBy 51 = .ok (.iconst 3, 1) ∧ 51 + 1 = 52 := ⟨by decide +kernel, rfl⟩
theorem iX6_canBy_52 : decode cX6_canBy 52 = .ok (.invokestatic 134, 3) ∧ 52 + 3 = 55 := ⟨by decide +kernel, rfl⟩
theorem iX6_canBy_55 : decode cX6_canBy 55 = .ok (.ireturn, 1) ∧ 55 + 1 = 56 := ⟨by decide +kernel, rfl⟩
theorem iX6_canBy_56 : decode cX6_canBy 56 = .ok (.iload_n 1, 1) ∧ 56 + 1 = 57 := ⟨by decide +kernel, rfl⟩
theorem iX6_canBy_57 : decode cX6_canBy 57 = .ok (.iload_n 2, 1) ∧ 57 + 1 = 58 := ⟨by decide +kernel, rfl⟩
theorem iX6_canBy_58 : decode cX6_canBy 58 = .ok (.iconst 1, 1) ∧ 58 + 1 = 59 := ⟨by decide +kernel, rfl⟩
theorem iX6_canBy_59 : decode cX6_canBy 59 = .ok (.iconst 0, 1) ∧ 59 + 1 = 60 := ⟨by decide +kernel, rfl⟩
theorem iX6_canBy_60 : decode cX6_canBy 60 = .ok (.invokestatic 134, 3) ∧ 60 + 3 = 63 := ⟨by decide +kernel, rfl⟩
theorem iX6_canBy_63 : decode cX6_canBy 63 = .ok (.ifCond .ne 13, 3) ∧ 63 + 3 = 66 := ⟨by decide +kernel, rfl⟩
theorem iX6_canBy_66 : decode cX6_canBy 66 = .ok (.iload_n 1, 1) ∧ 66 + 1 = 67 := ⟨by decide +kernel, rfl⟩
theorem iX6_canBy_67 : decode cX6_canBy 67 = .ok (.iload_n 2, 1) ∧ 67 + 1 = 68 := ⟨by decide +kernel, rfl⟩
theorem iX6_canBy_68 : decode cX6_canBy 68 = .ok (.iconst 1, 1) ∧ 68 + 1 = 69 := ⟨by decide +kernel, rfl⟩
theorem iX6_canBy_69 : decode cX6_canBy 69 = .ok (.iconst 2, 1) ∧ 69 + 1 = 70 := ⟨by decide +kernel, rfl⟩
theorem iX6_canBy_70 : decode cX6_canBy 70 = .ok (.invokestatic 134, 3) ∧ 70 + 3 = 73 := ⟨by decide +kernel, rfl⟩
theorem iX6_canBy_73 : decode cX6_canBy 73 = .ok (.ifCond .eq 7, 3) ∧ 73 + 3 = 76 := ⟨by decide +kernel, rfl⟩
theorem iX6_canBy_76 : decode cX6_canBy 76 = .ok (.iconst 1, 1) ∧ 76 + 1 = 77 := ⟨by decide +kernel, rfl⟩
theorem iX6_canBy_77 : decode cX6_canBy 77 = .ok (.goto 4, 3) ∧ 77 + 3 = 80 := ⟨by decide +kernel, rfl⟩
theorem iX6_canBy_80 : decode cX6_canBy 80 = .ok (.iconst 0, 1) ∧ 80 + 1 = 81 := ⟨by decide +kernel, rfl⟩
theorem iX6_canBy_81 : decode cX6_canBy 81 = .ok (.ireturn, 1) ∧ 81 + 1 = 82 := ⟨by decide +kernel, rfl⟩
theorem iX6_canBy_82 : decode cX6_canBy 82 = .ok (.iload_n 1, 1) ∧ 82 + 1 = 83 := ⟨by decide +kernel, rfl⟩
theorem iX6_canBy_83 : decode cX6_canBy 83 = .ok (.iload_n 2, 1) ∧ 83 + 1 = 84 := ⟨by decide +kernel, rfl⟩
theorem iX6_canBy_84 : decode cX6_canBy 84 = .ok (.iconst 1, 1) ∧ 84 + 1 = 85 := ⟨by decide +kernel, rfl⟩
theorem iX6_canBy_85 : decode cX6_canBy 85 = .ok (.iconst 2, 1) ∧ 85 + 1 = 86 := ⟨by decide +kernel, rfl⟩
theorem iX6_canBy_86 : decode cX6_canBy 86 = .ok (.invokestatic 134, 3) ∧ 86 + 3 = 89 := ⟨by decide +kernel, rfl⟩
theorem iX6_canBy_89 : decode cX6_canBy 89 = .ok (.ireturn, 1) ∧ 89 + 1 = 90 := ⟨by decide +kernel, rfl⟩
theorem iX6_apart_0 : decode cX6_apart 0 = .ok (.iload_n 0, 1) ∧ 0 + 1 = 1 := ⟨by decide +kernel, rfl⟩
theorem iX6_apart_1 : decode cX6_apart 1 = .ok (.iload_n 1, 1) ∧ 1 + 1 = 2 := ⟨by decide +kernel, rfl⟩
theorem iX6_apart_2 : decode cX6_apart 2 = .ok (.if_icmp .le 9, 3) ∧ 2 + 3 = 5 := ⟨by decide +kernel, rfl⟩
theorem iX6_apart_5 : decode cX6_apart 5 = .ok (.iload_n 0, 1) ∧ 5 + 1 = 6 := ⟨by decide +kernel, rfl⟩
theorem iX6_apart_6 : decode cX6_apart 6 = .ok (.iload_n 1, 1) ∧ 6 + 1 = 7 := ⟨by decide +kernel, rfl⟩
theorem iX6_apart_7 : decode cX6_apart 7 = .ok (.isub, 1) ∧ 7 + 1 = 8 := ⟨by decide +kernel, rfl⟩
theorem iX6_apart_8 : decode cX6_apart 8 = .ok (.goto 6, 3) ∧ 8 + 3 = 11 := ⟨by decide +kernel, rfl⟩
theorem iX6_apart_11 : decode cX6_apart 11 = .ok (.iload_n 1, 1) ∧ 11 + 1 = 12 := ⟨by decide +kernel, rfl⟩
theorem iX6_apart_12 : decode cX6_apart 12 = .ok (.iload_n 0, 1) ∧ 12 + 1 = 13 := ⟨by decide +kernel, rfl⟩
theorem iX6_apart_13 : decode cX6_apart 13 = .ok (.isub, 1) ∧ 13 + 1 = 14 := ⟨by decide +kernel, rfl⟩
theorem iX6_apart_14 : decode cX6_apart 14 = .ok (.ireturn, 1) ∧ 14 + 1 = 15 := ⟨by decide +kernel, rfl⟩
theorem iX6_around_0 : decode cX6_around 0 = .ok (.iconst 0, 1) ∧ 0 + 1 = 1 := ⟨by decide +kernel, rfl⟩
theorem iX6_around_1 : decode cX6_around 1 = .ok (.istore_n 3, 1) ∧ 1 + 1 = 2 := ⟨by decide +kernel, rfl⟩
theorem iX6_around_2 : decode cX6_around 2 = .ok (.iconst 0, 1) ∧ 2 + 1 = 3 := ⟨by decide +kernel, rfl⟩
theorem iX6_around_3 : decode cX6_around 3 = .ok (.istore 4, 2) ∧ 3 + 2 = 5 := ⟨by decide +kernel, rfl⟩
theorem iX6_around_5 : decode cX6_around 5 = .ok (.iload 4, 2) ∧ 5 + 2 = 7 := ⟨by decide +kernel, rfl⟩
theorem iX6_around_7 : decode cX6_around 7 = .ok (.aload_n 0, 1) ∧ 7 + 1 = 8 := ⟨by decide +kernel, rfl⟩
theorem iX6_around_8 : decode cX6_around 8 = .ok (.invokevirtual 131, 3) ∧ 8 + 3 = 11 := ⟨by decide +kernel, rfl⟩
theorem iX6_around_11 : decode cX6_around 11 = .ok (.if_icmp .ge 75, 3) ∧ 11 + 3 = 14 := ⟨by decide +kernel, rfl⟩
theorem iX6_around_14 : decode cX6_around 14 = .ok (.iload_n 1, 1) ∧ 14 + 1 = 15 := ⟨by decide +kernel, rfl⟩
theorem iX6_around_15 : decode cX6_around 15 = .ok (.iload 4, 2) ∧ 15 + 2 = 17 := ⟨by decide +kernel, rfl⟩
theorem iX6_around_17 : decode cX6_around 17 = .ok (.aload_n 0, 1) ∧ 17 + 1 = 18 := ⟨by decide +kernel, rfl⟩
theorem iX6_around_18 : decode cX6_around 18 = .ok (.getfield 113, 3) ∧ 18 + 3 = 21 := ⟨by decide +kernel, rfl⟩
theorem iX6_around_21 : decode cX6_around 21 = .ok (.idiv, 1) ∧ 21 + 1 = 22 := ⟨by decide +kernel, rfl⟩
theorem iX6_around_22 : decode cX6_around 22 = .ok (.iload_n 2, 1) ∧ 22 + 1 = 23 := ⟨by decide +kernel, rfl⟩
theorem iX6_around_23 : decode cX6_around 23 = .ok (.aload_n 0, 1) ∧ 23 + 1 = 24 := ⟨by decide +kernel, rfl⟩
theorem iX6_around_24 : decode cX6_around 24 = .ok (.getfield 113, 3) ∧ 24 + 3 = 27 := ⟨by decide +kernel, rfl⟩
theorem iX6_around_27 : decode cX6_around 27 = .ok (.idiv, 1) ∧ 27 + 1 = 28 := ⟨by decide +kernel, rfl⟩
theorem iX6_around_28 : decode cX6_around 28 = .ok (.invokestatic 138, 3) ∧ 28 + 3 = 31 := ⟨by decide +kernel, rfl⟩
theorem iX6_around_31 : decode cX6_around 31 = .ok (.iload 4, 2) ∧ 31 + 2 = 33 := ⟨by decide +kernel, rfl⟩
theorem iX6_around_33 : decode cX6_around 33 = .ok (.aload_n 0, 1) ∧ 33 + 1 = 34 := ⟨by decide +kernel, rfl⟩
theorem iX6_around_34 : decode cX6_around 34 = .ok (.getfield 113, 3) ∧ 34 + 3 = 37 := ⟨by decide +kernel, rfl⟩
theorem iX6_around_37 : decode cX6_around 37 = .ok (.irem, 1) ∧ 37 + 1 = 38 := ⟨by decide +kernel, rfl⟩
theorem iX6_around_38 : decode cX6_around 38 = .ok (.iload_n 2, 1) ∧ 38 + 1 = 39 := ⟨by decide +kernel, rfl⟩
theorem iX6_around_39 : decode cX6_around 39 = .ok (.aload_n 0, 1) ∧ 39 + 1 = 40 := ⟨by decide +kernel, rfl⟩
theorem iX6_around_40 : decode cX6_around 40 = .ok (.getfield 113, 3) ∧ 40 + 3 = 43 := ⟨by decide +kernel, rfl⟩
theorem iX6_around_43 : decode cX6_around 43 = .ok (.irem, 1) ∧ 43 + 1 = 44 := ⟨by decide +kernel, rfl⟩
theorem iX6_around_44 : decode cX6_around 44 = .ok (.invokestatic 138, 3) ∧ 44 + 3 = 47 := ⟨by decide +kernel, rfl⟩
theorem iX6_around_47 : decode cX6_around 47 = .ok (.invokestatic 142, 3) ∧ 47 + 3 = 50 := ⟨by decide +kernel, rfl⟩
theorem iX6_around_50 : decode cX6_around 50 = .ok (.istore 5, 2) ∧ 50 + 2 = 52 := ⟨by decide +kernel, rfl⟩
theorem iX6_around_52 : decode cX6_around 52 = .ok (.iload_n 3, 1) ∧ 52 + 1 = 53 := ⟨by decide +kernel, rfl⟩
theorem iX6_around_53 : decode cX6_around 53 = .ok (.iload 5, 2) ∧ 53 + 2 = 55 := ⟨by decide +kernel, rfl⟩
theorem iX6_around_55 : decode cX6_around 55 = .ok (.ifCond .eq 22, 3) ∧ 55 + 3 = 58 := ⟨by decide +kernel, rfl⟩
theorem iX6_around_58 : decode cX6_around 58 = .ok (.aload_n 0, 1) ∧ 58 + 1 = 59 := ⟨by decide +kernel, rfl⟩
theorem iX6_around_59 : decode cX6_around 59 = .ok (.getfield 116, 3) ∧ 59 + 3 = 62 := ⟨by decide +kernel, rfl⟩
theorem iX6_around_62 : decode cX6_around 62 = .ok (.iload 4, 2) ∧ 62 + 2 = 64 := ⟨by decide +kernel, rfl⟩
theorem iX6_around_64 : decode cX6_around 64 = .ok (.invokestatic 92, 3) ∧ 64 + 3 = 67 := ⟨by decide +kernel, rfl⟩
theorem iX6_around_67 : decode cX6_around 67 = .ok (.ifCond .eq 10, 3) ∧ 67 + 3 = 70 := ⟨by decide +kernel, rfl⟩
theorem iX6_around_70 : decode cX6_around 70 = .ok (.iconst 1, 1) ∧ 70 + 1 = 71 := ⟨by decide +kernel, rfl⟩
theorem iX6_around_71 : decode cX6_around 71 = .ok (.iload 4, 2) ∧ 71 + 2 = 73 := ⟨by decide +kernel, rfl⟩
theorem iX6_around_73 : decode cX6_around 73 = .ok (.ishl, 1) ∧ 73 + 1 = 74 := ⟨by decide +kernel, rfl⟩
theorem iX6_around_74 : decode cX6_around 74 = .ok (.goto 4, 3) ∧ 74 + 3 = 77 := ⟨by decide +kernel, rfl⟩
theorem iX6_around_77 : decode cX6_around 77 = .ok (.iconst 0, 1) ∧ 77 + 1 = 78 := ⟨by decide +kernel, rfl⟩
theorem iX6_around_78 : decode cX6_around 78 = .ok (.ior, 1) ∧ 78 + 1 = 79 := ⟨by decide +kernel, rfl⟩
theorem iX6_around_79 : decode cX6_around 79 = .ok (.istore_n 3, 1) ∧ 79 + 1 = 80 := ⟨by decide +kernel, rfl⟩
theorem iX6_around_80 : decode cX6_around 80 = .ok (.iinc 4 1, 3) ∧ 80 + 3 = 83 := ⟨by decide +kernel, rfl⟩
theorem iX6_around_83 : decode cX6_around 83 = .ok (.goto (-78), 3) ∧ 83 + 3 = 86 := ⟨by decide +kernel, rfl⟩
theorem iX6_around_86 : decode cX6_around 86 = .ok (.iload_n 3, 1) ∧ 86 + 1 = 87 := ⟨by decide +kernel, rfl⟩
theorem iX6_around_87 : decode cX6_around 87 = .ok (.ireturn, 1) ∧ 87 + 1 = 88 := ⟨by decide +kernel, rfl⟩
theorem iX6_standing_0 : decode cX6_standing 0 = .ok (.iconst 0, 1) ∧ 0 + 1 = 1 := ⟨by decide +kernel, rfl⟩
theorem iX6_standing_1 : decode cX6_standing 1 = .ok (.istore_n 1, 1) ∧ 1 + 1 = 2 := ⟨by decide +kernel, rfl⟩
theorem iX6_standing_2 : decode cX6_standing 2 = .ok (.iconst 0, 1) ∧ 2 + 1 = 3 := ⟨by decide +kernel, rfl⟩
theorem iX6_standing_3 : decode cX6_standing 3 = .ok (.istore_n 2, 1) ∧ 3 + 1 = 4 := ⟨by decide +kernel, rfl⟩
theorem iX6_standing_4 : decode cX6_standing 4 = .ok (.iload_n 2, 1) ∧ 4 + 1 = 5 := ⟨by decide +kernel, rfl⟩
theorem iX6_standing_5 : decode cX6_standing 5 = .ok (.aload_n 0, 1) ∧ 5 + 1 = 6 := ⟨by decide +kernel, rfl⟩
theorem iX6_standing_6 : decode cX6_standing 6 = .ok (.getfield 119, 3) ∧ 6 + 3 = 9 := ⟨by decide +kernel, rfl⟩
theorem iX6_standing_9 : decode cX6_standing 9 = .ok (.if_icmp .ge 20, 3) ∧ 9 + 3 = 12 := ⟨by decide +kernel, rfl⟩
theorem iX6_standing_12 : decode cX6_standing 12 = .ok (.iload_n 1, 1) ∧ 12 + 1 = 13 := ⟨by decide +kernel, rfl⟩
theorem iX6_standing_13 : decode cX6_standing 13 = .ok (.iconst 1, 1) ∧ 13 + 1 = 14 := ⟨by decide +kernel, rfl⟩
theorem iX6_standing_14 : decode cX6_standing 14 = .ok (.aload_n 0, 1) ∧ 14 + 1 = 15 := ⟨by decide +kernel, rfl⟩
theorem iX6_standing_15 : decode cX6_standing 15 = .ok (.getfield 13, 3) ∧ 15 + 3 = 18 := ⟨by decide +kernel, rfl⟩
theorem iX6_standing_18 : decode cX6_standing 18 = .ok (.iload_n 2, 1) ∧ 18 + 1 = 19 := ⟨by decide +kernel, rfl⟩
theorem iX6_standing_19 : decode cX6_standing 19 = .ok (.iaload, 1) ∧ 19 + 1 = 20 := ⟨by decide +kernel, rfl⟩
theorem iX6_standing_20 : decode cX6_standing 20 = .ok (.ishl, 1) ∧ 20 + 1 = 21 := ⟨by decide +kernel, rfl⟩
theorem iX6_standing_21 : decode cX6_standing 21 = .ok (.ior, 1) ∧ 21 + 1 = 22 := ⟨by decide +kernel, rfl⟩
theorem iX6_standing_22 : decode cX6_standing 22 = .ok (.istore_n 1, 1) ∧ 22 + 1 = 23 := ⟨by decide +kernel, rfl⟩
theorem iX6_standing_23 : decode cX6_standing 23 = .ok (.iinc 2 1, 3) ∧ 23 + 3 = 26 := ⟨by decide +kernel, rfl⟩
theorem iX6_standing_26 : decode cX6_standing 26 = .ok (.goto (-22), 3) ∧ 26 + 3 = 29 := ⟨by decide +kernel, rfl⟩
theorem iX6_standing_29 : decode cX6_standing 29 = .ok (.iload_n 1, 1) ∧ 29 + 1 = 30 := ⟨by decide +kernel, rfl⟩
theorem iX6_standing_30 : decode cX6_standing 30 = .ok (.ireturn, 1) ∧ 30 + 1 = 31 := ⟨by decide +kernel, rfl⟩
theorem iX6_watched_0 : decode cX6_watched 0 = .ok (.aload_n 0, 1) ∧ 0 + 1 = 1 := ⟨by decide +kernel, rfl⟩
theorem iX6_watched_1 : decode cX6_watched 1 = .ok (.aload_n 0, 1) ∧ 1 + 1 = 2 := ⟨by decide +kernel, rfl⟩
theorem iX6_watched_2 : decode cX6_watched 2 = .ok (.getfield 7, 3) ∧ 2 + 3 = 5 := ⟨by decide +kernel, rfl⟩
theorem iX6_watched_5 : decode cX6_watched 5 = .ok (.iload_n 1, 1) ∧ 5 + 1 = 6 := ⟨by decide +kernel, rfl⟩
theorem iX6_watched_6 : decode cX6_watched 6 = .ok (.iaload, 1) ∧ 6 + 1 = 7 := ⟨by decide +kernel, rfl⟩
theorem iX6_watched_7 : decode cX6_watched 7 = .ok (.aload_n 0, 1) ∧ 7 + 1 = 8 := ⟨by decide +kernel, rfl⟩
theorem iX6_watched_8 : decode cX6_watched 8 = .ok (.getfield 13, 3) ∧ 8 + 3 = 11 := ⟨by decide +kernel, rfl⟩
theorem iX6_watched_11 : decode cX6_watched 11 = .ok (.iload_n 1, 1) ∧ 11 + 1 = 12 := ⟨by decide +kernel, rfl⟩
theorem iX6_watched_12 : decode cX6_watched 12 = .ok (.iaload, 1) ∧ 12 + 1 = 13 := ⟨by decide +kernel, rfl⟩
theorem iX6_watched_13 : decode cX6_watched 13 = .ok (.invokevirtual 145, 3) ∧ 13 + 3 = 16 := ⟨by decide +kernel, rfl⟩
theorem iX6_watched_16 : decode cX6_watched 16 = .ok (.ireturn, 1) ∧ 16 + 1 = 17 := ⟨by decide +kernel, rfl⟩
theorem iX6_canGo_0 : decode cX6_canGo 0 = .ok (.aload_n 0, 1) ∧ 0 + 1 = 1 := ⟨by decide +kernel, rfl⟩
theorem iX6_canGo_1 : decode cX6_canGo 1 = .ok (.iload_n 1, 1) ∧ 1 + 1 = 2 := ⟨by decide +kernel, rfl⟩
theorem iX6_canGo_2 : decode cX6_canGo 2 = .ok (.invokevirtual 148, 3) ∧ 2 + 3 = 5 := ⟨by decide +kernel, rfl⟩
theorem iX6_canGo_5 : decode cX6_canGo 5 = .ok (.aload_n 0, 1) ∧ 5 + 1 = 6 := ⟨by decide +kernel, rfl⟩
theorem iX6_canGo_6 : decode cX6_canGo 6 = .ok (.invokevirtual 151, 3) ∧ 6 + 3 = 9 := ⟨by decide +kernel, rfl⟩
theorem iX6_canGo_9 : decode cX6_canGo 9 = .ok (.iconst (-1), 1) ∧ 9 + 1 = 10 := ⟨by decide +kernel, rfl⟩
theorem iX6_canGo_10 : decode cX6_canGo 10 = .ok (.ixor, 1) ∧ 10 + 1 = 11 := ⟨by decide +kernel, rfl⟩
theorem iX6_canGo_11 : decode cX6_canGo 11 = .ok (.iand, 1) ∧ 11 + 1 = 12 := ⟨by decide +kernel, rfl⟩
theorem iX6_canGo_12 : decode cX6_canGo 12 = .ok (.ireturn, 1) ∧ 12 + 1 = 13 := ⟨by decide +kernel, rfl⟩
theorem iX6_others_0 : decode cX6_others 0 = .ok (.aload_n 0, 1) ∧ 0 + 1 = 1 := ⟨by decide +kernel, rfl⟩
theorem iX6_others_1 : decode cX6_others 1 = .ok (.invokevirtual 151, 3) ∧ 1 + 3 = 4 := ⟨by decide +kernel, rfl⟩
theorem iX6_others_4 : decode cX6_others 4 = .ok (.iconst 1, 1) ∧ 4 + 1 = 5 := ⟨by decide +kernel, rfl⟩
theorem iX6_others_5 : decode cX6_others 5 = .ok (.aload_n 0, 1) ∧ 5 + 1 = 6 := ⟨by decide +kernel, rfl⟩
theorem iX6_others_6 : decode cX6_others 6 = .ok (.getfield 13, 3) ∧ 6 + 3 = 9 := ⟨by decide +kernel, rfl⟩
theorem iX6_others_9 : decode cX6_others 9 = .ok (.iload_n 1, 1) ∧ 9 + 1 = 10 := ⟨by decide +kernel, rfl⟩
theorem iX6_others_10 : decode cX6_others 10 = .ok (.iaload, 1) ∧ 10 + 1 = 11 := ⟨by decide +kernel, rfl⟩
theorem iX6_others_11 : decode cX6_others 11 = .ok (.ishl, 1) ∧ 11 + 1 = 12 := ⟨by decide +kernel, rfl⟩
theorem iX6_others_12 : decode cX6_others 12 = .ok (.iconst (-1), 1) ∧ 12 + 1 = 13 := ⟨by decide +kernel, rfl⟩
theorem iX6_others_13 : decode cX6_others 13 = .ok (.ixor, 1) ∧ 13 + 1 = 14 := ⟨by decide +kernel, rfl⟩
theorem iX6_others_14 : decode cX6_others 14 = .ok (.iand, 1) ∧ 14 + 1 = 15 := ⟨by decide +kernel, rfl⟩
theorem iX6_others_15 : decode cX6_others 15 = .ok (.ireturn, 1) ∧ 15 + 1 = 16 := ⟨by decide +kernel, rfl⟩
theorem iX6_leaperNow_0 : decode cX6_leaperNow 0 = .ok (.iload_n 2, 1) ∧ 0 + 1 = 1 := ⟨by decide +kernel, rfl⟩
theorem iX6_leaperNow_1 : decode cX6_leaperNow 1 = .ok (.tableswitch 77 0 5 #[39, 46, 53, 59, 65, 71], 39) ∧ 1 + 39 = 40 := ⟨by decide +kernel, rfl⟩
theorem iX6_leaperNow_40 : decode cX6_leaperNow 40 = .ok (.aload_n 0, 1) ∧ 40 + 1 = 41 := ⟨by decide +kernel, rfl⟩
theorem iX6_leaperNow_41 : decode cX6_leaperNow 41 = .ok (.getfield 7, 3) ∧ 41 + 3 = 44 := ⟨by decide +kernel, rfl⟩
theorem iX6_leaperNow_44 : decode cX6_leaperNow 44 = .ok (.iload_n 1, 1) ∧ 44 + 1 = 45 := ⟨by decide +kernel, rfl⟩
theorem iX6_leaperNow_45 : decode cX6_leaperNow 45 = .ok (.iaload, 1) ∧ 45 + 1 = 46 := ⟨by decide +kernel, rfl⟩
theorem iX6_leaperNow_46 : decode cX6_leaperNow 46 = .ok (.ireturn, 1) ∧ 46 + 1 = 47 := ⟨by decide +kernel, rfl⟩
theorem iX6_leaperNow_47 : decode cX6_leaperNow 47 = .ok (.aload_n 0, 1) ∧ 47 + 1 = 48 := ⟨by decide +kernel, rfl⟩
theorem iX6_leaperNow_48 : decode cX6_leaperNow 48 = .ok (.getfield 13, 3) ∧ 48 + 3 = 51 := ⟨by decide +kernel, rfl⟩
theorem iX6_leaperNow_51 : decode cX6_leaperNow 51 = .ok (.iload_n 1, 1) ∧ 51 + 1 = 52 := ⟨by decide +kernel, rfl⟩
theorem iX6_leaperNow_52 : decode cX6_leaperNow 52 = .ok (.iaload, 1) ∧ 52 + 1 = 53 := ⟨by decide +kernel, rfl⟩
theorem iX6_leaperNow_53 : decode cX6_leaperNow 53 = .ok (.ireturn, 1) ∧ 53 + 1 = 54 := ⟨by decide +kernel, rfl⟩
theorem iX6_leaperNow_54 : decode cX6_leaperNow 54 = .ok (.aload_n 0, 1) ∧ 54 + 1 = 55 := ⟨by decide +kernel, rfl⟩
theorem iX6_leaperNow_55 : decode cX6_leaperNow 55 = .ok (.iload_n 1, 1) ∧ 55 + 1 = 56 := ⟨by decide +kernel, rfl⟩
theorem iX6_leaperNow_56 : decode cX6_leaperNow 56 = .ok (.invokevirtual 148, 3) ∧ 56 + 3 = 59 := ⟨by decide +kernel, rfl⟩
theorem iX6_leaperNow_59 : decode cX6_leaperNow 59 = .ok (.ireturn, 1) ∧ 59 + 1 = 60 := ⟨by decide +kernel, rfl⟩
theorem iX6_leaperNow_60 : decode cX6_leaperNow 60 = .ok (.aload_n 0, 1) ∧ 60 + 1 = 61 := ⟨by decide +kernel, rfl⟩
theorem iX6_leaperNow_61 : decode cX6_leaperNow 61 = .ok (.iload_n 1, 1) ∧ 61 + 1 = 62 := ⟨by decide +kernel, rfl⟩
theorem iX6_leaperNow_62 : decode cX6_leaperNow 62 = .ok (.invokevirtual 154, 3) ∧ 62 + 3 = 65 := ⟨by decide +kernel, rfl⟩
theorem iX6_leaperNow_65 : decode cX6_leaperNow 65 = .ok (.ireturn, 1) ∧ 65 + 1 = 66 := ⟨by decide +kernel, rfl⟩
theorem iX6_leaperNow_66 : decode cX6_leaperNow 66 = .ok (.aload_n 0, 1) ∧ 66 + 1 = 67 := ⟨by decide +kernel, rfl⟩
theorem iX6_leaperNow_67 : decode cX6_leaperNow 67 = .ok (.iload_n 1, 1) ∧ 67 + 1 = 68 := ⟨by decide +kernel, rfl⟩
theorem iX6_leaperNow_68 : decode cX6_leaperNow 68 = .ok (.invokevirtual 157, 3) ∧ 68 + 3 = 71 := ⟨by decide +kernel, rfl⟩
theorem iX6_leaperNow_71 : decode cX6_leaperNow 71 = .ok (.ireturn, 1) ∧ 71 + 1 = 72 := ⟨by decide +kernel, rfl⟩
theorem iX6_leaperNow_72 : decode cX6_leaperNow 72 = .ok (.aload_n 0, 1) ∧ 72 + 1 = 73 := ⟨by decide +kernel, rfl⟩
theorem iX6_leaperNow_73 : decode cX6_leaperNow 73 = .ok (.iload_n 1, 1) ∧ 73 + 1 = 74 := ⟨by decide +kernel, rfl⟩
theorem iX6_leaperNow_74 : decode cX6_leaperNow 74 = .ok (.invokevirtual 160, 3) ∧ 74 + 3 = 77 := ⟨by decide +kernel, rfl⟩
theorem iX6_leaperNow_77 : decode cX6_leaperNow 77 = .ok (.ireturn, 1) ∧ 77 + 1 = 78 := ⟨by decide +kernel, rfl⟩
theorem iX6_leaperNow_78 : decode cX6_leaperNow 78 = .ok (.aload_n 0, 1) ∧ 78 + 1 = 79 := ⟨by decide +kernel, rfl⟩
theorem iX6_leaperNow_79 : decode cX6_leaperNow 79 = .ok (.iload_n 1, 1) ∧ 79 + 1 = 80 := ⟨by decide +kernel, rfl⟩
theorem iX6_leaperNow_80 : decode cX6_leaperNow 80 = .ok (.iload_n 2, 1) ∧ 80 + 1 = 81 := ⟨by decide +kernel, rfl⟩
theorem iX6_leaperNow_81 : decode cX6_leaperNow 81 = .ok (.bipush 6, 2) ∧ 81 + 2 = 83 := ⟨by decide +kernel, rfl⟩
theorem iX6_leaperNow_83 : decode cX6_leaperNow 83 = .ok (.isub, 1) ∧ 83 + 1 = 84 := ⟨by decide +kernel, rfl⟩
theorem iX6_leaperNow_84 : decode cX6_leaperNow 84 = .ok (.invokevirtual 163, 3) ∧ 84 + 3 = 87 := ⟨by decide +kernel, rfl⟩
theorem iX6_leaperNow_87 : decode cX6_leaperNow 87 = .ok (.ireturn, 1) ∧ 87 + 1 = 88 := ⟨by decide +kernel, rfl⟩
theorem iX6_leaper_0 : decode cX6_leaper 0 = .ok (.aload_n 0, 1) ∧ 0 + 1 = 1 := ⟨by decide +kernel, rfl⟩
theorem iX6_leaper_1 : decode cX6_leaper 1 = .ok (.iload_n 1, 1) ∧ 1 + 1 = 2 := ⟨by decide +kernel, rfl⟩
theorem iX6_leaper_2 : decode cX6_leaper 2 = .ok (.invokevirtual 166, 3) ∧ 2 + 3 = 5 := ⟨by decide +kernel, rfl⟩
theorem iX6_leaper_5 : decode cX6_leaper 5 = .ok (.ifCond .ne 8, 3) ∧ 5 + 3 = 8 := ⟨by decide +kernel, rfl⟩
theorem iX6_leaper_8 : decode cX6_leaper 8 = .ok (.bipush (-101), 2) ∧ 8 + 2 = 10 := ⟨by decide +kernel, rfl⟩
theorem iX6_leaper_10 : decode cX6_leaper 10 = .ok (.goto 24, 3) ∧ 10 + 3 = 13 := ⟨by decide +kernel, rfl⟩
theorem iX6_leaper_13 : decode cX6_leaper 13 = .ok (.iload_n 2, 1) ∧ 13 + 1 = 14 := ⟨by decide +kernel, rfl⟩
theorem iX6_leaper_14 : decode cX6_leaper 14 = .ok (.iconst 0, 1) ∧ 14 + 1 = 15 := ⟨by decide +kernel, rfl⟩
theorem iX6_leaper_15 : decode cX6_leaper 15 = .ok (.bipush 7, 2) ∧ 15 + 2 = 17 := ⟨by decide +kernel, rfl⟩
theorem iX6_leaper_17 : decode cX6_leaper 17 = .ok (.invokestatic 68, 3) ∧ 17 + 3 = 20 := ⟨by decide +kernel, rfl⟩
theorem iX6_leaper_20 : decode cX6_leaper 20 = .ok (.ifCond .eq 12, 3) ∧ 20 + 3 = 23 := ⟨by decide +kernel, rfl⟩
theorem iX6_leaper_23 : decode cX6_leaper 23 = .ok (.aload_n 0, 1) ∧ 23 + 1 = 24 := ⟨by decide +kernel, rfl⟩
theorem iX6_leaper_24 : decode cX6_leaper 24 = .ok (.iload_n 1, 1) ∧ 24 + 1 = 25 := ⟨by decide +kernel, rfl⟩
theorem iX6_leaper_25 : decode cX6_leaper 25 = .ok (.iload_n 2, 1) ∧ 25 + 1 = 26 := ⟨by decide +kernel, rfl⟩
theorem iX6_leaper_26 : decode cX6_leaper 26 = .ok (.invokevirtual 170, 3) ∧ 26 + 3 = 29 := ⟨by decide +kernel, rfl⟩
theorem iX6_leaper_29 : decode cX6_leaper 29 = .ok (.goto 5, 3) ∧ 29 + 3 = 32 := ⟨by decide +kernel, rfl⟩
theorem iX6_leaper_32 : decode cX6_leaper 32 = .ok (.bipush (-102), 2) ∧ 32 + 2 = 34 := ⟨by decide +kernel, rfl⟩
theorem iX6_leaper_34 : decode cX6_leaper 34 = .ok (.ireturn, 1) ∧ 34 + 1 = 35 := ⟨by decide +kernel, rfl⟩
theorem iX6_as_0 : decode cX6_as 0 = .ok (.aload_n 0, 1) ∧ 0 + 1 = 1 := ⟨by decide +kernel, rfl⟩
theorem iX6_as_1 : decode cX6_as 1 = .ok (.iload_n 1, 1) ∧ 1 + 1 = 2 := ⟨by decide +kernel, rfl⟩
theorem iX6_as_2 : decode cX6_as 2 = .ok (.invokevirtual 166, 3) ∧ 2 + 3 = 5 := ⟨by decide +kernel, rfl⟩
theorem iX6_as_5 : decode cX6_as 5 = .ok (.ifCond .ne 6, 3) ∧ 5 + 3 = 8 := ⟨by decide +kernel, rfl⟩
theorem iX6_as_8 : decode cX6_as 8 = .ok (.bipush (-101), 2) ∧ 8 + 2 = 10 := ⟨by decide +kernel, rfl⟩
theorem iX6_as_10 : decode cX6_as 10 = .ok (.ireturn, 1) ∧ 10 + 1 = 11 := ⟨by decide +kernel, rfl⟩
theorem iX6_as_11 : decode cX6_as 11 = .ok (.iload_n 2, 1) ∧ 11 + 1 = 12 := ⟨by decide +kernel, rfl⟩
theorem iX6_as_12 : decode cX6_as 12 = .ok (.iconst 0, 1) ∧ 12 + 1 = 13 := ⟨by decide +kernel, rfl⟩
theorem iX6_as_13 : decode cX6_as 13 = .ok (.iconst 4, 1) ∧ 13 + 1 = 14 := ⟨by decide +kernel, rfl⟩
theorem iX6_as_14 : decode cX6_as 14 = .ok (.invokestatic 68, 3) ∧ 14 + 3 = 17 := ⟨by decide +kernel, rfl⟩
theorem iX6_as_17 : decode cX6_as 17 = .ok (.ifCond .ne 6, 3) ∧ 17 + 3 = 20 := ⟨by decide +kernel, rfl⟩
theorem iX6_as_20 : decode cX6_as 20 = .ok (.bipush (-102), 2) ∧ 20 + 2 = 22 := ⟨by decide +kernel, rfl⟩
theorem iX6_as_22 : decode cX6_as 22 = .ok (.ireturn, 1) ∧ 22 + 1 = 23 := ⟨by decide +kernel, rfl⟩
theorem iX6_as_23 : decode cX6_as 23 = .ok (.aload_n 0, 1) ∧ 23 + 1 = 24 := ⟨by decide +kernel, rfl⟩
theorem iX6_as_24 : decode cX6_as 24 = .ok (.getfield 7, 3) ∧ 24 + 3 = 27 := ⟨by decide +kernel, rfl⟩
theorem iX6_as_27 : decode cX6_as 27 = .ok (.iload_n 1, 1) ∧ 27 + 1 = 28 := ⟨by decide +kernel, rfl⟩
theorem iX6_as_28 : decode cX6_as 28 = .ok (.iaload, 1) ∧ 28 + 1 = 29 := ⟨by decide +kernel, rfl⟩
theorem iX6_as_29 : decode cX6_as 29 = .ok (.istore_n 3, 1) ∧ 29 + 1 = 30 := ⟨by decide +kernel, rfl⟩
theorem iX6_as_30 : decode cX6_as 30 = .ok (.iload_n 2, 1) ∧ 30 + 1 = 31 := ⟨by decide +kernel, rfl⟩
theorem iX6_as_31 : decode cX6_as 31 = .ok (.ifCond .eq 18, 3) ∧ 31 + 3 = 34 := ⟨by decide +kernel, rfl⟩
theorem iX6_as_34 : decode cX6_as 34 = .ok (.iload_n 3, 1) ∧ 34 + 1 = 35 := ⟨by decide +kernel, rfl⟩
theorem iX6_as_35 : decode cX6_as 35 = .ok (.iload_n 2, 1) ∧ 35 + 1 = 36 := ⟨by decide +kernel, rfl⟩
theorem iX6_as_36 : decode cX6_as 36 = .ok (.if_icmp .eq 13, 3) ∧ 36 + 3 = 39 := ⟨by decide +kernel, rfl⟩
theorem iX6_as_39 : decode cX6_as 39 = .ok (.iload_n 2, 1) ∧ 39 + 1 = 40 := ⟨by decide +kernel, rfl⟩
theorem iX6_as_40 : decode cX6_as 40 = .ok (.iconst 1, 1) ∧ 40 + 1 = 41 := ⟨by decide +kernel, rfl⟩
theorem iX6_as_41 : decode cX6_as 41 = .ok (.if_icmp .ne 12, 3) ∧ 41 + 3 = 44 := ⟨by decide +kernel, rfl⟩
theorem iX6_as_44 : decode cX6_as 44 = .ok (.iload_n 3, 1) ∧ 44 + 1 = 45 := ⟨by decide +kernel, rfl⟩
theorem iX6_as_45 : decode cX6_as 45 = .ok (.iconst 4, 1) ∧ 45 + 1 = 46 := ⟨by decide +kernel, rfl⟩
theorem iX6_as_46 : decode cX6_as 46 = .ok (.if_icmp .ne 7, 3) ∧ 46 + 3 = 49 := ⟨by decide +kernel, rfl⟩
theorem iX6_as_49 : decode cX6_as 49 = .ok (.iload_n 1, 1) ∧ 49 + 1 = 50 := ⟨by decide +kernel, rfl⟩
theorem iX6_as_50 : decode cX6_as 50 = .ok (.goto 4, 3) ∧ 50 + 3 = 53 := ⟨by decide +kernel, rfl⟩
theorem iX6_as_53 : decode cX6_as 53 = .ok (.iconst (-1), 1) ∧ 53 + 1 = 54 := ⟨by decide +kernel, rfl⟩
theorem iX6_as_54 : decode cX6_as 54 = .ok (.ireturn, 1) ∧ 54 + 1 = 55 := ⟨by decide +kernel, rfl⟩
theorem iX6_whoAt_0 : decode cX6_whoAt 0 = .ok (.iconst (-1), 1) ∧ 0 + 1 = 1 := ⟨by decide +kernel, rfl⟩
theorem iX6_whoAt_1 : decode cX6_whoAt 1 = .ok (.istore_n 2, 1) ∧ 1 + 1 = 2 := ⟨by decide +kernel, rfl⟩
theorem iX6_whoAt_2 : decode cX6_whoAt 2 = .ok (.iconst 0, 1) ∧ 2 + 1 = 3 := ⟨by decide +kernel, rfl⟩
theorem iX6_whoAt_3 : decode cX6_whoAt 3 = .ok (.istore_n 3, 1) ∧ 3 + 1 = 4 := ⟨by decide +kernel, rfl⟩
theorem iX6_whoAt_4 : decode cX6_whoAt 4 = .ok (.iload_n 3, 1) ∧ 4 + 1 = 5 := ⟨by decide +kernel, rfl⟩
theorem iX6_whoAt_5 : decode cX6_whoAt 5 = .ok (.aload_n 0, 1) ∧ 5 + 1 = 6 := ⟨by decide +kernel, rfl⟩
theorem iX6_whoAt_6 : decode cX6_whoAt 6 = .ok (.getfield 119, 3) ∧ 6 + 3 = 9 := ⟨by decide +kernel, rfl⟩
theorem iX6_whoAt_9 : decode cX6_whoAt 9 = .ok (.if_icmp .ge 25, 3) ∧ 9 + 3 = 12 := ⟨by decide +kernel, rfl⟩
theorem iX6_whoAt_12 : decode cX6_whoAt 12 = .ok (.aload_n 0, 1) ∧ 12 + 1 = 13 := ⟨by decide +kernel, rfl⟩
theorem iX6_whoAt_13 : decode cX6_whoAt 13 = .ok (.getfield 13, 3) ∧ 13 + 3 = 16 := ⟨by decide +kernel, rfl⟩
theorem iX6_whoAt_16 : decode cX6_whoAt 16 = .ok (.iload_n 3, 1) ∧ 16 + 1 = 17 := ⟨by decide +kernel, rfl⟩
theorem iX6_whoAt_17 : decode cX6_whoAt 17 = .ok (.iaload, 1) ∧ 17 + 1 = 18 := ⟨by decide +kernel, rfl⟩
theorem iX6_whoAt_18 : decode cX6_whoAt 18 = .ok (.iload_n 1, 1) ∧ 18 + 1 = 19 := ⟨by decide +kernel, rfl⟩
theorem iX6_whoAt_19 : decode cX6_whoAt 19 = .ok (.if_icmp .ne 7, 3) ∧ 19 + 3 = 22 := ⟨by decide +kernel, rfl⟩
theorem iX6_whoAt_22 : decode cX6_whoAt 22 = .ok (.iload_n 3, 1) ∧ 22 + 1 = 23 := ⟨by decide +kernel, rfl⟩
theorem iX6_whoAt_23 : decode cX6_whoAt 23 = .ok (.goto 4, 3) ∧ 23 + 3 = 26 := ⟨by decide +kernel, rfl⟩
theorem iX6_whoAt_26 : decode cX6_whoAt 26 = .ok (.iload_n 2, 1) ∧ 26 + 1 = 27 := ⟨by decide +kernel, rfl⟩
theorem iX6_whoAt_27 : decode cX6_whoAt 27 = .ok (.istore_n 2, 1) ∧ 27 + 1 = 28 := ⟨by decide +kernel, rfl⟩
theorem iX6_whoAt_28 : decode cX6_whoAt 28 = .ok (.iinc 3 1, 3) ∧ 28 + 3 = 31 := ⟨by decide +kernel, rfl⟩
theorem iX6_whoAt_31 : decode cX6_whoAt 31 = .ok (.goto (-27), 3) ∧ 31 + 3 = 34 := ⟨by decide +kernel, rfl⟩
theorem iX6_whoAt_34 : decode cX6_whoAt 34 = .ok (.iload_n 2, 1) ∧ 34 + 1 = 35 := ⟨by decide +kernel, rfl⟩
theorem iX6_whoAt_35 : decode cX6_whoAt 35 = .ok (.ireturn, 1) ∧ 35 + 1 = 36 := ⟨by decide +kernel, rfl⟩
theorem iX6_watchersOf_0 : decode cX6_watchersOf 0 = .ok (.iconst 0, 1) ∧ 0 + 1 = 1 := ⟨by decide +kernel, rfl⟩
theorem iX6_watchersOf_1 : decode cX6_watchersOf 1 = .ok (.istore_n 2, 1) ∧ 1 + 1 = 2 := ⟨by decide +kernel, rfl⟩
theorem iX6_watchersOf_2 : decode cX6_watchersOf 2 = .ok (.iconst 0, 1) ∧ 2 + 1 = 3 := ⟨by decide +kernel, rfl⟩
theorem iX6_watchersOf_3 : decode cX6_watchersOf 3 = .ok (.istore_n 3, 1) ∧ 3 + 1 = 4 := ⟨by decide +kernel, rfl⟩
theorem iX6_watchersOf_4 : decode cX6_watchersOf 4 = .ok (.iload_n 3, 1) ∧ 4 + 1 = 5 := ⟨by decide +kernel, rfl⟩
theorem iX6_watchersOf_5 : decode cX6_watchersOf 5 = .ok (.aload_n 0, 1) ∧ 5 + 1 = 6 := ⟨by decide +kernel, rfl⟩
theorem iX6_watchersOf_6 : decode cX6_watchersOf 6 = .ok (.getfield 119, 3) ∧ 6 + 3 = 9 := ⟨by decide +kernel, rfl⟩
theorem iX6_watchersOf_9 : decode cX6_watchersOf 9 = .ok (.if_icmp .ge 31, 3) ∧ 9 + 3 = 12 := ⟨by decide +kernel, rfl⟩
theorem iX6_watchersOf_12 : decode cX6_watchersOf 12 = .ok (.iload_n 2, 1) ∧ 12 + 1 = 13 := ⟨by decide +kernel, rfl⟩
theorem iX6_watchersOf_13 : decode cX6_watchersOf 13 = .ok (.aload_n 0, 1) ∧ 13 + 1 = 14 := ⟨by decide +kernel, rfl⟩
theorem iX6_watchersOf_14 : decode cX6_watchersOf 14 = .ok (.iload_n 3, 1) ∧ 14 + 1 = 15 := ⟨by decide +kernel, rfl⟩
theorem iX6_watchersOf_15 : decode cX6_watchersOf 15 = .ok (.invokevirtual 148, 3) ∧ 15 + 3 = 18 := ⟨by decide +kernel, rfl⟩
theorem iX6_watchersOf_18 : decode cX6_watchersOf 18 = .ok (.iload_n 1, 1) ∧ 18 + 1 = 19 := ⟨by decide +kernel, rfl⟩
theorem iX6_watchersOf_19 : decode cX6_watchersOf 19 = .ok (.invokestatic 92, 3) ∧ 19 + 3 = 22 := ⟨by decide +kernel, rfl⟩
theorem iX6_watchersOf_22 : decode cX6_watchersOf 22 = .ok (.ifCond .eq 9, 3) ∧ 22 + 3 = 25 := ⟨by decide +kernel, rfl⟩
theorem iX6_watchersOf_25 : decode cX6_watchersOf 25 = .ok (.iconst 1, 1) ∧ 25 + 1 = 26 := ⟨by decide +kernel, rfl⟩
theorem iX6_watchersOf_26 : decode cX6_watchersOf 26 = .ok (.iload_n 3, 1) ∧ 26 + 1 = 27 := ⟨by decide +kernel, rfl⟩
theorem iX6_watchersOf_27 : decode cX6_watchersOf 27 = .ok (.ishl, 1) ∧ 27 + 1 = 28 := ⟨by decide +kernel, rfl⟩
theorem iX6_watchersOf_28 : decode cX6_watchersOf 28 = .ok (.goto 4, 3) ∧ 28 + 3 = 31 := ⟨by decide +kernel, rfl⟩
theorem iX6_watchersOf_31 : decode cX6_watchersOf 31 = .ok (.iconst 0, 1) ∧ 31 + 1 = 32 := ⟨by decide +kernel, rfl⟩
theorem iX6_watchersOf_32 : decode cX6_watchersOf 32 = .ok (.ior, 1) ∧ 32 + 1 = 33 := ⟨by decide +kernel, rfl⟩
theorem iX6_watchersOf_33 : decode cX6_watchersOf 33 = .ok (.istore_n 2, 1) ∧ 33 + 1 = 34 := ⟨by decide +kernel, rfl⟩
theorem iX6_watchersOf_34 : decode cX6_watchersOf 34 = .ok (.iinc 3 1, 3) ∧ 34 + 3 = 37 := ⟨by decide +kernel, rfl⟩
theorem iX6_watchersOf_37 : decode cX6_watchersOf 37 = .ok (.goto (-33), 3) ∧ 37 + 3 = 40 := ⟨by decide +kernel, rfl⟩
theorem iX6_watchersOf_40 : decode cX6_watchersOf 40 = .ok (.iload_n 2, 1) ∧ 40 + 1 = 41 := ⟨by decide +kernel, rfl⟩
theorem iX6_watchersOf_41 : decode cX6_watchersOf 41 = .ok (.ireturn, 1) ∧ 41 + 1 = 42 := ⟨by decide +kernel, rfl⟩
theorem iX6_cellNow_0 : decode cX6_cellNow 0 = .ok (.iload_n 2, 1) ∧ 0 + 1 = 1 := ⟨by decide +kernel, rfl⟩
theorem iX6_cellNow_1 : decode cX6_cellNow 1 = .ok (.ifCond .ne 14, 3) ∧ 1 + 3 = 4 := ⟨by decide +kernel, rfl⟩
theorem iX6_cellNow_4 : decode cX6_cellNow 4 = .ok (.aload_n 0, 1) ∧ 4 + 1 = 5 := ⟨by decide +kernel, rfl⟩
theorem iX6_cellNow_5 : decode cX6_cellNow 5 = .ok (.getfield 116, 3) ∧ 5 + 3 = 8 := ⟨by decide +kernel, rfl⟩
theorem iX6_cellNow_8 : decode cX6_cellNow 8 = .ok (.iload_n 1, 1) ∧ 8 + 1 = 9 := ⟨by decide +kernel, rfl⟩
theorem iX6_cellNow_9 : decode cX6_cellNow 9 = .ok (.ishr, 1) ∧ 9 + 1 = 10 := ⟨by decide +kernel, rfl⟩
theorem iX6_cellNow_10 : decode cX6_cellNow 10 = .ok (.iconst 1, 1) ∧ 10 + 1 = 11 := ⟨by decide +kernel, rfl⟩
theorem iX6_cellNow_11 : decode cX6_cellNow 11 = .ok (.iand, 1) ∧ 11 + 1 = 12 := ⟨by decide +kernel, rfl⟩
theorem iX6_cellNow_12 : decode cX6_cellNow 12 = .ok (.goto 21, 3) ∧ 12 + 3 = 15 := ⟨by decide +kernel, rfl⟩
theorem iX6_cellNow_15 : decode cX6_cellNow 15 = .ok (.iload_n 2, 1) ∧ 15 + 1 = 16 := ⟨by decide +kernel, rfl⟩
theorem iX6_cellNow_16 : decode cX6_cellNow 16 = .ok (.iconst 1, 1) ∧ 16 + 1 = 17 := ⟨by decide +kernel, rfl⟩
theorem iX6_cellNow_17 : decode cX6_cellNow 17 = .ok (.if_icmp .ne 11, 3) ∧ 17 + 3 = 20 := ⟨by decide +kernel, rfl⟩
theorem iX6_cellNow_20 : decode cX6_cellNow 20 = .ok (.aload_n 0, 1) ∧ 20 + 1 = 21 := ⟨by decide +kernel, rfl⟩
theorem iX6_cellNow_21 : decode cX6_cellNow 21 = .ok (.iload_n 1, 1) ∧ 21 + 1 = 22 := ⟨by decide +kernel, rfl⟩
theorem iX6_cellNow_22 : decode cX6_cellNow 22 = .ok (.invokevirtual 173, 3) ∧ 22 + 3 = 25 := ⟨by decide +kernel, rfl⟩
theorem iX6_cellNow_25 : decode cX6_cellNow 25 = .ok (.goto 8, 3) ∧ 25 + 3 = 28 := ⟨by decide +kernel, rfl⟩
theorem iX6_cellNow_28 : decode cX6_cellNow 28 = .ok (.aload_n 0, 1) ∧ 28 + 1 = 29 := ⟨by decide +kernel, rfl⟩
theorem iX6_cellNow_29 : decode cX6_cellNow 29 = .ok (.iload_n 1, 1) ∧ 29 + 1 = 30 := ⟨by decide +kernel, rfl⟩
theorem iX6_cellNow_30 : decode cX6_cellNow 30 = .ok (.invokevirtual 176, 3) ∧ 30 + 3 = 33 := ⟨by decide +kernel, rfl⟩
theorem iX6_cellNow_33 : decode cX6_cellNow 33 = .ok (.ireturn, 1) ∧ 33 + 1 = 34 := ⟨by decide +kernel, rfl⟩
theorem iX6_cell_0 : decode cX6_cell 0 = .ok (.aload_n 0, 1) ∧ 0 + 1 = 1 := ⟨by decide +kernel, rfl⟩
theorem iX6_cell_1 : decode cX6_cell 1 = .ok (.iload_n 1, 1) ∧ 1 + 1 = 2 := ⟨by decide +kernel, rfl⟩
theorem iX6_cell_2 : decode cX6_cell 2 = .ok (.invokevirtual 179, 3) ∧ 2 + 3 = 5 := ⟨by decide +kernel, rfl⟩
theorem iX6_cell_5 : decode cX6_cell 5 = .ok (.ifCond .ne 8, 3) ∧ 5 + 3 = 8 := ⟨by decide +kernel, rfl⟩
theorem iX6_cell_8 : decode cX6_cell 8 = .ok (.bipush (-101), 2) ∧ 8 + 2 = 10 := ⟨by decide +kernel, rfl⟩
theorem iX6_cell_10 : decode cX6_cell 10 = .ok (.goto 23, 3) ∧ 10 + 3 = 13 := ⟨by decide +kernel, rfl⟩
theorem iX6_cell_13 : decode cX6_cell 13 = .ok (.iload_n 2, 1) ∧ 13 + 1 = 14 := ⟨by decide +kernel, rfl⟩
theorem iX6_cell_14 : decode cX6_cell 14 = .ok (.iconst 0, 1) ∧ 14 + 1 = 15 := ⟨by decide +kernel, rfl⟩
theorem iX6_cell_15 : decode cX6_cell 15 = .ok (.iconst 2, 1) ∧ 15 + 1 = 16 := ⟨by decide +kernel, rfl⟩
theorem iX6_cell_16 : decode cX6_cell 16 = .ok (.invokestatic 68, 3) ∧ 16 + 3 = 19 := ⟨by decide +kernel, rfl⟩
theorem iX6_cell_19 : decode cX6_cell 19 = .ok (.ifCond .eq 12, 3) ∧ 19 + 3 = 22 := ⟨by decide +kernel, rfl⟩
theorem iX6_cell_22 : decode cX6_cell 22 = .ok (.aload_n 0, 1) ∧ 22 + 1 = 23 := ⟨by decide +kernel, rfl⟩
theorem iX6_cell_23 : decode cX6_cell 23 = .ok (.iload_n 1, 1) ∧ 23 + 1 = 24 := ⟨by decide +kernel, rfl⟩
theorem iX6_cell_24 : decode cX6_cell 24 = .ok (.iload_n 2, 1) ∧ 24 + 1 = 25 := ⟨by decide +kernel, rfl⟩
theorem iX6_cell_25 : decode cX6_cell 25 = .ok (.invokevirtual 182, 3) ∧ 25 + 3 = 28 := ⟨by decide +kernel, rfl⟩
theorem iX6_cell_28 : decode cX6_cell 28 = .ok (.goto 5, 3) ∧ 28 + 3 = 31 := ⟨by decide +kernel, rfl⟩
theorem iX6_cell_31 : decode cX6_cell 31 = .ok (.bipush (-102), 2) ∧ 31 + 2 = 33 := ⟨by decide +kernel, rfl⟩
theorem iX6_cell_33 : decode cX6_cell 33 = .ok (.ireturn, 1) ∧ 33 + 1 = 34 := ⟨by decide +kernel, rfl⟩
theorem iX6_leap_0 : decode cX6_leap 0 = .ok (.aload_n 0, 1) ∧ 0 + 1 = 1 := ⟨by decide +kernel, rfl⟩
theorem iX6_leap_1 : decode cX6_leap 1 = .ok (.iload_n 1, 1) ∧ 1 + 1 = 2 := ⟨by decide +kernel, rfl⟩
theorem iX6_leap_2 : decode cX6_leap 2 = .ok (.invokevirtual 166, 3) ∧ 2 + 3 = 5 := ⟨by decide +kernel, rfl⟩
theorem iX6_leap_5 : decode cX6_leap 5 = .ok (.ifCond .eq 11, 3) ∧ 5 + 3 = 8 := ⟨by decide +kernel, rfl⟩
theorem iX6_leap_8 : decode cX6_leap 8 = .ok (.aload_n 0, 1) ∧ 8 + 1 = 9 := ⟨by decide +kernel, rfl⟩
theorem iX6_leap_9 : decode cX6_leap 9 = .ok (.iload_n 2, 1) ∧ 9 + 1 = 10 := ⟨by decide +kernel, rfl⟩
theorem iX6_leap_10 : decode cX6_leap 10 = .ok (.invokevirtual 179, 3) ∧ 10 + 3 = 13 := ⟨by decide +kernel, rfl⟩
theorem iX6_leap_13 : decode cX6_leap 13 = .ok (.ifCond .ne 6, 3) ∧ 13 + 3 = 16 := ⟨by decide +kernel, rfl⟩
theorem iX6_leap_16 : decode cX6_leap 16 = .ok (.bipush (-101), 2) ∧ 16 + 2 = 18 := ⟨by decide +kernel, rfl⟩
theorem iX6_leap_18 : decode cX6_leap 18 = .ok (.ireturn, 1) ∧ 18 + 1 = 19 := ⟨by decide +kernel, rfl⟩
theorem iX6_leap_19 : decode cX6_leap 19 = .ok (.aload_n 0, 1) ∧ 19 + 1 = 20 := ⟨by decide +kernel, rfl⟩
theorem iX6_leap_20 : decode cX6_leap 20 = .ok (.iload_n 1, 1) ∧ 20 + 1 = 21 := ⟨by decide +kernel, rfl⟩
theorem iX6_leap_21 : decode cX6_leap 21 = .ok (.invokevirtual 154, 3) ∧ 21 + 3 = 24 := ⟨by decide +kernel, rfl⟩
theorem iX6_leap_24 : decode cX6_leap 24 = .ok (.iload_n 2, 1) ∧ 24 + 1 = 25 := ⟨by decide +kernel, rfl⟩
theorem iX6_leap_25 : decode cX6_leap 25 = .ok (.invokestatic 92, 3) ∧ 25 + 3 = 28 := ⟨by decide +kernel, rfl⟩
theorem iX6_leap_28 : decode cX6_leap 28 = .ok (.ifCond .ne 6, 3) ∧ 28 + 3 = 31 := ⟨by decide +kernel, rfl⟩
theorem iX6_leap_31 : decode cX6_leap 31 = .ok (.bipush (-103), 2) ∧ 31 + 2 = 33 := ⟨by decide +kernel, rfl⟩
theorem iX6_leap_33 : decode cX6_leap 33 = .ok (.ireturn, 1) ∧ 33 + 1 = 34 := ⟨by decide +kernel, rfl⟩
theorem iX6_leap_34 : decode cX6_leap 34 = .ok (.aload_n 0, 1) ∧ 34 + 1 = 35 := ⟨by decide +kernel, rfl⟩
theorem iX6_leap_35 : decode cX6_leap 35 = .ok (.getfield 122, 3) ∧ 35 + 3 = 38 := ⟨by decide +kernel, rfl⟩
theorem iX6_leap_38 : decode cX6_leap 38 = .ok (.sipush 999, 3) ∧ 38 + 3 = 41 := ⟨by decide +kernel, rfl⟩
theorem iX6_leap_41 : decode cX6_leap 41 = .ok (.if_icmp .ne 6, 3) ∧ 41 + 3 = 44 := ⟨by decide +kernel, rfl⟩
theorem iX6_leap_44 : decode cX6_leap 44 = .ok (.bipush (-104), 2) ∧ 44 + 2 = 46 := ⟨by decide +kernel, rfl⟩
theorem iX6_leap_46 : decode cX6_leap 46 = .ok (.ireturn, 1) ∧ 46 + 1 = 47 := ⟨by decide +kernel, rfl⟩
theorem iX6_leap_47 : decode cX6_leap 47 = .ok (.aload_n 0, 1) ∧ 47 + 1 = 48 := ⟨by decide +kernel, rfl⟩
theorem iX6_leap_48 : decode cX6_leap 48 = .ok (.getfield 13, 3) ∧ 48 + 3 = 51 := ⟨by decide +kernel, rfl⟩
theorem iX6_leap_51 : decode cX6_leap 51 = .ok (.iload_n 1, 1) ∧ 51 + 1 = 52 := ⟨by decide +kernel, rfl⟩
theorem iX6_leap_52 : decode cX6_leap 52 = .ok (.iload_n 2, 1) ∧ 52 + 1 = 53 := ⟨by decide +kernel, rfl⟩
theorem iX6_leap_53 : decode cX6_leap 53 = .ok (.iastore, 1) ∧ 53 + 1 = 54 := ⟨by decide +kernel, rfl⟩
theorem iX6_leap_54 : decode cX6_leap 54 = .ok (.aload_n 0, 1) ∧ 54 + 1 = 55 := ⟨by decide +kernel, rfl⟩
theorem iX6_leap_55 : decode cX6_leap 55 = .ok (.dup, 1) ∧ 55 + 1 = 56 := ⟨by decide +kernel, rfl⟩
theorem iX6_leap_56 : decode cX6_leap 56 = .ok (.getfield 122, 3) ∧ 56 + 3 = 59 := ⟨by decide +kernel, rfl⟩
theorem iX6_leap_59 : decode cX6_leap 59 = .ok (.iconst 1, 1) ∧ 59 + 1 = 60 := ⟨by decide +kernel, rfl⟩
theorem iX6_leap_60 : decode cX6_leap 60 = .ok (.iadd, 1) ∧ 60 + 1 = 61 := ⟨by decide +kernel, rfl⟩
theorem iX6_leap_61 : decode cX6_leap 61 = .ok (.putfield 122, 3) ∧ 61 + 3 = 64 := ⟨by decide +kernel, rfl⟩
theorem iX6_leap_64 : decode cX6_leap 64 = .ok (.aload_n 0, 1) ∧ 64 + 1 = 65 := ⟨by decide +kernel, rfl⟩
theorem iX6_leap_65 : decode cX6_leap 65 = .ok (.getfield 122, 3) ∧ 65 + 3 = 68 := ⟨by decide +kernel, rfl⟩
theorem iX6_leap_68 : decode cX6_leap 68 = .ok (.ireturn, 1) ∧ 68 + 1 = 69 := ⟨by decide +kernel, rfl⟩
theorem iX6_dig_0 : decode cX6_dig 0 = .ok (.aload_n 0, 1) ∧ 0 + 1 = 1 := ⟨by decide +kernel, rfl⟩
theorem iX6_dig_1 : decode cX6_dig 1 = .ok (.iload_n 1, 1) ∧ 1 + 1 = 2 := ⟨by decide +kernel, rfl⟩
theorem iX6_dig_2 : decode cX6_dig 2 = .ok (.invokevirtual 179, 3) ∧ 2 + 3 = 5 := ⟨by decide +kernel, rfl⟩
theorem iX6_dig_5 : decode cX6_dig 5 = .ok (.ifCond .ne 6, 3) ∧ 5 + 3 = 8 := ⟨by decide +kernel, rfl⟩
theorem iX6_dig_8 : decode cX6_dig 8 = .ok (.bipush (-101), 2) ∧ 8 + 2 = 10 := ⟨by decide +kernel, rfl⟩
theorem iX6_dig_10 : decode cX6_dig 10 = .ok (.ireturn, 1) ∧ 10 + 1 = 11 := ⟨by decide +kernel, rfl⟩
theorem iX6_dig_11 : decode cX6_dig 11 = .ok (.aload_n 0, 1) ∧ 11 + 1 = 12 := ⟨by decide +kernel, rfl⟩
theorem iX6_dig_12 : decode cX6_dig 12 = .ok (.getfield 116, 3) ∧ 12 + 3 = 15 := ⟨by decide +kernel, rfl⟩
theorem iX6_dig_15 : decode cX6_dig 15 = .ok (.aload_n 0, 1) ∧ 15 + 1 = 16 := ⟨by decide +kernel, rfl⟩
theorem iX6_dig_16 : decode cX6_dig 16 = .ok (.invokevirtual 151, 3) ∧ 16 + 3 = 19 := ⟨by decide +kernel, rfl⟩
theorem iX6_dig_19 : decode cX6_dig 19 = .ok (.iconst (-1), 1) ∧ 19 + 1 = 20 := ⟨by decide +kernel, rfl⟩
theorem iX6_dig_20 : decode cX6_dig 20 = .ok (.ixor, 1) ∧ 20 + 1 = 21 := ⟨by decide +kernel, rfl⟩
theorem iX6_dig_21 : decode cX6_dig 21 = .ok (.iand, 1) ∧ 21 + 1 = 22 := ⟨by decide +kernel, rfl⟩
theorem iX6_dig_22 : decode cX6_dig 22 = .ok (.iload_n 1, 1) ∧ 22 + 1 = 23 := ⟨by decide +kernel, rfl⟩
theorem iX6_dig_23 : decode cX6_dig 23 = .ok (.invokestatic 92, 3) ∧ 23 + 3 = 26 := ⟨by decide +kernel, rfl⟩
theorem iX6_dig_26 : decode cX6_dig 26 = .ok (.ifCond .ne 6, 3) ∧ 26 + 3 = 29 := ⟨by decide +kernel, rfl⟩
theorem iX6_dig_29 : decode cX6_dig 29 = .ok (.bipush (-103), 2) ∧ 29 + 2 = 31 := ⟨by decide +kernel, rfl⟩
theorem iX6_dig_31 : decode cX6_dig 31 = .ok (.ireturn, 1) ∧ 31 + 1 = 32 := ⟨by decide +kernel, rfl⟩
theorem iX6_dig_32 : decode cX6_dig 32 = .ok (.aload_n 0, 1) ∧ 32 + 1 = 33 := ⟨by decide +kernel, rfl⟩
theorem iX6_dig_33 : decode cX6_dig 33 = .ok (.dup, 1) ∧ 33 + 1 = 34 := ⟨by decide +kernel, rfl⟩
theorem iX6_dig_34 : decode cX6_dig 34 = .ok (.getfield 116, 3) ∧ 34 + 3 = 37 := ⟨by decide +kernel, rfl⟩
theorem iX6_dig_37 : decode cX6_dig 37 = .ok (.iconst 1, 1) ∧ 37 + 1 = 38 := ⟨by decide +kernel, rfl⟩
theorem iX6_dig_38 : decode cX6_dig 38 = .ok (.iload_n 1, 1) ∧ 38 + 1 = 39 := ⟨by decide +kernel, rfl⟩
theorem iX6_dig_39 : decode cX6_dig 39 = .ok (.ishl, 1) ∧ 39 + 1 = 40 := ⟨by decide +kernel, rfl⟩
theorem iX6_dig_40 : decode cX6_dig 40 = .ok (.iconst (-1), 1) ∧ 40 + 1 = 41 := ⟨by decide +kernel, rfl⟩
theorem iX6_dig_41 : decode cX6_dig 41 = .ok (.ixor, 1) ∧ 41 + 1 = 42 := ⟨by decide +kernel, rfl⟩
theorem iX6_dig_42 : decode cX6_dig 42 = .ok (.iand, 1) ∧ 42 + 1 = 43 := ⟨by decide +kernel, rfl⟩
theorem iX6_dig_43 : decode cX6_dig 43 = .ok (.putfield 116, 3) ∧ 43 + 3 = 46 := ⟨by decide +kernel, rfl⟩
theorem iX6_dig_46 : decode cX6_dig 46 = .ok (.aload_n 0, 1) ∧ 46 + 1 = 47 := ⟨by decide +kernel, rfl⟩
theorem iX6_dig_47 : decode cX6_dig 47 = .ok (.getfield 116, 3) ∧ 47 + 3 = 50 := ⟨by decide +kernel, rfl⟩
theorem iX6_dig_50 : decode cX6_dig 50 = .ok (.invokestatic 185, 3) ∧ 50 + 3 = 53 := ⟨by decide +kernel, rfl⟩
theorem iX6_dig_53 : decode cX6_dig 53 = .ok (.ireturn, 1) ∧ 53 + 1 = 54 := ⟨by decide +kernel, rfl⟩
theorem iX6_fill_0 : decode cX6_fill 0 = .ok (.aload_n 0, 1) ∧ 0 + 1 = 1 := ⟨by decide +kernel, rfl⟩
theorem iX6_fill_1 : decode cX6_fill 1 = .ok (.iload_n 1, 1) ∧ 1 + 1 = 2 := ⟨by decide +kernel, rfl⟩
theorem iX6_fill_2 : decode cX6_fill 2 = .ok (.invokevirtual 179, 3) ∧ 2 + 3 = 5 := ⟨by decide +kernel, rfl⟩
theorem iX6_fill_5 : decode cX6_fill 5 = .ok (.ifCond .ne 6, 3) ∧ 5 + 3 = 8 := ⟨by decide +kernel, rfl⟩
theorem iX6_fill_8 : decode cX6_fill 8 = .ok (.bipush (-101), 2) ∧ 8 + 2 = 10 := ⟨by decide +kernel, rfl⟩
theorem iX6_fill_10 : decode cX6_fill 10 = .ok (.ireturn, 1) ∧ 10 + 1 = 11 := ⟨by decide +kernel, rfl⟩
theorem iX6_fill_11 : decode cX6_fill 11 = .ok (.aload_n 0, 1) ∧ 11 + 1 = 12 := ⟨by decide +kernel, rfl⟩
theorem iX6_fill_12 : decode cX6_fill 12 = .ok (.getfield 116, 3) ∧ 12 + 3 = 15 := ⟨by decide +kernel, rfl⟩
theorem iX6_fill_15 : decode cX6_fill 15 = .ok (.iload_n 1, 1) ∧ 15 + 1 = 16 := ⟨by decide +kernel, rfl⟩
theorem iX6_fill_16 : decode cX6_fill 16 = .ok (.invokestatic 92, 3) ∧ 16 + 3 = 19 := ⟨by decide +kernel, rfl⟩
theorem iX6_fill_19 : decode cX6_fill 19 = .ok (.ifCond .eq 6, 3) ∧ 19 + 3 = 22 := ⟨by decide +kernel, rfl⟩
theorem iX6_fill_22 : decode cX6_fill 22 = .ok (.bipush (-103), 2) ∧ 22 + 2 = 24 := ⟨by decide +kernel, rfl⟩
theorem iX6_fill_24 : decode cX6_fill 24 = .ok (.ireturn, 1) ∧ 24 + 1 = 25 := ⟨by decide +kernel, rfl⟩
theorem iX6_fill_25 : decode cX6_fill 25 = .ok (.aload_n 0, 1) ∧ 25 + 1 = 26 := ⟨by decide +kernel, rfl⟩
theorem iX6_fill_26 : decode cX6_fill 26 = .ok (.dup, 1) ∧ 26 + 1 = 27 := ⟨by decide +kernel, rfl⟩
theorem iX6_fill_27 : decode cX6_fill 27 = .ok (.getfield 116, 3) ∧ 27 + 3 = 30 := ⟨by decide +kernel, rfl⟩
theorem iX6_fill_30 : decode cX6_fill 30 = .ok (.iconst 1, 1) ∧ 30 + 1 = 31 := ⟨by decide +kernel, rfl⟩
theorem iX6_fill_31 : decode cX6_fill 31 = .ok (.iload_n 1, 1) ∧ 31 + 1 = 32 := ⟨by decide +kernel, rfl⟩
theorem iX6_fill_32 : decode cX6_fill 32 = .ok (.ishl, 1) ∧ 32 + 1 = 33 := ⟨by decide +kernel, rfl⟩
theorem iX6_fill_33 : decode cX6_fill 33 = .ok (.ior, 1) ∧ 33 + 1 = 34 := ⟨by decide +kernel, rfl⟩
theorem iX6_fill_34 : decode cX6_fill 34 = .ok (.putfield 116, 3) ∧ 34 + 3 = 37 := ⟨by decide +kernel, rfl⟩
theorem iX6_fill_37 : decode cX6_fill 37 = .ok (.aload_n 0, 1) ∧ 37 + 1 = 38 := ⟨by decide +kernel, rfl⟩
theorem iX6_fill_38 : decode cX6_fill 38 = .ok (.getfield 116, 3) ∧ 38 + 3 = 41 := ⟨by decide +kernel, rfl⟩
theorem iX6_fill_41 : decode cX6_fill 41 = .ok (.invokestatic 185, 3) ∧ 41 + 3 = 44 := ⟨by decide +kernel, rfl⟩
theorem iX6_fill_44 : decode cX6_fill 44 = .ok (.ireturn, 1) ∧ 44 + 1 = 45 := ⟨by decide +kernel, rfl⟩
theorem iX6_be_0 : decode cX6_be 0 = .ok (.aload_n 0, 1) ∧ 0 + 1 = 1 := ⟨by decide +kernel, rfl⟩
theorem iX6_be_1 : decode cX6_be 1 = .ok (.iload_n 1, 1) ∧ 1 + 1 = 2 := ⟨by decide +kernel, rfl⟩
theorem iX6_be_2 : decode cX6_be 2 = .ok (.invokevirtual 166, 3) ∧ 2 + 3 = 5 := ⟨by decide +kernel, rfl⟩
theorem iX6_be_5 : decode cX6_be 5 = .ok (.ifCond .ne 6, 3) ∧ 5 + 3 = 8 := ⟨by decide +kernel, rfl⟩
theorem iX6_be_8 : decode cX6_be 8 = .ok (.bipush (-101), 2) ∧ 8 + 2 = 10 := ⟨by decide +kernel, rfl⟩
theorem iX6_be_10 : decode cX6_be 10 = .ok (.ireturn, 1) ∧ 10 + 1 = 11 := ⟨by decide +kernel, rfl⟩
theorem iX6_be_11 : decode cX6_be 11 = .ok (.iload_n 2, 1) ∧ 11 + 1 = 12 := ⟨by decide +kernel, rfl⟩
theorem iX6_be_12 : decode cX6_be 12 = .ok (.iconst 0, 1) ∧ 12 + 1 = 13 := ⟨by decide +kernel, rfl⟩
theorem iX6_be_13 : decode cX6_be 13 = .ok (.iconst 4, 1) ∧ 13 + 1 = 14 := ⟨by decide +kernel, rfl⟩
theorem iX6_be_14 : decode cX6_be 14 = .ok (.invokestatic 68, 3) ∧ 14 + 3 = 17 := ⟨by decide +kernel, rfl⟩
theorem iX6_be_17 : decode cX6_be 17 = .ok (.ifCond .ne 6, 3) ∧ 17 + 3 = 20 := ⟨by decide +kernel, rfl⟩
theorem iX6_be_20 : decode cX6_be 20 = .ok (.bipush (-102), 2) ∧ 20 + 2 = 22 := ⟨by decide +kernel, rfl⟩
theorem iX6_be_22 : decode cX6_be 22 = .ok (.ireturn, 1) ∧ 22 + 1 = 23 := ⟨by decide +kernel, rfl⟩
theorem iX6_be_23 : decode cX6_be 23 = .ok (.aload_n 0, 1) ∧ 23 + 1 = 24 := ⟨by decide +kernel, rfl⟩
theorem iX6_be_24 : decode cX6_be 24 = .ok (.getfield 7, 3) ∧ 24 + 3 = 27 := ⟨by decide +kernel, rfl⟩
theorem iX6_be_27 : decode cX6_be 27 = .ok (.iload_n 1, 1) ∧ 27 + 1 = 28 := ⟨by decide +kernel, rfl⟩
theorem iX6_be_28 : decode cX6_be 28 = .ok (.iaload, 1) ∧ 28 + 1 = 29 := ⟨by decide +kernel, rfl⟩
theorem iX6_be_29 : decode cX6_be 29 = .ok (.istore_n 3, 1) ∧ 29 + 1 = 30 := ⟨by decide +kernel, rfl⟩
theorem iX6_be_30 : decode cX6_be 30 = .ok (.aload_n 0, 1) ∧ 30 + 1 = 31 := ⟨by decide +kernel, rfl⟩
theorem iX6_be_31 : decode cX6_be 31 = .ok (.getfield 7, 3) ∧ 31 + 3 = 34 := ⟨by decide +kernel, rfl⟩
theorem iX6_be_34 : decode cX6_be 34 = .ok (.iload_n 1, 1) ∧ 34 + 1 = 35 := ⟨by decide +kernel, rfl⟩
theorem iX6_be_35 : decode cX6_be 35 = .ok (.iload_n 2, 1) ∧ 35 + 1 = 36 := ⟨by decide +kernel, rfl⟩
theorem iX6_be_36 : decode cX6_be 36 = .ok (.iastore, 1) ∧ 36 + 1 = 37 := ⟨by decide +kernel, rfl⟩
theorem iX6_be_37 : decode cX6_be 37 = .ok (.iload_n 3, 1) ∧ 37 + 1 = 38 := ⟨by decide +kernel, rfl⟩
theorem iX6_be_38 : decode cX6_be 38 = .ok (.ireturn, 1) ∧ 38 + 1 = 39 := ⟨by decide +kernel, rfl⟩
theorem iX6_aroundAll_0 : decode cX6_aroundAll 0 = .ok (.iconst 0, 1) ∧ 0 + 1 = 1 := ⟨by decide +kernel, rfl⟩
theorem iX6_aroundAll_1 : decode cX6_aroundAll 1 = .ok (.istore_n 3, 1) ∧ 1 + 1 = 2 := ⟨by decide +kernel, rfl⟩
theorem iX6_aroundAll_2 : decode cX6_aroundAll 2 = .ok (.iconst 0, 1) ∧ 2 + 1 = 3 := ⟨by decide +kernel, rfl⟩
theorem iX6_aroundAll_3 : decode cX6_aroundAll 3 = .ok (.istore 4, 2) ∧ 3 + 2 = 5 := ⟨by decide +kernel, rfl⟩
theorem iX6_aroundAll_5 : decode cX6_aroundAll 5 = .ok (.iload 4, 2) ∧ 5 + 2 = 7 := ⟨by decide +kernel, rfl⟩
theorem iX6_aroundAll_7 : decode cX6_aroundAll 7 = .ok (.aload_n 0, 1) ∧ 7 + 1 = 8 := ⟨by decide +kernel, rfl⟩
theorem iX6_aroundAll_8 : decode cX6_aroundAll 8 = .ok (.invokevirtual 131, 3) ∧ 8 + 3 = 11 := ⟨by decide +kernel, rfl⟩
theorem iX6_aroundAll_11 : decode cX6_aroundAll 11 = .ok (.if_icmp .ge 32, 3) ∧ 11 + 3 = 14 := ⟨by decide +kernel, rfl⟩
theorem iX6_aroundAll_14 : decode cX6_aroundAll 14 = .ok (.iload_n 3, 1) ∧ 14 + 1 = 15 := ⟨by decide +kernel, rfl⟩
theorem iX6_aroundAll_15 : decode cX6_aroundAll 15 = .ok (.iload_n 2, 1) ∧ 15 + 1 = 16 := ⟨by decide +kernel, rfl⟩
theorem iX6_aroundAll_16 : decode cX6_aroundAll 16 = .ok (.iload 4, 2) ∧ 16 + 2 = 18 := ⟨by decide +kernel, rfl⟩
theorem iX6_aroundAll_18 : decode cX6_aroundAll 18 = .ok (.invokestatic 92, 3) ∧ 18 + 3 = 21 := ⟨by decide +kernel, rfl⟩
theorem iX6_aroundAll_21 : decode cX6_aroundAll 21 = .ok (.ifCond .eq 13, 3) ∧ 21 + 3 = 24 := ⟨by decide +kernel, rfl⟩
theorem iX6_aroundAll_24 : decode cX6_aroundAll 24 = .ok (.aload_n 0, 1) ∧ 24 + 1 = 25 := ⟨by decide +kernel, rfl⟩
theorem iX6_aroundAll_25 : decode cX6_aroundAll 25 = .ok (.iload_n 1, 1) ∧ 25 + 1 = 26 := ⟨by decide +kernel, rfl⟩
theorem iX6_aroundAll_26 : decode cX6_aroundAll 26 = .ok (.iload 4, 2) ∧ 26 + 2 = 28 := ⟨by decide +kernel, rfl⟩
theorem iX6_aroundAll_28 : decode cX6_aroundAll 28 = .ok (.invokevirtual 145, 3) ∧ 28 + 3 = 31 := ⟨by decide +kernel, rfl⟩
theorem iX6_aroundAll_31 : decode cX6_aroundAll 31 = .ok (.goto 4, 3) ∧ 31 + 3 = 34 := ⟨by decide +kernel, rfl⟩
theorem iX6_aroundAll_34 : decode cX6_aroundAll 34 = .ok (.iconst 0, 1) ∧ 34 + 1 = 35 := ⟨by decide +kernel, rfl⟩
theorem iX6_aroundAll_35 : decode cX6_aroundAll 35 = .ok (.ior, 1) ∧ 35 + 1 = 36 := ⟨by decide +kernel, rfl⟩
theorem iX6_aroundAll_36 : decode cX6_aroundAll 36 = .ok (.istore_n 3, 1) ∧ 36 + 1 = 37 := ⟨by decide +kernel, rfl⟩
theorem iX6_aroundAll_37 : decode cX6_aroundAll 37 = .ok (.iinc 4 1, 3) ∧ 37 + 3 = 40 := ⟨by decide +kernel, rfl⟩
theorem iX6_aroundAll_40 : decode cX6_aroundAll 40 = .ok (.goto (-35), 3) ∧ 40 + 3 = 43 := ⟨by decide +kernel, rfl⟩
theorem iX6_aroundAll_43 : decode cX6_aroundAll 43 = .ok (.iload_n 3, 1) ∧ 43 + 1 = 44 := ⟨by decide +kernel, rfl⟩
theorem iX6_aroundAll_44 : decode cX6_aroundAll 44 = .ok (.ireturn, 1) ∧ 44 + 1 = 45 := ⟨by decide +kernel, rfl⟩
theorem iX6_hopsNow_0 : decode cX6_hopsNow 0 = .ok (.iconst 1, 1) ∧ 0 + 1 = 1 := ⟨by decide +kernel, rfl⟩
theorem iX6_hopsNow_1 : decode cX6_hopsNow 1 = .ok (.aload_n 0, 1) ∧ 1 + 1 = 2 := ⟨by decide +kernel, rfl⟩
theorem iX6_hopsNow_2 : decode cX6_hopsNow 2 = .ok (.getfield 13, 3) ∧ 2 + 3 = 5 := ⟨by decide +kernel, rfl⟩
theorem iX6_hopsNow_5 : decode cX6_hopsNow 5 = .ok (.iload_n 1, 1) ∧ 5 + 1 = 6 := ⟨by decide +kernel, rfl⟩
theorem iX6_hopsNow_6 : decode cX6_hopsNow 6 = .ok (.iaload, 1) ∧ 6 + 1 = 7 := ⟨by decide +kernel, rfl⟩
theorem iX6_hopsNow_7 : decode cX6_hopsNow 7 = .ok (.ishl, 1) ∧ 7 + 1 = 8 := ⟨by decide +kernel, rfl⟩
theorem iX6_hopsNow_8 : decode cX6_hopsNow 8 = .ok (.istore_n 3, 1) ∧ 8 + 1 = 9 := ⟨by decide +kernel, rfl⟩
theorem iX6_hopsNow_9 : decode cX6_hopsNow 9 = .ok (.iconst 0, 1) ∧ 9 + 1 = 10 := ⟨by decide +kernel, rfl⟩
theorem iX6_hopsNow_10 : decode cX6_hopsNow 10 = .ok (.istore 4, 2) ∧ 10 + 2 = 12 := ⟨by decide +kernel, rfl⟩
theorem iX6_hopsNow_12 : decode cX6_hopsNow 12 = .ok (.iload_n 3, 1) ∧ 12 + 1 = 13 := ⟨by decide +kernel, rfl⟩
theorem iX6_hopsNow_13 : decode cX6_hopsNow 13 = .ok (.iload_n 2, 1) ∧ 13 + 1 = 14 := ⟨by decide +kernel, rfl⟩
theorem iX6_hopsNow_14 : decode cX6_hopsNow 14 = .ok (.invokestatic 92, 3) ∧ 14 + 3 = 17 := ⟨by decide +kernel, rfl⟩
theorem iX6_hopsNow_17 : decode cX6_hopsNow 17 = .ok (.ifCond .ne 43, 3) ∧ 17 + 3 = 20 := ⟨by decide +kernel, rfl⟩
theorem iX6_hopsNow_20 : decode cX6_hopsNow 20 = .ok (.iload_n 3, 1) ∧ 20 + 1 = 21 := ⟨by decide +kernel, rfl⟩
theorem iX6_hopsNow_21 : decode cX6_hopsNow 21 = .ok (.aload_n 0, 1) ∧ 21 + 1 = 22 := ⟨by decide +kernel, rfl⟩
theorem iX6_hopsNow_22 : decode cX6_hopsNow 22 = .ok (.aload_n 0, 1) ∧ 22 + 1 = 23 := ⟨by decide +kernel, rfl⟩
theorem iX6_hopsNow_23 : decode cX6_hopsNow 23 = .ok (.getfield 7, 3) ∧ 23 + 3 = 26 := ⟨by decide +kernel, rfl⟩
theorem iX6_hopsNow_26 : decode cX6_hopsNow 26 = .ok (.iload_n 1, 1) ∧ 26 + 1 = 27 := ⟨by decide +kernel, rfl⟩
theorem iX6_hopsNow_27 : decode cX6_hopsNow 27 = .ok (.iaload, 1) ∧ 27 + 1 = 28 := ⟨by decide +kernel, rfl⟩
theorem iX6_hopsNow_28 : decode cX6_hopsNow 28 = .ok (.iload_n 3, 1) ∧ 28 + 1 = 29 := ⟨by decide +kernel, rfl⟩
theorem iX6_hopsNow_29 : decode cX6_hopsNow 29 = .ok (.invokevirtual 188, 3) ∧ 29 + 3 = 32 := ⟨by decide +kernel, rfl⟩
theorem iX6_hopsNow_32 : decode cX6_hopsNow 32 = .ok (.aload_n 0, 1) ∧ 32 + 1 = 33 := ⟨by decide +kernel, rfl⟩
theorem iX6_hopsNow_33 : decode cX6_hopsNow 33 = .ok (.iload_n 1, 1) ∧ 33 + 1 = 34 := ⟨by decide +kernel, rfl⟩
theorem iX6_hopsNow_34 : decode cX6_hopsNow 34 = .ok (.invokevirtual 191, 3) ∧ 34 + 3 = 37 := ⟨by decide +kernel, rfl⟩
theorem iX6_hopsNow_37 : decode cX6_hopsNow 37 = .ok (.iconst (-1), 1) ∧ 37 + 1 = 38 := ⟨by decide +kernel, rfl⟩
theorem iX6_hopsNow_38 : decode cX6_hopsNow 38 = .ok (.ixor, 1) ∧ 38 + 1 = 39 := ⟨by decide +kernel, rfl⟩
theorem iX6_hopsNow_39 : decode cX6_hopsNow 39 = .ok (.iand, 1) ∧ 39 + 1 = 40 := ⟨by decide +kernel, rfl⟩
theorem iX6_hopsNow_40 : decode cX6_hopsNow 40 = .ok (.ior, 1) ∧ 40 + 1 = 41 := ⟨by decide +kernel, rfl⟩
theorem iX6_hopsNow_41 : decode cX6_hopsNow 41 = .ok (.istore 5, 2) ∧ 41 + 2 = 43 := ⟨by decide +kernel, rfl⟩
theorem iX6_hopsNow_43 : decode cX6_hopsNow 43 = .ok (.iload 5, 2) ∧ 43 + 2 = 45 := ⟨by decide +kernel, rfl⟩
theorem iX6_hopsNow_45 : decode cX6_hopsNow 45 = .ok (.iload_n 3, 1) ∧ 45 + 1 = 46 := ⟨by decide +kernel, rfl⟩
theorem iX6_hopsNow_46 : decode cX6_hopsNow 46 = .ok (.if_icmp .ne 5, 3) ∧ 46 + 3 = 49 := ⟨by decide +kernel, rfl⟩
theorem iX6_hopsNow_49 : decode cX6_hopsNow 49 = .ok (.iconst (-1), 1) ∧ 49 + 1 = 50 := ⟨by decide +kernel, rfl⟩
theorem iX6_hopsNow_50 : decode cX6_hopsNow 50 = .ok (.ireturn, 1) ∧ 50 + 1 = 51 := ⟨by decide +kernel, rfl⟩
theorem iX6_hopsNow_51 : decode cX6_hopsNow 51 = .ok (.iload 5, 2) ∧ 51 + 2 = 53 := ⟨by decide +kernel, rfl⟩
theorem iX6_hopsNow_53 : decode cX6_hopsNow 53 = .ok (.istore_n 3, 1) ∧ 53 + 1 = 54 := ⟨by decide +kernel, rfl⟩
theorem iX6_hopsNow_54 : decode cX6_hopsNow 54 = .ok (.iinc 4 1, 3) ∧ 54 + 3 = 57 := ⟨by decide +kernel, rfl⟩
theorem iX6_hopsNow_57 : decode cX6_hopsNow 57 = .ok (.goto (-45), 3) ∧ 57 + 3 = 60 := ⟨by decide +kernel, rfl⟩
theorem iX6_hopsNow_60 : decode cX6_hopsNow 60 = .ok (.iload 4, 2) ∧ 60 + 2 = 62 := ⟨by decide +kernel, rfl⟩
theorem iX6_hopsNow_62 : decode cX6_hopsNow 62 = .ok (.ireturn, 1) ∧ 62 + 1 = 63 := ⟨by decide +kernel, rfl⟩
theorem iX6_hops_0 : decode cX6_hops 0 = .ok (.aload_n 0, 1) ∧ 0 + 1 = 1 := ⟨by decide +kernel, rfl⟩
theorem iX6_hops_1 : decode cX6_hops 1 = .ok (.iload_n 1, 1) ∧ 1 + 1 = 2 := ⟨by decide +kernel, rfl⟩
theorem iX6_hops_2 : decode cX6_hops 2 = .ok (.invokevirtual 166, 3) ∧ 2 + 3 = 5 := ⟨by decide +kernel, rfl⟩
theorem iX6_hops_5 : decode cX6_hops 5 = .ok (.ifCond .eq 20, 3) ∧ 5 + 3 = 8 := ⟨by decide +kernel, rfl⟩
theorem iX6_hops_8 : decode cX6_hops 8 = .ok (.aload_n 0, 1) ∧ 8 + 1 = 9 := ⟨by decide +kernel, rfl⟩
theorem iX6_hops_9 : decode cX6_hops 9 = .ok (.iload_n 2, 1) ∧ 9 + 1 = 10 := ⟨by decide +kernel, rfl⟩
theorem iX6_hops_10 : decode cX6_hops 10 = .ok (.invokevirtual 179, 3) ∧ 10 + 3 = 13 := ⟨by decide +kernel, rfl⟩
theorem iX6_hops_13 : decode cX6_hops 13 = .ok (.ifCond .eq 12, 3) ∧ 13 + 3 = 16 := ⟨by decide +kernel, rfl⟩
theorem iX6_hops_16 : decode cX6_hops 16 = .ok (.aload_n 0, 1) ∧ 16 + 1 = 17 := ⟨by decide +kernel, rfl⟩
theorem iX6_hops_17 : decode cX6_hops 17 = .ok (.iload_n 1, 1) ∧ 17 + 1 = 18 := ⟨by decide +kernel, rfl⟩
theorem iX6_hops_18 : decode cX6_hops 18 = .ok (.iload_n 2, 1) ∧ 18 + 1 = 19 := ⟨by decide +kernel, rfl⟩
theorem iX6_hops_19 : decode cX6_hops 19 = .ok (.invokevirtual 194, 3) ∧ 19 + 3 = 22 := ⟨by decide +kernel, rfl⟩
theorem iX6_hops_22 : decode cX6_hops 22 = .ok (.goto 5, 3) ∧ 22 + 3 = 25 := ⟨by decide +kernel, rfl⟩
theorem iX6_hops_25 : decode cX6_hops 25 = .ok (.bipush (-101), 2) ∧ 25 + 2 = 27 := ⟨by decide +kernel, rfl⟩
theorem iX6_hops_27 : decode cX6_hops 27 = .ok (.ireturn, 1) ∧ 27 + 1 = 28 := ⟨by decide +kernel, rfl⟩
theorem iX6_comeTo_0 : decode cX6_comeTo 0 = .ok (.aload_n 0, 1) ∧ 0 + 1 = 1 := ⟨by decide +kernel, rfl⟩
theorem iX6_comeTo_1 : decode cX6_comeTo 1 = .ok (.getfield 32, 3) ∧ 1 + 3 = 4 := ⟨by decide +kernel, rfl⟩
theorem iX6_comeTo_4 : decode cX6_comeTo 4 = .ok (.iload_n 1, 1) ∧ 4 + 1 = 5 := ⟨by decide +kernel, rfl⟩
theorem iX6_comeTo_5 : decode cX6_comeTo 5 = .ok (.iaload, 1) ∧ 5 + 1 = 6 := ⟨by decide +kernel, rfl⟩
theorem iX6_comeTo_6 : decode cX6_comeTo 6 = .ok (.ldc 197, 2) ∧ 6 + 2 = 8 := ⟨by decide +kernel, rfl⟩
theorem iX6_comeTo_8 : decode cX6_comeTo 8 = .ok (.if_icmp .ne 30, 3) ∧ 8 + 3 = 11 := ⟨by decide +kernel, rfl⟩
theorem iX6_comeTo_11 : decode cX6_comeTo 11 = .ok (.aload_n 0, 1) ∧ 11 + 1 = 12 := ⟨by decide +kernel, rfl⟩
theorem iX6_comeTo_12 : decode cX6_comeTo 12 = .ok (.getfield 32, 3) ∧ 12 + 3 = 15 := ⟨by decide +kernel, rfl⟩
theorem iX6_comeTo_15 : decode cX6_comeTo 15 = .ok (.iload_n 1, 1) ∧ 15 + 1 = 16 := ⟨by decide +kernel, rfl⟩
theorem iX6_comeTo_16 : decode cX6_comeTo 16 = .ok (.iload_n 2, 1) ∧ 16 + 1 = 17 := ⟨by decide +kernel, rfl⟩
theorem iX6_comeTo_17 : decode cX6_comeTo 17 = .ok (.iastore, 1) ∧ 17 + 1 = 18 := ⟨by decide +kernel, rfl⟩
theorem iX6_comeTo_18 : decode cX6_comeTo 18 = .ok (.aload_n 0, 1) ∧ 18 + 1 = 19 := ⟨by decide +kernel, rfl⟩
theorem iX6_comeTo_19 : decode cX6_comeTo 19 = .ok (.getfield 35, 3) ∧ 19 + 3 = 22 := ⟨by decide +kernel, rfl⟩
theorem iX6_comeTo_22 : decode cX6_comeTo 22 = .ok (.aload_n 0, 1) ∧ 22 + 1 = 23 := ⟨by decide +kernel, rfl⟩
theorem iX6_comeTo_23 : decode cX6_comeTo 23 = .ok (.getfield 198, 3) ∧ 23 + 3 = 26 := ⟨by decide +kernel, rfl⟩
theorem iX6_comeTo_26 : decode cX6_comeTo 26 = .ok (.iload_n 1, 1) ∧ 26 + 1 = 27 := ⟨by decide +kernel, rfl⟩
theorem iX6_comeTo_27 : decode cX6_comeTo 27 = .ok (.iastore, 1) ∧ 27 + 1 = 28 := ⟨by decide +kernel, rfl⟩
theorem iX6_comeTo_28 : decode cX6_comeTo 28 = .ok (.aload_n 0, 1) ∧ 28 + 1 = 29 := ⟨by decide +kernel, rfl⟩
theorem iX6_comeTo_29 : decode cX6_comeTo 29 = .ok (.dup, 1) ∧ 29 + 1 = 30 := ⟨by decide +kernel, rfl⟩
theorem iX6_comeTo_30 : decode cX6_comeTo 30 = .ok (.getfield 198, 3) ∧ 30 + 3 = 33 := ⟨by decide +kernel, rfl⟩
theorem iX6_comeTo_33 : decode cX6_comeTo 33 = .ok (.iconst 1, 1) ∧ 33 + 1 = 34 := ⟨by decide +kernel, rfl⟩
theorem iX6_comeTo_34 : decode cX6_comeTo 34 = .ok (.iadd, 1) ∧ 34 + 1 = 35 := ⟨by decide +kernel, rfl⟩
theorem iX6_comeTo_35 : decode cX6_comeTo 35 = .ok (.putfield 198, 3) ∧ 35 + 3 = 38 := ⟨by decide +kernel, rfl⟩
theorem iX6_comeTo_38 : decode cX6_comeTo 38 = .ok (.return_, 1) ∧ 38 + 1 = 39 := ⟨by decide +kernel, rfl⟩
theorem iX6_comeFrom_0 : decode cX6_comeFrom 0 = .ok (.iload_n 1, 1) ∧ 0 + 1 = 1 := ⟨by decide +kernel, rfl⟩
theorem iX6_comeFrom_1 : decode cX6_comeFrom 1 = .ok (.bipush 12, 2) ∧ 1 + 2 = 3 := ⟨by decide +kernel, rfl⟩
theorem iX6_comeFrom_3 : decode cX6_comeFrom 3 = .ok (.idiv, 1) ∧ 3 + 1 = 4 := ⟨by decide +kernel, rfl⟩
theorem iX6_comeFrom_4 : decode cX6_comeFrom 4 = .ok (.istore 5, 2) ∧ 4 + 2 = 6 := ⟨by decide +kernel, rfl⟩
theorem iX6_comeFrom_6 : decode cX6_comeFrom 6 = .ok (.iload_n 1, 1) ∧ 6 + 1 = 7 := ⟨by decide +kernel, rfl⟩
theorem iX6_comeFrom_7 : decode cX6_comeFrom 7 = .ok (.bipush 12, 2) ∧ 7 + 2 = 9 := ⟨by decide +kernel, rfl⟩
theorem iX6_comeFrom_9 : decode cX6_comeFrom 9 = .ok (.irem, 1) ∧ 9 + 1 = 10 := ⟨by decide +kernel, rfl⟩
theorem iX6_comeFrom_10 : decode cX6_comeFrom 10 = .ok (.istore 6, 2) ∧ 10 + 2 = 12 := ⟨by decide +kernel, rfl⟩
theorem iX6_comeFrom_12 : decode cX6_comeFrom 12 = .ok (.aload_n 0, 1) ∧ 12 + 1 = 13 := ⟨by decide +kernel, rfl⟩
theorem iX6_comeFrom_13 : decode cX6_comeFrom 13 = .ok (.aload_n 0, 1) ∧ 13 + 1 = 14 := ⟨by decide +kernel, rfl⟩
theorem iX6_comeFrom_14 : decode cX6_comeFrom 14 = .ok (.getfield 7, 3) ∧ 14 + 3 = 17 := ⟨by decide +kernel, rfl⟩
theorem iX6_comeFrom_17 : decode cX6_comeFrom 17 = .ok (.iload_n 2, 1) ∧ 17 + 1 = 18 := ⟨by decide +kernel, rfl⟩
theorem iX6_comeFrom_18 : decode cX6_comeFrom 18 = .ok (.iaload, 1) ∧ 18 + 1 = 19 := ⟨by decide +kernel, rfl⟩
theorem iX6_comeFrom_19 : decode cX6_comeFrom 19 = .ok (.iload 5, 2) ∧ 19 + 2 = 21 := ⟨by decide +kernel, rfl⟩
theorem iX6_comeFrom_21 : decode cX6_comeFrom 21 = .ok (.invokevirtual 145, 3) ∧ 21 + 3 = 24 := ⟨by decide +kernel, rfl⟩
theorem iX6_comeFrom_24 : decode cX6_comeFrom 24 = .ok (.iload 4, 2) ∧ 24 + 2 = 26 := ⟨by decide +kernel, rfl⟩
theorem iX6_comeFrom_26 : decode cX6_comeFrom 26 = .ok (.iconst (-1), 1) ∧ 26 + 1 = 27 := ⟨by decide +kernel, rfl⟩
theorem iX6_comeFrom_27 : decode cX6_comeFrom 27 = .ok (.ixor, 1) ∧ 27 + 1 = 28 := ⟨by decide +kernel, rfl⟩
theorem iX6_comeFrom_28 : decode cX6_comeFrom 28 = .ok (.iand, 1) ∧ 28 + 1 = 29 := ⟨by decide +kernel, rfl⟩
theorem iX6_comeFrom_29 : decode cX6_comeFrom 29 = .ok (.iconst 1, 1) ∧ 29 + 1 = 30 := ⟨by decide +kernel, rfl⟩
theorem iX6_comeFrom_30 : decode cX6_comeFrom 30 = .ok (.iload 6, 2) ∧ 30 + 2 = 32 := ⟨by decide +kernel, rfl⟩
theorem iX6_comeFrom_32 : decode cX6_comeFrom 32 = .ok (.ishl, 1) ∧ 32 + 1 = 33 := ⟨by decide +kernel, rfl⟩
theorem iX6_comeFrom_33 : decode cX6_comeFrom 33 = .ok (.iconst (-1), 1) ∧ 33 + 1 = 34 := ⟨by decide +kernel, rfl⟩
theorem iX6_comeFrom_34 : decode cX6_comeFrom 34 = .ok (.ixor, 1) ∧ 34 + 1 = 35 := ⟨by decide +kernel, rfl⟩
theorem iX6_comeFrom_35 : decode cX6_comeFrom 35 = .ok (.iand, 1) ∧ 35 + 1 = 36 := ⟨by decide +kernel, rfl⟩
theorem iX6_comeFrom_36 : decode cX6_comeFrom 36 = .ok (.istore 7, 2) ∧ 36 + 2 = 38 := ⟨by decide +kernel, rfl⟩
theorem iX6_comeFrom_38 : decode cX6_comeFrom 38 = .ok (.aload_n 0, 1) ∧ 38 + 1 = 39 := ⟨by decide +kernel, rfl⟩
theorem iX6_comeFrom_39 : decode cX6_comeFrom 39 = .ok (.aload_n 0, 1) ∧ 39 + 1 = 40 := ⟨by decide +kernel, rfl⟩
theorem iX6_comeFrom_40 : decode cX6_comeFrom 40 = .ok (.getfield 7, 3) ∧ 40 + 3 = 43 := ⟨by decide +kernel, rfl⟩
theorem iX6_comeFrom_43 : decode cX6_comeFrom 43 = .ok (.iload_n 3, 1) ∧ 43 + 1 = 44 := ⟨by decide +kernel, rfl⟩
theorem iX6_comeFrom_44 : decode cX6_comeFrom 44 = .ok (.iaload, 1) ∧ 44 + 1 = 45 := ⟨by decide +kernel, rfl⟩
theorem iX6_comeFrom_45 : decode cX6_comeFrom 45 = .ok (.iload 6, 2) ∧ 45 + 2 = 47 := ⟨by decide +kernel, rfl⟩
theorem iX6_comeFrom_47 : decode cX6_comeFrom 47 = .ok (.invokevirtual 145, 3) ∧ 47 + 3 = 50 := ⟨by decide +kernel, rfl⟩
theorem iX6_comeFrom_50 : decode cX6_comeFrom 50 = .ok (.iload 4, 2) ∧ 50 + 2 = 52 := ⟨by decide +kernel, rfl⟩
theorem iX6_comeFrom_52 : decode cX6_comeFrom 52 = .ok (.iconst (-1), 1) ∧ 52 + 1 = 53 := ⟨by decide +kernel, rfl⟩
theorem iX6_comeFrom_53 : decode cX6_comeFrom 53 = .ok (.ixor, 1) ∧ 53 + 1 = 54 := ⟨by decide +kernel, rfl⟩
theorem iX6_comeFrom_54 : decode cX6_comeFrom 54 = .ok (.iand, 1) ∧ 54 + 1 = 55 := ⟨by decide +kernel, rfl⟩
theorem iX6_comeFrom_55 : decode cX6_comeFrom 55 = .ok (.iconst 1, 1) ∧ 55 + 1 = 56 := ⟨by decide +kernel, rfl⟩
theorem iX6_comeFrom_56 : decode cX6_comeFrom 56 = .ok (.iload 5, 2) ∧ 56 + 2 = 58 := ⟨by decide +kernel, rfl⟩
theorem iX6_comeFrom_58 : decode cX6_comeFrom 58 = .ok (.ishl, 1) ∧ 58 + 1 = 59 := ⟨by decide +kernel, rfl⟩
theorem iX6_comeFrom_59 : decode cX6_comeFrom 59 = .ok (.iconst (-1), 1) ∧ 59 + 1 = 60 := ⟨by decide +kernel, rfl⟩
theorem iX6_comeFrom_60 : decode cX6_comeFrom 60 = .ok (.ixor, 1) ∧ 60 + 1 = 61 := ⟨by decide +kernel, rfl⟩
theorem iX6_comeFrom_61 : decode cX6_comeFrom 61 = .ok (.iand, 1) ∧ 61 + 1 = 62 := ⟨by decide +kernel, rfl⟩
theorem iX6_comeFrom_62 : decode cX6_comeFrom 62 = .ok (.istore 8, 2) ∧ 62 + 2 = 64 := ⟨by decide +kernel, rfl⟩
theorem iX6_comeFrom_64 : decode cX6_comeFrom 64 = .ok (.iconst 0, 1) ∧ 64 + 1 = 65 := ⟨by decide +kernel, rfl⟩
theorem iX6_comeFrom_65 : decode cX6_comeFrom 65 = .ok (.istore 9, 2) ∧ 65 + 2 = 67 := ⟨by decide +kernel, rfl⟩
theorem iX6_comeFrom_67 : decode cX6_comeFrom 67 = .ok (.iload 9, 2) ∧ 67 + 2 = 69 := ⟨by decide +kernel, rfl⟩
theorem iX6_comeFrom_69 : decode cX6_comeFrom 69 = .ok (.aload_n 0, 1) ∧ 69 + 1 = 70 := ⟨by decide +kernel, rfl⟩
theorem iX6_comeFrom_70 : decode cX6_comeFrom 70 = .ok (.invokevirtual 131, 3) ∧ 70 + 3 = 73 := ⟨by decide +kernel, rfl⟩
theorem iX6_comeFrom_73 : decode cX6_comeFrom 73 = .ok (.if_icmp .ge 69, 3) ∧ 73 + 3 = 76 := ⟨by decide +kernel, rfl⟩
theorem iX6_comeFrom_76 : decode cX6_comeFrom 76 = .ok (.iload 7, 2) ∧ 76 + 2 = 78 := ⟨by decide +kernel, rfl⟩
theorem iX6_comeFrom_78 : decode cX6_comeFrom 78 = .ok (.iload 9, 2) ∧ 78 + 2 = 80 := ⟨by decide +kernel, rfl⟩
theorem iX6_comeFrom_80 : decode cX6_comeFrom 80 = .ok (.invokestatic 92, 3) ∧ 80 + 3 = 83 := ⟨by decide +kernel, rfl⟩
theorem iX6_comeFrom_83 : decode cX6_comeFrom 83 = .ok (.ifCond .eq 23, 3) ∧ 83 + 3 = 86 := ⟨by decide +kernel, rfl⟩
theorem iX6_comeFrom_86 : decode cX6_comeFrom 86 = .ok (.aload_n 0, 1) ∧ 86 + 1 = 87 := ⟨by decide +kernel, rfl⟩
theorem iX6_comeFrom_87 : decode cX6_comeFrom 87 = .ok (.bipush 12, 2) ∧ 87 + 2 = 89 := ⟨by decide +kernel, rfl⟩
theorem iX6_comeFrom_89 : decode cX6_comeFrom 89 = .ok (.iload 9, 2) ∧ 89 + 2 = 91 := ⟨by decide +kernel, rfl⟩
theorem iX6_comeFrom_91 : decode cX6_comeFrom 91 = .ok (.imul, 1) ∧ 91 + 1 = 92 := ⟨by decide +kernel, rfl⟩
theorem iX6_comeFrom_92 : decode cX6_comeFrom 92 = .ok (.iload 6, 2) ∧ 92 + 2 = 94 := ⟨by decide +kernel, rfl⟩
theorem iX6_comeFrom_94 : decode cX6_comeFrom 94 = .ok (.iadd, 1) ∧ 94 + 1 = 95 := ⟨by decide +kernel, rfl⟩
theorem iX6_comeFrom_95 : decode cX6_comeFrom 95 = .ok (.aload_n 0, 1) ∧ 95 + 1 = 96 := ⟨by decide +kernel, rfl⟩
theorem iX6_comeFrom_96 : decode cX6_comeFrom 96 = .ok (.getfield 32, 3) ∧ 96 + 3 = 99 := ⟨by decide +kernel, rfl⟩
theorem iX6_comeFrom_99 : decode cX6_comeFrom 99 = .ok (.iload_n 1, 1) ∧ 99 + 1 = 100 := ⟨by decide +kernel, rfl⟩
theorem iX6_comeFrom_100 : decode cX6_comeFrom 100 = .ok (.iaload, 1) ∧ 100 + 1 = 101 := ⟨by decide +kernel, rfl⟩
theorem iX6_comeFrom_101 : decode cX6_comeFrom 101 = .ok (.iconst 1, 1) ∧ 101 + 1 = 102 := ⟨by decide +kernel, rfl⟩
theorem iX6_comeFrom_102 : decode cX6_comeFrom 102 = .ok (.iadd, 1) ∧ 102 + 1 = 103 := ⟨by decide +kernel, rfl⟩
theorem iX6_comeFrom_103 : decode cX6_comeFrom 103 = .ok (.invokevirtual 201, 3) ∧ 103 + 3 = 106 := ⟨by decide +kernel, rfl⟩
theorem iX6_comeFrom_106 : decode cX6_comeFrom 106 = .ok (.iload 8, 2) ∧ 106 + 2 = 108 := ⟨by decide +kernel, rfl⟩
theorem iX6_comeFrom_108 : decode cX6_comeFrom 108 = .ok (.iload 9, 2) ∧ 108 + 2 = 110 := ⟨by decide +kernel, rfl⟩
theorem iX6_comeFrom_110 : decode cX6_comeFrom 110 = .ok (.invokestatic 92, 3) ∧ 110 + 3 = 113 := ⟨by decide +kernel, rfl⟩
theorem iX6_comeFrom_113 : decode cX6_comeFrom 113 = .ok (.ifCond .eq 23, 3) ∧ 113 + 3 = 116 := ⟨by decide +kernel, rfl⟩
theorem iX6_comeFrom_116 : decode cX6_comeFrom 116 = .ok (.aload_n 0, 1) ∧ 116 + 1 = 117 := ⟨by decide +kernel, rfl⟩
theorem iX6_comeFrom_117 : decode cX6_comeFrom 117 = .ok (.bipush 12, 2) ∧ 117 + 2 = 119 := ⟨by decide +kernel, rfl⟩
theorem iX6_comeFrom_119 : decode cX6_comeFrom 119 = .ok (.iload 5, 2) ∧ 119 + 2 = 121 := ⟨by decide +kernel, rfl⟩
theorem iX6_comeFrom_121 : decode cX6_comeFrom 121 = .ok (.imul, 1) ∧ 121 + 1 = 122 := ⟨by decide +kernel, rfl⟩
theorem iX6_comeFrom_122 : decode cX6_comeFrom 122 = .ok (.iload 9, 2) ∧ 122 + 2 = 124 := ⟨by decide +kernel, rfl⟩
theorem iX6_comeFrom_124 : decode cX6_comeFrom 124 = .ok (.iadd, 1) ∧ 124 + 1 = 125 := ⟨by decide +kernel, rfl⟩
theorem iX6_comeFrom_125 : decode cX6_comeFrom 125 = .ok (.aload_n 0, 1) ∧ 125 + 1 = 126 := ⟨by decide +kernel, rfl⟩
theorem iX6_comeFrom_126 : decode cX6_comeFrom 126 = .ok (.getfield 32, 3) ∧ 126 + 3 = 129 := ⟨by decide +kernel, rfl⟩
theorem iX6_comeFrom_129 : decode cX6_comeFrom 129 = .ok (.iload_n 1, 1) ∧ 129 + 1 = 130 := ⟨by decide +kernel, rfl⟩
theorem iX6_comeFrom_130 : decode cX6_comeFrom 130 = .ok (.iaload, 1) ∧ 130 + 1 = 131 := ⟨by decide +kernel, rfl⟩
theorem iX6_comeFrom_131 : decode cX6_comeFrom 131 = .ok (.iconst 1, 1) ∧ 131 + 1 = 132 := ⟨by decide +kernel, rfl⟩
theorem iX6_comeFrom_132 : decode cX6_comeFrom 132 = .ok (.iadd, 1) ∧ 132 + 1 = 133 := ⟨by decide +kernel, rfl⟩
theorem iX6_comeFrom_133 : decode cX6_comeFrom 133 = .ok (.invokevirtual 201, 3) ∧ 133 + 3 = 136 := ⟨by decide +kernel, rfl⟩
theorem iX6_comeFrom_136 : decode cX6_comeFrom 136 = .ok (.iinc 9 1, 3) ∧ 136 + 3 = 139 := ⟨by decide +kernel, rfl⟩
theorem iX6_comeFrom_139 : decode cX6_comeFrom 139 = .ok (.goto (-72), 3) ∧ 139 + 3 = 142 := ⟨by decide +kernel, rfl⟩
theorem iX6_comeFrom_142 : decode cX6_comeFrom 142 = .ok (.return_, 1) ∧ 142 + 1 = 143 := ⟨by decide +kernel, rfl⟩
theorem iX6_tradeNow_0 : decode cX6_tradeNow 0 = .ok (.aload_n 0, 1) ∧ 0 + 1 = 1 := ⟨by decide +kernel, rfl⟩
theorem iX6_tradeNow_1 : decode cX6_tradeNow 1 = .ok (.invokevirtual 151, 3) ∧ 1 + 3 = 4 := ⟨by decide +kernel, rfl⟩
theorem iX6_tradeNow_4 : decode cX6_tradeNow 4 = .ok (.iconst 1, 1) ∧ 4 + 1 = 5 := ⟨by decide +kernel, rfl⟩
theorem iX6_tradeNow_5 : decode cX6_tradeNow 5 = .ok (.aload_n 0, 1) ∧ 5 + 1 = 6 := ⟨by decide +kernel, rfl⟩
theorem iX6_tradeNow_6 : decode cX6_tradeNow 6 = .ok (.getfield 13, 3) ∧ 6 + 3 = 9 := ⟨by decide +kernel, rfl⟩
theorem iX6_tradeNow_9 : decode cX6_tradeNow 9 = .ok (.iload_n 1, 1) ∧ 9 + 1 = 10 := ⟨by decide +kernel, rfl⟩
theorem iX6_tradeNow_10 : decode cX6_tradeNow 10 = .ok (.iaload, 1) ∧ 10 + 1 = 11 := ⟨by decide +kernel, rfl⟩
theorem iX6_tradeNow_11 : decode cX6_tradeNow 11 = .ok (.ishl, 1) ∧ 11 + 1 = 12 := ⟨by decide +kernel, rfl⟩
theorem iX6_tradeNow_12 : decode cX6_tradeNow 12 = .ok (.iconst 1, 1) ∧ 12 + 1 = 13 := ⟨by decide +kernel, rfl⟩
theorem iX6_tradeNow_13 : decode cX6_tradeNow 13 = .ok (.aload_n 0, 1) ∧ 13 + 1 = 14 := ⟨by decide +kernel, rfl⟩
theorem iX6_tradeNow_14 : decode cX6_tradeNow 14 = .ok (.getfield 13, 3) ∧ 14 + 3 = 17 := ⟨by decide +kernel, rfl⟩
theorem iX6_tradeNow_17 : decode cX6_tradeNow 17 = .ok (.iload_n 2, 1) ∧ 17 + 1 = 18 := ⟨by decide +kernel, rfl⟩
theorem iX6_tradeNow_18 : decode cX6_tradeNow 18 = .ok (.iaload, 1) ∧ 18 + 1 = 19 := ⟨by decide +kernel, rfl⟩
theorem iX6_tradeNow_19 : decode cX6_tradeNow 19 = .ok (.ishl, 1) ∧ 19 + 1 = 20 := ⟨by decide +kernel, rfl⟩
theorem iX6_tradeNow_20 : decode cX6_tradeNow 20 = .ok (.ior, 1) ∧ 20 + 1 = 21 := ⟨by decide +kernel, rfl⟩
theorem iX6_tradeNow_21 : decode cX6_tradeNow 21 = .ok (.iconst (-1), 1) ∧ 21 + 1 = 22 := ⟨by decide +kernel, rfl⟩
theorem iX6_tradeNow_22 : decode cX6_tradeNow 22 = .ok (.ixor, 1) ∧ 22 + 1 = 23 := ⟨by decide +kernel, rfl⟩
theorem iX6_tradeNow_23 : decode cX6_tradeNow 23 = .ok (.iand, 1) ∧ 23 + 1 = 24 := ⟨by decide +kernel, rfl⟩
theorem iX6_tradeNow_24 : decode cX6_tradeNow 24 = .ok (.istore_n 3, 1) ∧ 24 + 1 = 25 := ⟨by decide +kernel, rfl⟩
theorem iX6_tradeNow_25 : decode cX6_tradeNow 25 = .ok (.iconst 0, 1) ∧ 25 + 1 = 26 := ⟨by decide +kernel, rfl⟩
theorem iX6_tradeNow_26 : decode cX6_tradeNow 26 = .ok (.istore 4, 2) ∧ 26 + 2 = 28 := ⟨by decide +kernel, rfl⟩
theorem iX6_tradeNow_28 : decode cX6_tradeNow 28 = .ok (.iload 4, 2) ∧ 28 + 2 = 30 := ⟨by decide +kernel, rfl⟩
theorem iX6_tradeNow_30 : decode cX6_tradeNow 30 = .ok (.sipush 144, 3) ∧ 30 + 3 = 33 := ⟨by decide +kernel, rfl⟩
theorem iX6_tradeNow_33 : decode cX6_tradeNow 33 = .ok (.if_icmp .ge 18, 3) ∧ 33 + 3 = 36 := ⟨by decide +kernel, rfl⟩
theorem iX6_tradeNow_36 : decode cX6_tradeNow 36 = .ok (.aload_n 0, 1) ∧ 36 + 1 = 37 := ⟨by decide +kernel, rfl⟩
theorem iX6_tradeNow_37 : decode cX6_tradeNow 37 = .ok (.getfield 32, 3) ∧ 37 + 3 = 40 := ⟨by decide +kernel, rfl⟩
theorem iX6_tradeNow_40 : decode cX6_tradeNow 40 = .ok (.iload 4, 2) ∧ 40 + 2 = 42 := ⟨by decide +kernel, rfl⟩
theorem iX6_tradeNow_42 : decode cX6_tradeNow 42 = .ok (.ldc 197, 2) ∧ 42 + 2 = 44 := ⟨by decide +kernel, rfl⟩
theorem iX6_tradeNow_44 : decode cX6_tradeNow 44 = .ok (.iastore, 1) ∧ 44 + 1 = 45 := ⟨by decide +kernel, rfl⟩
theorem iX6_tradeNow_45 : decode cX6_tradeNow 45 = .ok (.iinc 4 1, 3) ∧ 45 + 3 = 48 := ⟨by decide +kernel, rfl⟩
theorem iX6_tradeNow_48 : decode cX6_tradeNow 48 = .ok (.goto (-20), 3) ∧ 48 + 3 = 51 := ⟨by decide +kernel, rfl⟩
theorem iX6_tradeNow_51 : decode cX6_tradeNow 51 = .ok (.aload_n 0, 1) ∧ 51 + 1 = 52 := ⟨by decide +kernel, rfl⟩
theorem iX6_tradeNow_52 : decode cX6_tradeNow 52 = .ok (.iconst 0, 1) ∧ 52 + 1 = 53 := ⟨by decide +kernel, rfl⟩
theorem iX6_tradeNow_53 : decode cX6_tradeNow 53 = .ok (.putfield 198, 3) ∧ 53 + 3 = 56 := ⟨by decide +kernel, rfl⟩
theorem iX6_tradeNow_56 : decode cX6_tradeNow 56 = .ok (.aload_n 0, 1) ∧ 56 + 1 = 57 := ⟨by decide +kernel, rfl⟩
theorem iX6_tradeNow_57 : decode cX6_tradeNow 57 = .ok (.bipush 12, 2) ∧ 57 + 2 = 59 := ⟨by decide +kernel, rfl⟩
theorem iX6_tradeNow_59 : decode cX6_tradeNow 59 = .ok (.aload_n 0, 1) ∧ 59 + 1 = 60 := ⟨by decide +kernel, rfl⟩
theorem iX6_tradeNow_60 : decode cX6_tradeNow 60 = .ok (.getfield 13, 3) ∧ 60 + 3 = 63 := ⟨by decide +kernel, rfl⟩
theorem iX6_tradeNow_63 : decode cX6_tradeNow 63 = .ok (.iload_n 1, 1) ∧ 63 + 1 = 64 := ⟨by decide +kernel, rfl⟩
theorem iX6_tradeNow_64 : decode cX6_tradeNow 64 = .ok (.iaload, 1) ∧ 64 + 1 = 65 := ⟨by decide +kernel, rfl⟩
theorem iX6_tradeNow_65 : decode cX6_tradeNow 65 = .ok (.imul, 1) ∧ 65 + 1 = 66 := ⟨by decide +kernel, rfl⟩
theorem iX6_tradeNow_66 : decode cX6_tradeNow 66 = .ok (.aload_n 0, 1) ∧ 66 + 1 = 67 := ⟨by decide +kernel, rfl⟩
theorem iX6_tradeNow_67 : decode cX6_tradeNow 67 = .ok (.getfield 13, 3) ∧ 67 + 3 = 70 := ⟨by decide +kernel, rfl⟩
theorem iX6_tradeNow_70 : decode cX6_tradeNow 70 = .ok (.iload_n 2, 1) ∧ 70 + 1 = 71 := ⟨by decide +kernel, rfl⟩
theorem iX6_tradeNow_71 : decode cX6_tradeNow 71 = .ok (.iaload, 1) ∧ 71 + 1 = 72 := ⟨by decide +kernel, rfl⟩
theorem iX6_tradeNow_72 : decode cX6_tradeNow 72 = .ok (.iadd, 1) ∧ 72 + 1 = 73 := ⟨by decide +kernel, rfl⟩
theorem iX6_tradeNow_73 : decode cX6_tradeNow 73 = .ok (.iconst 0, 1) ∧ 73 + 1 = 74 := ⟨by decide +kernel, rfl⟩
theorem iX6_tradeNow_74 : decode cX6_tradeNow 74 = .ok (.invokevirtual 201, 3) ∧ 74 + 3 = 77 := ⟨by decide +kernel, rfl⟩
theorem iX6_tradeNow_77 : decode cX6_tradeNow 77 = .ok (.iconst 0, 1) ∧ 77 + 1 = 78 := ⟨by decide +kernel, rfl⟩
theorem iX6_tradeNow_78 : decode cX6_tradeNow 78 = .ok (.istore 4, 2) ∧ 78 + 2 = 80 := ⟨by decide +kernel, rfl⟩
theorem iX6_tradeNow_80 : decode cX6_tradeNow 80 = .ok (.iload 4, 2) ∧ 80 + 2 = 82 := ⟨by decide +kernel, rfl⟩
theorem iX6_tradeNow_82 : decode cX6_tradeNow 82 = .ok (.aload_n 0, 1) ∧ 82 + 1 = 83 := ⟨by decide +kernel, rfl⟩
theorem iX6_tradeNow_83 : decode cX6_tradeNow 83 = .ok (.getfield 198, 3) ∧ 83 + 3 = 86 := ⟨by decide +kernel, rfl⟩
theorem iX6_tradeNow_86 : decode cX6_tradeNow 86 = .ok (.if_icmp .ge 23, 3) ∧ 86 + 3 = 89 := ⟨by decide +kernel, rfl⟩
theorem iX6_tradeNow_89 : decode cX6_tradeNow 89 = .ok (.aload_n 0, 1) ∧ 89 + 1 = 90 := ⟨by decide +kernel, rfl⟩
theorem iX6_tradeNow_90 : decode cX6_tradeNow 90 = .ok (.aload_n 0, 1) ∧ 90 + 1 = 91 := ⟨by decide +kernel, rfl⟩
theorem iX6_tradeNow_91 : decode cX6_tradeNow 91 = .ok (.getfield 35, 3) ∧ 91 + 3 = 94 := ⟨by decide +kernel, rfl⟩
theorem iX6_tradeNow_94 : decode cX6_tradeNow 94 = .ok (.iload 4, 2) ∧ 94 + 2 = 96 := ⟨by decide +kernel, rfl⟩
theorem iX6_tradeNow_96 : decode cX6_tradeNow 96 = .ok (.iaload, 1) ∧ 96 + 1 = 97 := ⟨by decide +kernel, rfl⟩
theorem iX6_tradeNow_97 : decode cX6_tradeNow 97 = .ok (.iload_n 1, 1) ∧ 97 + 1 = 98 := ⟨by decide +kernel, rfl⟩
theorem iX6_tradeNow_98 : decode cX6_tradeNow 98 = .ok (.iload_n 2, 1) ∧ 98 + 1 = 99 := ⟨by decide +kernel, rfl⟩
theorem iX6_tradeNow_99 : decode cX6_tradeNow 99 = .ok (.iload_n 3, 1) ∧ 99 + 1 = 100 := ⟨by decide +kernel, rfl⟩
theorem iX6_tradeNow_100 : decode cX6_tradeNow 100 = .ok (.invokevirtual 205, 3) ∧ 100 + 3 = 103 := ⟨by decide +kernel, rfl⟩
theorem iX6_tradeNow_103 : decode cX6_tradeNow 103 = .ok (.iinc 4 1, 3) ∧ 103 + 3 = 106 := ⟨by decide +kernel, rfl⟩
theorem iX6_tradeNow_106 : decode cX6_tradeNow 106 = .ok (.goto (-26), 3) ∧ 106 + 3 = 109 := ⟨by decide +kernel, rfl⟩
theorem iX6_tradeNow_109 : decode cX6_tradeNow 109 = .ok (.aload_n 0, 1) ∧ 109 + 1 = 110 := ⟨by decide +kernel, rfl⟩
theorem iX6_tradeNow_110 : decode cX6_tradeNow 110 = .ok (.getfield 32, 3) ∧ 110 + 3 = 113 := ⟨by decide +kernel, rfl⟩
theorem iX6_tradeNow_113 : decode cX6_tradeNow 113 = .ok (.bipush 12, 2) ∧ 113 + 2 = 115 := ⟨by decide +kernel, rfl⟩
theorem iX6_tradeNow_115 : decode cX6_tradeNow 115 = .ok (.aload_n 0, 1) ∧ 115 + 1 = 116 := ⟨by decide +kernel, rfl⟩
theorem iX6_tradeNow_116 : decode cX6_tradeNow 116 = .ok (.getfield 13, 3) ∧ 116 + 3 = 119 := ⟨by decide +kernel, rfl⟩
theorem iX6_tradeNow_119 : decode cX6_tradeNow 119 = .ok (.iload_n 2, 1) ∧ 119 + 1 = 120 := ⟨by decide +kernel, rfl⟩
theorem iX6_tradeNow_120 : decode cX6_tradeNow 120 = .ok (.iaload, 1) ∧ 120 + 1 = 121 := ⟨by decide +kernel, rfl⟩
theorem iX6_tradeNow_121 : decode cX6_tradeNow 121 = .ok (.imul, 1) ∧ 121 + 1 = 122 := ⟨by decide +kernel, rfl⟩
theorem iX6_tradeNow_122 : decode cX6_tradeNow 122 = .ok (.aload_n 0, 1) ∧ 122 + 1 = 123 := ⟨by decide +kernel, rfl⟩
theorem iX6_tradeNow_123 : decode cX6_tradeNow 123 = .ok (.getfield 13, 3) ∧ 123 + 3 = 126 := ⟨by decide +kernel, rfl⟩
theorem iX6_tradeNow_126 : decode cX6_tradeNow 126 = .ok (.iload_n 1, 1) ∧ 126 + 1 = 127 := ⟨by decide +kernel, rfl⟩
theorem iX6_tradeNow_127 : decode cX6_tradeNow 127 = .ok (.iaload, 1) ∧ 127 + 1 = 128 := ⟨by decide +kernel, rfl⟩
theorem iX6_tradeNow_128 : decode cX6_tradeNow 128 = .ok (.iadd, 1) ∧ 128 + 1 = 129 := ⟨by decide +kernel, rfl⟩
theorem iX6_tradeNow_129 : decode cX6_tradeNow 129 = .ok (.iaload, 1) ∧ 129 + 1 = 130 := ⟨by decide +kernel, rfl⟩
theorem iX6_tradeNow_130 : decode cX6_tradeNow 130 = .ok (.istore 4, 2) ∧ 130 + 2 = 132 := ⟨by decide +kernel, rfl⟩
theorem iX6_tradeNow_132 : decode cX6_tradeNow 132 = .ok (.iload 4, 2) ∧ 132 + 2 = 134 := ⟨by decide +kernel, rfl⟩
theorem iX6_tradeNow_134 : decode cX6_tradeNow 134 = .ok (.ldc 197, 2) ∧ 134 + 2 = 136 := ⟨by decide +kernel, rfl⟩
theorem iX6_tradeNow_136 : decode cX6_tradeNow 136 = .ok (.if_icmp .ne 7, 3) ∧ 136 + 3 = 139 := ⟨by decide +kernel, rfl⟩
theorem iX6_tradeNow_139 : decode cX6_tradeNow 139 = .ok (.iconst (-1), 1) ∧ 139 + 1 = 140 := ⟨by decide +kernel, rfl⟩
theorem iX6_tradeNow_140 : decode cX6_tradeNow 140 = .ok (.goto 5, 3) ∧ 140 + 3 = 143 := ⟨by decide +kernel, rfl⟩
theorem iX6_tradeNow_143 : decode cX6_tradeNow 143 = .ok (.iload 4, 2) ∧ 143 + 2 = 145 := ⟨by decide +kernel, rfl⟩
theorem iX6_tradeNow_145 : decode cX6_tradeNow 145 = .ok (.ireturn, 1) ∧ 145 + 1 = 146 := ⟨by decide +kernel, rfl⟩
theorem iX6_trade_0 : decode cX6_trade 0 = .ok (.aload_n 0, 1) ∧ 0 + 1 = 1 := ⟨by decide +kernel, rfl⟩
theorem iX6_trade_1 : decode cX6_trade 1 = .ok (.iload_n 1, 1) ∧ 1 + 1 = 2 := ⟨by decide +kernel, rfl⟩
theorem iX6_trade_2 : decode cX6_trade 2 = .ok (.invokevirtual 166, 3) ∧ 2 + 3 = 5 := ⟨by decide +kernel, rfl⟩
theorem iX6_trade_5 : decode cX6_trade 5 = .ok (.ifCond .eq 25, 3) ∧ 5 + 3 = 8 := ⟨by decide +kernel, rfl⟩
theorem iX6_trade_8 : decode cX6_trade 8 = .ok (.aload_n 0, 1) ∧ 8 + 1 = 9 := ⟨by decide +kernel, rfl⟩
theorem iX6_trade_9 : decode cX6_trade 9 = .ok (.iload_n 2, 1) ∧ 9 + 1 = 10 := ⟨by decide +kernel, rfl⟩
theorem iX6_trade_10 : decode cX6_trade 10 = .ok (.invokevirtual 166, 3) ∧ 10 + 3 = 13 := ⟨by decide +kernel, rfl⟩
theorem iX6_trade_13 : decode cX6_trade 13 = .ok (.ifCond .eq 17, 3) ∧ 13 + 3 = 16 := ⟨by decide +kernel, rfl⟩
theorem iX6_trade_16 : decode cX6_trade 16 = .ok (.iload_n 1, 1) ∧ 16 + 1 = 17 := ⟨by decide +kernel, rfl⟩
theorem iX6_trade_17 : decode cX6_trade 17 = .ok (.iload_n 2, 1) ∧ 17 + 1 = 18 := ⟨by decide +kernel, rfl⟩
theorem iX6_trade_18 : decode cX6_trade 18 = .ok (.if_icmp .eq 12, 3) ∧ 18 + 3 = 21 := ⟨by decide +kernel, rfl⟩
theorem iX6_trade_21 : decode cX6_trade 21 = .ok (.aload_n 0, 1) ∧ 21 + 1 = 22 := ⟨by decide +kernel, rfl⟩
theorem iX6_trade_22 : decode cX6_trade 22 = .ok (.iload_n 1, 1) ∧ 22 + 1 = 23 := ⟨by decide +kernel, rfl⟩
theorem iX6_trade_23 : decode cX6_trade 23 = .ok (.iload_n 2, 1) ∧ 23 + 1 = 24 := ⟨by decide +kernel, rfl⟩
theorem iX6_trade_24 : decode cX6_trade 24 = .ok (.invokevirtual 209, 3) ∧ 24 + 3 = 27 := ⟨by decide +kernel, rfl⟩
theorem iX6_trade_27 : decode cX6_trade 27 = .ok (.goto 5, 3) ∧ 27 + 3 = 30 := ⟨by decide +kernel, rfl⟩
theorem iX6_trade_30 : decode cX6_trade 30 = .ok (.bipush (-101), 2) ∧ 30 + 2 = 32 := ⟨by decide +kernel, rfl⟩
theorem iX6_trade_32 : decode cX6_trade 32 = .ok (.ireturn, 1) ∧ 32 + 1 = 33 := ⟨by decide +kernel, rfl⟩
theorem iX6_goOn_0 : decode cX6_goOn 0 = .ok (.iconst 0, 1) ∧ 0 + 1 = 1 := ⟨by decide +kernel, rfl⟩
theorem iX6_goOn_1 : decode cX6_goOn 1 = .ok (.istore 4, 2) ∧ 1 + 2 = 3 := ⟨by decide +kernel, rfl⟩
theorem iX6_goOn_3 : decode cX6_goOn 3 = .ok (.iload 4, 2) ∧ 3 + 2 = 5 := ⟨by decide +kernel, rfl⟩
theorem iX6_goOn_5 : decode cX6_goOn 5 = .ok (.aload_n 0, 1) ∧ 5 + 1 = 6 := ⟨by decide +kernel, rfl⟩
theorem iX6_goOn_6 : decode cX6_goOn 6 = .ok (.invokevirtual 131, 3) ∧ 6 + 3 = 9 := ⟨by decide +kernel, rfl⟩
theorem iX6_goOn_9 : decode cX6_goOn 9 = .ok (.if_icmp .ge 84, 3) ∧ 9 + 3 = 12 := ⟨by decide +kernel, rfl⟩
theorem iX6_goOn_12 : decode cX6_goOn 12 = .ok (.aload_n 0, 1) ∧ 12 + 1 = 13 := ⟨by decide +kernel, rfl⟩
theorem iX6_goOn_13 : decode cX6_goOn 13 = .ok (.getfield 38, 3) ∧ 13 + 3 = 16 := ⟨by decide +kernel, rfl⟩
theorem iX6_goOn_16 : decode cX6_goOn 16 = .ok (.iload_n 2, 1) ∧ 16 + 1 = 17 := ⟨by decide +kernel, rfl⟩
theorem iX6_goOn_17 : decode cX6_goOn 17 = .ok (.iaload, 1) ∧ 17 + 1 = 18 := ⟨by decide +kernel, rfl⟩
theorem iX6_goOn_18 : decode cX6_goOn 18 = .ok (.iload 4, 2) ∧ 18 + 2 = 20 := ⟨by decide +kernel, rfl⟩
theorem iX6_goOn_20 : decode cX6_goOn 20 = .ok (.invokestatic 92, 3) ∧ 20 + 3 = 23 := ⟨by decide +kernel, rfl⟩
theorem iX6_goOn_23 : decode cX6_goOn 23 = .ok (.ifCond .eq 64, 3) ∧ 23 + 3 = 26 := ⟨by decide +kernel, rfl⟩
theorem iX6_goOn_26 : decode cX6_goOn 26 = .ok (.aload_n 0, 1) ∧ 26 + 1 = 27 := ⟨by decide +kernel, rfl⟩
theorem iX6_goOn_27 : decode cX6_goOn 27 = .ok (.iload_n 1, 1) ∧ 27 + 1 = 28 := ⟨by decide +kernel, rfl⟩
theorem iX6_goOn_28 : decode cX6_goOn 28 = .ok (.iload 4, 2) ∧ 28 + 2 = 30 := ⟨by decide +kernel, rfl⟩
theorem iX6_goOn_30 : decode cX6_goOn 30 = .ok (.invokevirtual 145, 3) ∧ 30 + 3 = 33 := ⟨by decide +kernel, rfl⟩
theorem iX6_goOn_33 : decode cX6_goOn 33 = .ok (.iload_n 3, 1) ∧ 33 + 1 = 34 := ⟨by decide +kernel, rfl⟩
theorem iX6_goOn_34 : decode cX6_goOn 34 = .ok (.iand, 1) ∧ 34 + 1 = 35 := ⟨by decide +kernel, rfl⟩
theorem iX6_goOn_35 : decode cX6_goOn 35 = .ok (.iload_n 2, 1) ∧ 35 + 1 = 36 := ⟨by decide +kernel, rfl⟩
theorem iX6_goOn_36 : decode cX6_goOn 36 = .ok (.iconst (-1), 1) ∧ 36 + 1 = 37 := ⟨by decide +kernel, rfl⟩
theorem iX6_goOn_37 : decode cX6_goOn 37 = .ok (.ixor, 1) ∧ 37 + 1 = 38 := ⟨by decide +kernel, rfl⟩
theorem iX6_goOn_38 : decode cX6_goOn 38 = .ok (.iand, 1) ∧ 38 + 1 = 39 := ⟨by decide +kernel, rfl⟩
theorem iX6_goOn_39 : decode cX6_goOn 39 = .ok (.istore 5, 2) ∧ 39 + 2 = 41 := ⟨by decide +kernel, rfl⟩
theorem iX6_goOn_41 : decode cX6_goOn 41 = .ok (.iconst 0, 1) ∧ 41 + 1 = 42 := ⟨by decide +kernel, rfl⟩
theorem iX6_goOn_42 : decode cX6_goOn 42 = .ok (.istore 6, 2) ∧ 42 + 2 = 44 := ⟨by decide +kernel, rfl⟩
theorem iX6_goOn_44 : decode cX6_goOn 44 = .ok (.iload 6, 2) ∧ 44 + 2 = 46 := ⟨by decide +kernel, rfl⟩
theorem iX6_goOn_46 : decode cX6_goOn 46 = .ok (.aload_n 0, 1) ∧ 46 + 1 = 47 := ⟨by decide +kernel, rfl⟩
theorem iX6_goOn_47 : decode cX6_goOn 47 = .ok (.invokevirtual 131, 3) ∧ 47 + 3 = 50 := ⟨by decide +kernel, rfl⟩
theorem iX6_goOn_50 : decode cX6_goOn 50 = .ok (.if_icmp .ge 37, 3) ∧ 50 + 3 = 53 := ⟨by decide +kernel, rfl⟩
theorem iX6_goOn_53 : decode cX6_goOn 53 = .ok (.iload 5, 2) ∧ 53 + 2 = 55 := ⟨by decide +kernel, rfl⟩
theorem iX6_goOn_55 : decode cX6_goOn 55 = .ok (.iload 6, 2) ∧ 55 + 2 = 57 := ⟨by decide +kernel, rfl⟩
theorem iX6_goOn_57 : decode cX6_goOn 57 = .ok (.invokestatic 92, 3) ∧ 57 + 3 = 60 := ⟨by decide +kernel, rfl⟩
theorem iX6_goOn_60 : decode cX6_goOn 60 = .ok (.ifCond .eq 21, 3) ∧ 60 + 3 = 63 := ⟨by decide +kernel, rfl⟩
theorem iX6_goOn_63 : decode cX6_goOn 63 = .ok (.aload_n 0, 1) ∧ 63 + 1 = 64 := ⟨by decide +kernel, rfl⟩
theorem iX6_goOn_64 : decode cX6_goOn 64 = .ok (.getfield 38, 3) ∧ 64 + 3 = 67 := ⟨by decide +kernel, rfl⟩
theorem iX6_goOn_67 : decode cX6_goOn 67 = .ok (.iload_n 2, 1) ∧ 67 + 1 = 68 := ⟨by decide +kernel, rfl⟩
theorem iX6_goOn_68 : decode cX6_goOn 68 = .ok (.iconst 1, 1) ∧ 68 + 1 = 69 := ⟨by decide +kernel, rfl⟩
theorem iX6_goOn_69 : decode cX6_goOn 69 = .ok (.iload 6, 2) ∧ 69 + 2 = 71 := ⟨by decide +kernel, rfl⟩
theorem iX6_goOn_71 : decode cX6_goOn 71 = .ok (.ishl, 1) ∧ 71 + 1 = 72 := ⟨by decide +kernel, rfl⟩
theorem iX6_goOn_72 : decode cX6_goOn 72 = .ok (.ior, 1) ∧ 72 + 1 = 73 := ⟨by decide +kernel, rfl⟩
theorem iX6_goOn_73 : decode cX6_goOn 73 = .ok (.dup2, 1) ∧ 73 + 1 = 74 := ⟨by decide +kernel, rfl⟩
theorem iX6_goOn_74 : decode cX6_goOn 74 = .ok (.iaload, 1) ∧ 74 + 1 = 75 := ⟨by decide +kernel, rfl⟩
theorem iX6_goOn_75 : decode cX6_goOn 75 = .ok (.iconst 1, 1) ∧ 75 + 1 = 76 := ⟨by decide +kernel, rfl⟩
theorem iX6_goOn_76 : decode cX6_goOn 76 = .ok (.iload 6, 2) ∧ 76 + 2 = 78 := ⟨by decide +kernel, rfl⟩
theorem iX6_goOn_78 : decode cX6_goOn 78 = .ok (.ishl, 1) ∧ 78 + 1 = 79 := ⟨by decide +kernel, rfl⟩
theorem iX6_goOn_79 : decode cX6_goOn 79 = .ok (.ior, 1) ∧ 79 + 1 = 80 := ⟨by decide +kernel, rfl⟩
theorem iX6_goOn_80 : decode cX6_goOn 80 = .ok (.iastore, 1) ∧ 80 + 1 = 81 := ⟨by decide +kernel, rfl⟩
theorem iX6_goOn_81 : decode cX6_goOn 81 = .ok (.iinc 6 1, 3) ∧ 81 + 3 = 84 := ⟨by decide +kernel, rfl⟩
theorem iX6_goOn_84 : decode cX6_goOn 84 = .ok (.goto (-40), 3) ∧ 84 + 3 = 87 := ⟨by decide +kernel, rfl⟩
theorem iX6_goOn_87 : decode cX6_goOn 87 = .ok (.iinc 4 1, 3) ∧ 87 + 3 = 90 := ⟨by decide +kernel, rfl⟩
theorem iX6_goOn_90 : decode cX6_goOn 90 = .ok (.goto (-87), 3) ∧ 90 + 3 = 93 := ⟨by decide +kernel, rfl⟩
theorem iX6_goOn_93 : decode cX6_goOn 93 = .ok (.return_, 1) ∧ 93 + 1 = 94 := ⟨by decide +kernel, rfl⟩
theorem iX6_longestBy_0 : decode cX6_longestBy 0 = .ok (.iconst 0, 1) ∧ 0 + 1 = 1 := ⟨by decide +kernel, rfl⟩
theorem iX6_longestBy_1 : decode cX6_longestBy 1 = .ok (.istore_n 3, 1) ∧ 1 + 1 = 2 := ⟨by decide +kernel, rfl⟩
theorem iX6_longestBy_2 : decode cX6_longestBy 2 = .ok (.iload_n 3, 1) ∧ 2 + 1 = 3 := ⟨by decide +kernel, rfl⟩
theorem iX6_longestBy_3 : decode cX6_longestBy 3 = .ok (.sipush 4096, 3) ∧ 3 + 3 = 6 := ⟨by decide +kernel, rfl⟩
theorem iX6_longestBy_6 : decode cX6_longestBy 6 = .ok (.if_icmp .ge 16, 3) ∧ 6 + 3 = 9 := ⟨by decide +kernel, rfl⟩
theorem iX6_longestBy_9 : decode cX6_longestBy 9 = .ok (.aload_n 0, 1) ∧ 9 + 1 = 10 := ⟨by decide +kernel, rfl⟩
theorem iX6_longestBy_10 : decode cX6_longestBy 10 = .ok (.getfield 38, 3) ∧ 10 + 3 = 13 := ⟨by decide +kernel, rfl⟩
theorem iX6_longestBy_13 : decode cX6_longestBy 13 = .ok (.iload_n 3, 1) ∧ 13 + 1 = 14 := ⟨by decide +kernel, rfl⟩
theorem iX6_longestBy_14 : decode cX6_longestBy 14 = .ok (.iconst 0, 1) ∧ 14 + 1 = 15 := ⟨by decide +kernel, rfl⟩
theorem iX6_longestBy_15 : decode cX6_longestBy 15 = .ok (.iastore, 1) ∧ 15 + 1 = 16 := ⟨by decide +kernel, rfl⟩
theorem iX6_longestBy_16 : decode cX6_longestBy 16 = .ok (.iinc 3 1, 3) ∧ 16 + 3 = 19 := ⟨by decide +kernel, rfl⟩
theorem iX6_longestBy_19 : decode cX6_longestBy 19 = .ok (.goto (-17), 3) ∧ 19 + 3 = 22 := ⟨by decide +kernel, rfl⟩
theorem iX6_longestBy_22 : decode cX6_longestBy 22 = .ok (.iconst 1, 1) ∧ 22 + 1 = 23 := ⟨by decide +kernel, rfl⟩
theorem iX6_longestBy_23 : decode cX6_longestBy 23 = .ok (.aload_n 0, 1) ∧ 23 + 1 = 24 := ⟨by decide +kernel, rfl⟩
theorem iX6_longestBy_24 : decode cX6_longestBy 24 = .ok (.getfield 13, 3) ∧ 24 + 3 = 27 := ⟨by decide +kernel, rfl⟩
theorem iX6_longestBy_27 : decode cX6_longestBy 27 = .ok (.iload_n 1, 1) ∧ 27 + 1 = 28 := ⟨by decide +kernel, rfl⟩
theorem iX6_longestBy_28 : decode cX6_longestBy 28 = .ok (.iaload, 1) ∧ 28 + 1 = 29 := ⟨by decide +kernel, rfl⟩
theorem iX6_longestBy_29 : decode cX6_longestBy 29 = .ok (.ishl, 1) ∧ 29 + 1 = 30 := ⟨by decide +kernel, rfl⟩
theorem iX6_longestBy_30 : decode cX6_longestBy 30 = .ok (.iconst 1, 1) ∧ 30 + 1 = 31 := ⟨by decide +kernel, rfl⟩
theorem iX6_longestBy_31 : decode cX6_longestBy 31 = .ok (.iload_n 2, 1) ∧ 31 + 1 = 32 := ⟨by decide +kernel, rfl⟩
theorem iX6_longestBy_32 : decode cX6_longestBy 32 = .ok (.ishl, 1) ∧ 32 + 1 = 33 := ⟨by decide +kernel, rfl⟩
theorem iX6_longestBy_33 : decode cX6_longestBy 33 = .ok (.ior, 1) ∧ 33 + 1 = 34 := ⟨by decide +kernel, rfl⟩
theorem iX6_longestBy_34 : decode cX6_longestBy 34 = .ok (.istore_n 3, 1) ∧ 34 + 1 = 35 := ⟨by decide +kernel, rfl⟩
theorem iX6_longestBy_35 : decode cX6_longestBy 35 = .ok (.aload_n 0, 1) ∧ 35 + 1 = 36 := ⟨by decide +kernel, rfl⟩
theorem iX6_longestBy_36 : decode cX6_longestBy 36 = .ok (.getfield 116, 3) ∧ 36 + 3 = 39 := ⟨by decide +kernel, rfl⟩
theorem iX6_longestBy_39 : decode cX6_longestBy 39 = .ok (.aload_n 0, 1) ∧ 39 + 1 = 40 := ⟨by decide +kernel, rfl⟩
theorem iX6_longestBy_40 : decode cX6_longestBy 40 = .ok (.iload_n 1, 1) ∧ 40 + 1 = 41 := ⟨by decide +kernel, rfl⟩
theorem iX6_longestBy_41 : decode cX6_longestBy 41 = .ok (.invokevirtual 191, 3) ∧ 41 + 3 = 44 := ⟨by decide +kernel, rfl⟩
theorem iX6_longestBy_44 : decode cX6_longestBy 44 = .ok (.iconst (-1), 1) ∧ 44 + 1 = 45 := ⟨by decide +kernel, rfl⟩
theorem iX6_longestBy_45 : decode cX6_longestBy 45 = .ok (.ixor, 1) ∧ 45 + 1 = 46 := ⟨by decide +kernel, rfl⟩
theorem iX6_longestBy_46 : decode cX6_longestBy 46 = .ok (.iand, 1) ∧ 46 + 1 = 47 := ⟨by decide +kernel, rfl⟩
theorem iX6_longestBy_47 : decode cX6_longestBy 47 = .ok (.istore 4, 2) ∧ 47 + 2 = 49 := ⟨by decide +kernel, rfl⟩
theorem iX6_longestBy_49 : decode cX6_longestBy 49 = .ok (.aload_n 0, 1) ∧ 49 + 1 = 50 := ⟨by decide +kernel, rfl⟩
theorem iX6_longestBy_50 : decode cX6_longestBy 50 = .ok (.getfield 38, 3) ∧ 50 + 3 = 53 := ⟨by decide +kernel, rfl⟩
theorem iX6_longestBy_53 : decode cX6_longestBy 53 = .ok (.iload_n 3, 1) ∧ 53 + 1 = 54 := ⟨by decide +kernel, rfl⟩
theorem iX6_longestBy_54 : decode cX6_longestBy 54 = .ok (.iconst 1, 1) ∧ 54 + 1 = 55 := ⟨by decide +kernel, rfl⟩
theorem iX6_longestBy_55 : decode cX6_longestBy 55 = .ok (.iload_n 2, 1) ∧ 55 + 1 = 56 := ⟨by decide +kernel, rfl⟩
theorem iX6_longestBy_56 : decode cX6_longestBy 56 = .ok (.ishl, 1) ∧ 56 + 1 = 57 := ⟨by decide +kernel, rfl⟩
theorem iX6_longestBy_57 : decode cX6_longestBy 57 = .ok (.iastore, 1) ∧ 57 + 1 = 58 := ⟨by decide +kernel, rfl⟩
theorem iX6_longestBy_58 : decode cX6_longestBy 58 = .ok (.iconst 0, 1) ∧ 58 + 1 = 59 := ⟨by decide +kernel, rfl⟩
theorem iX6_longestBy_59 : decode cX6_longestBy 59 = .ok (.istore 5, 2) ∧ 59 + 2 = 61 := ⟨by decide +kernel, rfl⟩
theorem iX6_longestBy_61 : decode cX6_longestBy 61 = .ok (.iload_n 3, 1) ∧ 61 + 1 = 62 := ⟨by decide +kernel, rfl⟩
theorem iX6_longestBy_62 : decode cX6_longestBy 62 = .ok (.istore 6, 2) ∧ 62 + 2 = 64 := ⟨by decide +kernel, rfl⟩
theorem iX6_longestBy_64 : decode cX6_longestBy 64 = .ok (.iload 6, 2) ∧ 64 + 2 = 66 := ⟨by decide +kernel, rfl⟩
theorem iX6_longestBy_66 : decode cX6_longestBy 66 = .ok (.iconst 1, 1) ∧ 66 + 1 = 67 := ⟨by decide +kernel, rfl⟩
theorem iX6_longestBy_67 : decode cX6_longestBy 67 = .ok (.aload_n 0, 1) ∧ 67 + 1 = 68 := ⟨by decide +kernel, rfl⟩
theorem iX6_longestBy_68 : decode cX6_longestBy 68 = .ok (.invokevirtual 131, 3) ∧ 68 + 3 = 71 := ⟨by decide +kernel, rfl⟩
theorem iX6_longestBy_71 : decode cX6_longestBy 71 = .ok (.ishl, 1) ∧ 71 + 1 = 72 := ⟨by decide +kernel, rfl⟩
theorem iX6_longestBy_72 : decode cX6_longestBy 72 = .ok (.if_icmp .ge 55, 3) ∧ 72 + 3 = 75 := ⟨by decide +kernel, rfl⟩
theorem iX6_longestBy_75 : decode cX6_longestBy 75 = .ok (.aload_n 0, 1) ∧ 75 + 1 = 76 := ⟨by decide +kernel, rfl⟩
theorem iX6_longestBy_76 : decode cX6_longestBy 76 = .ok (.getfield 38, 3) ∧ 76 + 3 = 79 := ⟨by decide +kernel, rfl⟩
theorem iX6_longestBy_79 : decode cX6_longestBy 79 = .ok (.iload 6, 2) ∧ 79 + 2 = 81 := ⟨by decide +kernel, rfl⟩
theorem iX6_longestBy_81 : decode cX6_longestBy 81 = .ok (.iaload, 1) ∧ 81 + 1 = 82 := ⟨by decide +kernel, rfl⟩
theorem iX6_longestBy_82 : decode cX6_longestBy 82 = .ok (.ifCond .eq 39, 3) ∧ 82 + 3 = 85 := ⟨by decide +kernel, rfl⟩
theorem iX6_longestBy_85 : decode cX6_longestBy 85 = .ok (.iload 6, 2) ∧ 85 + 2 = 87 := ⟨by decide +kernel, rfl⟩
theorem iX6_longestBy_87 : decode cX6_longestBy 87 = .ok (.invokestatic 185, 3) ∧ 87 + 3 = 90 := ⟨by decide +kernel, rfl⟩
theorem iX6_longestBy_90 : decode cX6_longestBy 90 = .ok (.iload 5, 2) ∧ 90 + 2 = 92 := ⟨by decide +kernel, rfl⟩
theorem iX6_longestBy_92 : decode cX6_longestBy 92 = .ok (.if_icmp .le 11, 3) ∧ 92 + 3 = 95 := ⟨by decide +kernel, rfl⟩
theorem iX6_longestBy_95 : decode cX6_longestBy 95 = .ok (.iload 6, 2) ∧ 95 + 2 = 97 := ⟨by decide +kernel, rfl⟩
theorem iX6_longestBy_97 : decode cX6_longestBy 97 = .ok (.invokestatic 185, 3) ∧ 97 + 3 = 100 := ⟨by decide +kernel, rfl⟩
theorem iX6_longestBy_100 : decode cX6_longestBy 100 = .ok (.goto 5, 3) ∧ 100 + 3 = 103 := ⟨by decide +kernel, rfl⟩
theorem iX6_longestBy_103 : decode cX6_longestBy 103 = .ok (.iload 5, 2) ∧ 103 + 2 = 105 := ⟨by decide +kernel, rfl⟩
theorem iX6_longestBy_105 : decode cX6_longestBy 105 = .ok (.istore 5, 2) ∧ 105 + 2 = 107 := ⟨by decide +kernel, rfl⟩
theorem iX6_longestBy_107 : decode cX6_longestBy 107 = .ok (.aload_n 0, 1) ∧ 107 + 1 = 108 := ⟨by decide +kernel, rfl⟩
theorem iX6_longestBy_108 : decode cX6_longestBy 108 = .ok (.aload_n 0, 1) ∧ 108 + 1 = 109 := ⟨by decide +kernel, rfl⟩
theorem iX6_longestBy_109 : decode cX6_longestBy 109 = .ok (.getfield 7, 3) ∧ 109 + 3 = 112 := ⟨by decide +kernel, rfl⟩
theorem iX6_longestBy_112 : decode cX6_longestBy 112 = .ok (.iload_n 1, 1) ∧ 112 + 1 = 113 := ⟨by decide +kernel, rfl⟩
theorem iX6_longestBy_113 : decode cX6_longestBy 113 = .ok (.iaload, 1) ∧ 113 + 1 = 114 := ⟨by decide +kernel, rfl⟩
theorem iX6_longestBy_114 : decode cX6_longestBy 114 = .ok (.iload 6, 2) ∧ 114 + 2 = 116 := ⟨by decide +kernel, rfl⟩
theorem iX6_longestBy_116 : decode cX6_longestBy 116 = .ok (.iload 4, 2) ∧ 116 + 2 = 118 := ⟨by decide +kernel, rfl⟩
theorem iX6_longestBy_118 : decode cX6_longestBy 118 = .ok (.invokevirtual 212, 3) ∧ 118 + 3 = 121 := ⟨by decide +kernel, rfl⟩
theorem iX6_longestBy_121 : decode cX6_longestBy 121 = .ok (.iinc 6 1, 3) ∧ 121 + 3 = 124 := ⟨by decide +kernel, rfl⟩
theorem iX6_longestBy_124 : decode cX6_longestBy 124 = .ok (.goto (-60), 3) ∧ 124 + 3 = 127 := ⟨by decide +kernel, rfl⟩
theorem iX6_longestBy_127 : decode cX6_longestBy 127 = .ok (.iload 5, 2) ∧ 127 + 2 = 129 := ⟨by decide +kernel, rfl⟩
theorem iX6_longestBy_129 : decode cX6_longestBy 129 = .ok (.ireturn, 1) ∧ 129 + 1 = 130 := ⟨by decide +kernel, rfl⟩
theorem iX6_wayOf_0 : decode cX6_wayOf 0 = .ok (.iconst 1, 1) ∧ 0 + 1 = 1 := ⟨by decide +kernel, rfl⟩
theorem iX6_wayOf_1 : decode cX6_wayOf 1 = .ok (.istore_n 3, 1) ∧ 1 + 1 = 2 := ⟨by decide +kernel, rfl⟩
theorem iX6_wayOf_2 : decode cX6_wayOf 2 = .ok (.iconst (-1), 1) ∧ 2 + 1 = 3 := ⟨by decide +kernel, rfl⟩
theorem iX6_wayOf_3 : decode cX6_wayOf 3 = .ok (.istore 4, 2) ∧ 3 + 2 = 5 := ⟨by decide +kernel, rfl⟩
theorem iX6_wayOf_5 : decode cX6_wayOf 5 = .ok (.aload_n 0, 1) ∧ 5 + 1 = 6 := ⟨by decide +kernel, rfl⟩
theorem iX6_wayOf_6 : decode cX6_wayOf 6 = .ok (.iload_n 1, 1) ∧ 6 + 1 = 7 := ⟨by decide +kernel, rfl⟩
theorem iX6_wayOf_7 : decode cX6_wayOf 7 = .ok (.invokevirtual 154, 3) ∧ 7 + 3 = 10 := ⟨by decide +kernel, rfl⟩
theorem iX6_wayOf_10 : decode cX6_wayOf 10 = .ok (.istore 5, 2) ∧ 10 + 2 = 12 := ⟨by decide +kernel, rfl⟩
theorem iX6_wayOf_12 : decode cX6_wayOf 12 = .ok (.iconst 0, 1) ∧ 12 + 1 = 13 := ⟨by decide +kernel, rfl⟩
theorem iX6_wayOf_13 : decode cX6_wayOf 13 = .ok (.istore 6, 2) ∧ 13 + 2 = 15 := ⟨by decide +kernel, rfl⟩
theorem iX6_wayOf_15 : decode cX6_wayOf 15 = .ok (.iload 6, 2) ∧ 15 + 2 = 17 := ⟨by decide +kernel, rfl⟩
theorem iX6_wayOf_17 : decode cX6_wayOf 17 = .ok (.aload_n 0, 1) ∧ 17 + 1 = 18 := ⟨by decide +kernel, rfl⟩
theorem iX6_wayOf_18 : decode cX6_wayOf 18 = .ok (.invokevirtual 131, 3) ∧ 18 + 3 = 21 := ⟨by decide +kernel, rfl⟩
theorem iX6_wayOf_21 : decode cX6_wayOf 21 = .ok (.if_icmp .ge 60, 3) ∧ 21 + 3 = 24 := ⟨by decide +kernel, rfl⟩
theorem iX6_wayOf_24 : decode cX6_wayOf 24 = .ok (.iload 5, 2) ∧ 24 + 2 = 26 := ⟨by decide +kernel, rfl⟩
theorem iX6_wayOf_26 : decode cX6_wayOf 26 = .ok (.iload 6, 2) ∧ 26 + 2 = 28 := ⟨by decide +kernel, rfl⟩
theorem iX6_wayOf_28 : decode cX6_wayOf 28 = .ok (.invokestatic 92, 3) ∧ 28 + 3 = 31 := ⟨by decide +kernel, rfl⟩
theorem iX6_wayOf_31 : decode cX6_wayOf 31 = .ok (.ifCond .eq 13, 3) ∧ 31 + 3 = 34 := ⟨by decide +kernel, rfl⟩
theorem iX6_wayOf_34 : decode cX6_wayOf 34 = .ok (.aload_n 0, 1) ∧ 34 + 1 = 35 := ⟨by decide +kernel, rfl⟩
theorem iX6_wayOf_35 : decode cX6_wayOf 35 = .ok (.iload_n 1, 1) ∧ 35 + 1 = 36 := ⟨by decide +kernel, rfl⟩
theorem iX6_wayOf_36 : decode cX6_wayOf 36 = .ok (.iload 6, 2) ∧ 36 + 2 = 38 := ⟨by decide +kernel, rfl⟩
theorem iX6_wayOf_38 : decode cX6_wayOf 38 = .ok (.invokevirtual 216, 3) ∧ 38 + 3 = 41 := ⟨by decide +kernel, rfl⟩
theorem iX6_wayOf_41 : decode cX6_wayOf 41 = .ok (.goto 4, 3) ∧ 41 + 3 = 44 := ⟨by decide +kernel, rfl⟩
theorem iX6_wayOf_44 : decode cX6_wayOf 44 = .ok (.iconst 0, 1) ∧ 44 + 1 = 45 := ⟨by decide +kernel, rfl⟩
theorem iX6_wayOf_45 : decode cX6_wayOf 45 = .ok (.istore 7, 2) ∧ 45 + 2 = 47 := ⟨by decide +kernel, rfl⟩
theorem iX6_wayOf_47 : decode cX6_wayOf 47 = .ok (.iload 7, 2) ∧ 47 + 2 = 49 := ⟨by decide +kernel, rfl⟩
theorem iX6_wayOf_49 : decode cX6_wayOf 49 = .ok (.iload_n 3, 1) ∧ 49 + 1 = 50 := ⟨by decide +kernel, rfl⟩
theorem iX6_wayOf_50 : decode cX6_wayOf 50 = .ok (.if_icmp .le 8, 3) ∧ 50 + 3 = 53 := ⟨by decide +kernel, rfl⟩
theorem iX6_wayOf_53 : decode cX6_wayOf 53 = .ok (.iload 6, 2) ∧ 53 + 2 = 55 := ⟨by decide +kernel, rfl⟩
theorem iX6_wayOf_55 : decode cX6_wayOf 55 = .ok (.goto 5, 3) ∧ 55 + 3 = 58 := ⟨by decide +kernel, rfl⟩
theorem iX6_wayOf_58 : decode cX6_wayOf 58 = .ok (.iload 4, 2) ∧ 58 + 2 = 60 := ⟨by decide +kernel, rfl⟩
theorem iX6_wayOf_60 : decode cX6_wayOf 60 = .ok (.istore 4, 2) ∧ 60 + 2 = 62 := ⟨by decide +kernel, rfl⟩
theorem iX6_wayOf_62 : decode cX6_wayOf 62 = .ok (.iload 7, 2) ∧ 62 + 2 = 64 := ⟨by decide +kernel, rfl⟩
theorem iX6_wayOf_64 : decode cX6_wayOf 64 = .ok (.iload_n 3, 1) ∧ 64 + 1 = 65 := ⟨by decide +kernel, rfl⟩
theorem iX6_wayOf_65 : decode cX6_wayOf 65 = .ok (.if_icmp .le 8, 3) ∧ 65 + 3 = 68 := ⟨by decide +kernel, rfl⟩
theorem iX6_wayOf_68 : decode cX6_wayOf 68 = .ok (.iload 7, 2) ∧ 68 + 2 = 70 := ⟨by decide +kernel, rfl⟩
theorem iX6_wayOf_70 : decode cX6_wayOf 70 = .ok (.goto 4, 3) ∧ 70 + 3 = 73 := ⟨by decide +kernel, rfl⟩
theorem iX6_wayOf_73 : decode cX6_wayOf 73 = .ok (.iload_n 3, 1) ∧ 73 + 1 = 74 := ⟨by decide +kernel, rfl⟩
theorem iX6_wayOf_74 : decode cX6_wayOf 74 = .ok (.istore_n 3, 1) ∧ 74 + 1 = 75 := ⟨by decide +kernel, rfl⟩
theorem iX6_wayOf_75 : decode cX6_wayOf 75 = .ok (.iinc 6 1, 3) ∧ 75 + 3 = 78 := ⟨by decide +kernel, rfl⟩
theorem iX6_wayOf_78 : decode cX6_wayOf 78 = .ok (.goto (-63), 3) ∧ 78 + 3 = 81 := ⟨by decide +kernel, rfl⟩
theorem iX6_wayOf_81 : decode cX6_wayOf 81 = .ok (.iload_n 2, 1) ∧ 81 + 1 = 82 := ⟨by decide +kernel, rfl⟩
theorem iX6_wayOf_82 : decode cX6_wayOf 82 = .ok (.ifCond .ne 7, 3) ∧ 82 + 3 = 85 := ⟨by decide +kernel, rfl⟩
theorem iX6_wayOf_85 : decode cX6_wayOf 85 = .ok (.iload_n 3, 1) ∧ 85 + 1 = 86 := ⟨by decide +kernel, rfl⟩
theorem iX6_wayOf_86 : decode cX6_wayOf 86 = .ok (.goto 5, 3) ∧ 86 + 3 = 89 := ⟨by decide +kernel, rfl⟩
theorem iX6_wayOf_89 : decode cX6_wayOf 89 = .ok (.iload 4, 2) ∧ 89 + 2 = 91 := ⟨by decide +kernel, rfl⟩
theorem iX6_wayOf_91 : decode cX6_wayOf 91 = .ok (.ireturn, 1) ∧ 91 + 1 = 92 := ⟨by decide +kernel, rfl⟩
theorem iX6_peaceSet_0 : decode cX6_peaceSet 0 = .ok (.iconst 0, 1) ∧ 0 + 1 = 1 := ⟨by decide +kernel, rfl⟩
theorem iX6_peaceSet_1 : decode cX6_peaceSet 1 = .ok (.istore_n 2, 1) ∧ 1 + 1 = 2 := ⟨by decide +kernel, rfl⟩
theorem iX6_peaceSet_2 : decode cX6_peaceSet 2 = .ok (.iconst 0, 1) ∧ 2 + 1 = 3 := ⟨by decide +kernel, rfl⟩
theorem iX6_peaceSet_3 : decode cX6_peaceSet 3 = .ok (.istore_n 3, 1) ∧ 3 + 1 = 4 := ⟨by decide +kernel, rfl⟩
theorem iX6_peaceSet_4 : decode cX6_peaceSet 4 = .ok (.iload_n 3, 1) ∧ 4 + 1 = 5 := ⟨by decide +kernel, rfl⟩
theorem iX6_peaceSet_5 : decode cX6_peaceSet 5 = .ok (.aload_n 0, 1) ∧ 5 + 1 = 6 := ⟨by decide +kernel, rfl⟩
theorem iX6_peaceSet_6 : decode cX6_peaceSet 6 = .ok (.getfield 116, 3) ∧ 6 + 3 = 9 := ⟨by decide +kernel, rfl⟩
theorem iX6_peaceSet_9 : decode cX6_peaceSet 9 = .ok (.if_icmp .gt 60, 3) ∧ 9 + 3 = 12 := ⟨by decide +kernel, rfl⟩
theorem iX6_peaceSet_12 : decode cX6_peaceSet 12 = .ok (.iload_n 3, 1) ∧ 12 + 1 = 13 := ⟨by decide +kernel, rfl⟩
theorem iX6_peaceSet_13 : decode cX6_peaceSet 13 = .ok (.aload_n 0, 1) ∧ 13 + 1 = 14 := ⟨by decide +kernel, rfl⟩
theorem iX6_peaceSet_14 : decode cX6_peaceSet 14 = .ok (.getfield 116, 3) ∧ 14 + 3 = 17 := ⟨by decide +kernel, rfl⟩
theorem iX6_peaceSet_17 : decode cX6_peaceSet 17 = .ok (.iconst (-1), 1) ∧ 17 + 1 = 18 := ⟨by decide +kernel, rfl⟩
theorem iX6_peaceSet_18 : decode cX6_peaceSet 18 = .ok (.ixor, 1) ∧ 18 + 1 = 19 := ⟨by decide +kernel, rfl⟩
theorem iX6_peaceSet_19 : decode cX6_peaceSet 19 = .ok (.iand, 1) ∧ 19 + 1 = 20 := ⟨by decide +kernel, rfl⟩
theorem iX6_peaceSet_20 : decode cX6_peaceSet 20 = .ok (.ifCond .ne 18, 3) ∧ 20 + 3 = 23 := ⟨by decide +kernel, rfl⟩
theorem iX6_peaceSet_23 : decode cX6_peaceSet 23 = .ok (.iload_n 3, 1) ∧ 23 + 1 = 24 := ⟨by decide +kernel, rfl⟩
theorem iX6_peaceSet_24 : decode cX6_peaceSet 24 = .ok (.invokestatic 185, 3) ∧ 24 + 3 = 27 := ⟨by decide +kernel, rfl⟩
theorem iX6_peaceSet_27 : decode cX6_peaceSet 27 = .ok (.iload_n 2, 1) ∧ 27 + 1 = 28 := ⟨by decide +kernel, rfl⟩
theorem iX6_peaceSet_28 : decode cX6_peaceSet 28 = .ok (.invokestatic 185, 3) ∧ 28 + 3 = 31 := ⟨by decide +kernel, rfl⟩
theorem iX6_peaceSet_31 : decode cX6_peaceSet 31 = .ok (.if_icmp .le 7, 3) ∧ 31 + 3 = 34 := ⟨by decide +kernel, rfl⟩
theorem iX6_peaceSet_34 : decode cX6_peaceSet 34 = .ok (.iconst 1, 1) ∧ 34 + 1 = 35 := ⟨by decide +kernel, rfl⟩
theorem iX6_peaceSet_35 : decode cX6_peaceSet 35 = .ok (.goto 4, 3) ∧ 35 + 3 = 38 := ⟨by decide +kernel, rfl⟩
theorem iX6_peaceSet_38 : decode cX6_peaceSet 38 = .ok (.iconst 0, 1) ∧ 38 + 1 = 39 := ⟨by decide +kernel, rfl⟩
theorem iX6_peaceSet_39 : decode cX6_peaceSet 39 = .ok (.istore 4, 2) ∧ 39 + 2 = 41 := ⟨by decide +kernel, rfl⟩
theorem iX6_peaceSet_41 : decode cX6_peaceSet 41 = .ok (.iload 4, 2) ∧ 41 + 2 = 43 := ⟨by decide +kernel, rfl⟩
theorem iX6_peaceSet_43 : decode cX6_peaceSet 43 = .ok (.ifCond .eq 18, 3) ∧ 43 + 3 = 46 := ⟨by decide +kernel, rfl⟩
theorem iX6_peaceSet_46 : decode cX6_peaceSet 46 = .ok (.aload_n 0, 1) ∧ 46 + 1 = 47 := ⟨by decide +kernel, rfl⟩
theorem iX6_peaceSet_47 : decode cX6_peaceSet 47 = .ok (.iload_n 1, 1) ∧ 47 + 1 = 48 := ⟨by decide +kernel, rfl⟩
theorem iX6_peaceSet_48 : decode cX6_peaceSet 48 = .ok (.iload_n 3, 1) ∧ 48 + 1 = 49 := ⟨by decide +kernel, rfl⟩
theorem iX6_peaceSet_49 : decode cX6_peaceSet 49 = .ok (.invokevirtual 188, 3) ∧ 49 + 3 = 52 := ⟨by decide +kernel, rfl⟩
theorem iX6_peaceSet_52 : decode cX6_peaceSet 52 = .ok (.iload_n 3, 1) ∧ 52 + 1 = 53 := ⟨by decide +kernel, rfl⟩
theorem iX6_peaceSet_53 : decode cX6_peaceSet 53 = .ok (.iand, 1) ∧ 53 + 1 = 54 := ⟨by decide +kernel, rfl⟩
theorem iX6_peaceSet_54 : decode cX6_peaceSet 54 = .ok (.ifCond .ne 7, 3) ∧ 54 + 3 = 57 := ⟨by decide +kernel, rfl⟩
theorem iX6_peaceSet_57 : decode cX6_peaceSet 57 = .ok (.iload_n 3, 1) ∧ 57 + 1 = 58 := ⟨by decide +kernel, rfl⟩
theorem iX6_peaceSet_58 : decode cX6_peaceSet 58 = .ok (.goto 4, 3) ∧ 58 + 3 = 61 := ⟨by decide +kernel, rfl⟩
theorem iX6_peaceSet_61 : decode cX6_peaceSet 61 = .ok (.iload_n 2, 1) ∧ 61 + 1 = 62 := ⟨by decide +kernel, rfl⟩
theorem iX6_peaceSet_62 : decode cX6_peaceSet 62 = .ok (.istore_n 2, 1) ∧ 62 + 1 = 63 := ⟨by decide +kernel, rfl⟩
theorem iX6_peaceSet_63 : decode cX6_peaceSet 63 = .ok (.iinc 3 1, 3) ∧ 63 + 3 = 66 := ⟨by decide +kernel, rfl⟩
theorem iX6_peaceSet_66 : decode cX6_peaceSet 66 = .ok (.goto (-62), 3) ∧ 66 + 3 = 69 := ⟨by decide +kernel, rfl⟩
theorem iX6_peaceSet_69 : decode cX6_peaceSet 69 = .ok (.iload_n 2, 1) ∧ 69 + 1 = 70 := ⟨by decide +kernel, rfl⟩
theorem iX6_peaceSet_70 : decode cX6_peaceSet 70 = .ok (.ireturn, 1) ∧ 70 + 1 = 71 := ⟨by decide +kernel, rfl⟩
theorem iX6_guardSet_0 : decode cX6_guardSet 0 = .ok (.aload_n 0, 1) ∧ 0 + 1 = 1 := ⟨by decide +kernel, rfl⟩
theorem iX6_guardSet_1 : decode cX6_guardSet 1 = .ok (.getfield 116, 3) ∧ 1 + 3 = 4 := ⟨by decide +kernel, rfl⟩
theorem iX6_guardSet_4 : decode cX6_guardSet 4 = .ok (.istore_n 2, 1) ∧ 4 + 1 = 5 := ⟨by decide +kernel, rfl⟩
theorem iX6_guardSet_5 : decode cX6_guardSet 5 = .ok (.iconst 0, 1) ∧ 5 + 1 = 6 := ⟨by decide +kernel, rfl⟩
theorem iX6_guardSet_6 : decode cX6_guardSet 6 = .ok (.istore_n 3, 1) ∧ 6 + 1 = 7 := ⟨by decide +kernel, rfl⟩
theorem iX6_guardSet_7 : decode cX6_guardSet 7 = .ok (.iload_n 3, 1) ∧ 7 + 1 = 8 := ⟨by decide +kernel, rfl⟩
theorem iX6_guardSet_8 : decode cX6_guardSet 8 = .ok (.aload_n 0, 1) ∧ 8 + 1 = 9 := ⟨by decide +kernel, rfl⟩
theorem iX6_guardSet_9 : decode cX6_guardSet 9 = .ok (.getfield 116, 3) ∧ 9 + 3 = 12 := ⟨by decide +kernel, rfl⟩
theorem iX6_guardSet_12 : decode cX6_guardSet 12 = .ok (.if_icmp .gt 64, 3) ∧ 12 + 3 = 15 := ⟨by decide +kernel, rfl⟩
theorem iX6_guardSet_15 : decode cX6_guardSet 15 = .ok (.iload_n 3, 1) ∧ 15 + 1 = 16 := ⟨by decide +kernel, rfl⟩
theorem iX6_guardSet_16 : decode cX6_guardSet 16 = .ok (.aload_n 0, 1) ∧ 16 + 1 = 17 := ⟨by decide +kernel, rfl⟩
theorem iX6_guardSet_17 : decode cX6_guardSet 17 = .ok (.getfield 116, 3) ∧ 17 + 3 = 20 := ⟨by decide +kernel, rfl⟩
theorem iX6_guardSet_20 : decode cX6_guardSet 20 = .ok (.iconst (-1), 1) ∧ 20 + 1 = 21 := ⟨by decide +kernel, rfl⟩
theorem iX6_guardSet_21 : decode cX6_guardSet 21 = .ok (.ixor, 1) ∧ 21 + 1 = 22 := ⟨by decide +kernel, rfl⟩
theorem iX6_guardSet_22 : decode cX6_guardSet 22 = .ok (.iand, 1) ∧ 22 + 1 = 23 := ⟨by decide +kernel, rfl⟩
theorem iX6_guardSet_23 : decode cX6_guardSet 23 = .ok (.ifCond .ne 18, 3) ∧ 23 + 3 = 26 := ⟨by decide +kernel, rfl⟩
theorem iX6_guardSet_26 : decode cX6_guardSet 26 = .ok (.iload_n 3, 1) ∧ 26 + 1 = 27 := ⟨by decide +kernel, rfl⟩
theorem iX6_guardSet_27 : decode cX6_guardSet 27 = .ok (.invokestatic 185, 3) ∧ 27 + 3 = 30 := ⟨by decide +kernel, rfl⟩
theorem iX6_guardSet_30 : decode cX6_guardSet 30 = .ok (.iload_n 2, 1) ∧ 30 + 1 = 31 := ⟨by decide +kernel, rfl⟩
theorem iX6_guardSet_31 : decode cX6_guardSet 31 = .ok (.invokestatic 185, 3) ∧ 31 + 3 = 34 := ⟨by decide +kernel, rfl⟩
theorem iX6_guardSet_34 : decode cX6_guardSet 34 = .ok (.if_icmp .ge 7, 3) ∧ 34 + 3 = 37 := ⟨by decide +kernel, rfl⟩
theorem iX6_guardSet_37 : decode cX6_guardSet 37 = .ok (.iconst 1, 1) ∧ 37 + 1 = 38 := ⟨by decide +kernel, rfl⟩
theorem iX6_guardSet_38 : decode cX6_guardSet 38 = .ok (.goto 4, 3) ∧ 38 + 3 = 41 := ⟨by decide +kernel, rfl⟩
theorem iX6_guardSet_41 : decode cX6_guardSet 41 = .ok (.iconst 0, 1) ∧ 41 + 1 = 42 := ⟨by decide +kernel, rfl⟩
theorem iX6_guardSet_42 : decode cX6_guardSet 42 = .ok (.istore 4, 2) ∧ 42 + 2 = 44 := ⟨by decide +kernel, rfl⟩
theorem iX6_guardSet_44 : decode cX6_guardSet 44 = .ok (.iload 4, 2) ∧ 44 + 2 = 46 := ⟨by decide +kernel, rfl⟩
theorem iX6_guardSet_46 : decode cX6_guardSet 46 = .ok (.ifCond .eq 22, 3) ∧ 46 + 3 = 49 := ⟨by decide +kernel, rfl⟩
theorem iX6_guardSet_49 : decode cX6_guardSet 49 = .ok (.aload_n 0, 1) ∧ 49 + 1 = 50 := ⟨by decide +kernel, rfl⟩
theorem iX6_guardSet_50 : decode cX6_guardSet 50 = .ok (.iload_n 1, 1) ∧ 50 + 1 = 51 := ⟨by decide +kernel, rfl⟩
theorem iX6_guardSet_51 : decode cX6_guardSet 51 = .ok (.iload_n 3, 1) ∧ 51 + 1 = 52 := ⟨by decide +kernel, rfl⟩
theorem iX6_guardSet_52 : decode cX6_guardSet 52 = .ok (.invokevirtual 188, 3) ∧ 52 + 3 = 55 := ⟨by decide +kernel, rfl⟩
theorem iX6_guardSet_55 : decode cX6_guardSet 55 = .ok (.iload_n 3, 1) ∧ 55 + 1 = 56 := ⟨by decide +kernel, rfl⟩
theorem iX6_guardSet_56 : decode cX6_guardSet 56 = .ok (.ior, 1) ∧ 56 + 1 = 57 := ⟨by decide +kernel, rfl⟩
theorem iX6_guardSet_57 : decode cX6_guardSet 57 = .ok (.aload_n 0, 1) ∧ 57 + 1 = 58 := ⟨by decide +kernel, rfl⟩
theorem iX6_guardSet_58 : decode cX6_guardSet 58 = .ok (.getfield 116, 3) ∧ 58 + 3 = 61 := ⟨by decide +kernel, rfl⟩
theorem iX6_guardSet_61 : decode cX6_guardSet 61 = .ok (.if_icmp .ne 7, 3) ∧ 61 + 3 = 64 := ⟨by decide +kernel, rfl⟩
theorem iX6_guardSet_64 : decode cX6_guardSet 64 = .ok (.iload_n 3, 1) ∧ 64 + 1 = 65 := ⟨by decide +kernel, rfl⟩
theorem iX6_guardSet_65 : decode cX6_guardSet 65 = .ok (.goto 4, 3) ∧ 65 + 3 = 68 := ⟨by decide +kernel, rfl⟩
theorem iX6_guardSet_68 : decode cX6_guardSet 68 = .ok (.iload_n 2, 1) ∧ 68 + 1 = 69 := ⟨by decide +kernel, rfl⟩
theorem iX6_guardSet_69 : decode cX6_guardSet 69 = .ok (.istore_n 2, 1) ∧ 69 + 1 = 70 := ⟨by decide +kernel, rfl⟩
theorem iX6_guardSet_70 : decode cX6_guardSet 70 = .ok (.iinc 3 1, 3) ∧ 70 + 3 = 73 := ⟨by decide +kernel, rfl⟩
theorem iX6_guardSet_73 : decode cX6_guardSet 73 = .ok (.goto (-66), 3) ∧ 73 + 3 = 76 := ⟨by decide +kernel, rfl⟩
theorem iX6_guardSet_76 : decode cX6_guardSet 76 = .ok (.iload_n 2, 1) ∧ 76 + 1 = 77 := ⟨by decide +kernel, rfl⟩
theorem iX6_guardSet_77 : decode cX6_guardSet 77 = .ok (.ireturn, 1) ∧ 77 + 1 = 78 := ⟨by decide +kernel, rfl⟩
theorem iX6_isKind_0 : decode cX6_isKind 0 = .ok (.iload_n 0, 1) ∧ 0 + 1 = 1 := ⟨by decide +kernel, rfl⟩
theorem iX6_isKind_1 : decode cX6_isKind 1 = .ok (.iconst 0, 1) ∧ 1 + 1 = 2 := ⟨by decide +kernel, rfl⟩
theorem iX6_isKind_2 : decode cX6_isKind 2 = .ok (.iconst 4, 1) ∧ 2 + 1 = 3 := ⟨by decide +kernel, rfl⟩
theorem iX6_isKind_3 : decode cX6_isKind 3 = .ok (.invokestatic 68, 3) ∧ 3 + 3 = 6 := ⟨by decide +kernel, rfl⟩
theorem iX6_isKind_6 : decode cX6_isKind 6 = .ok (.ireturn, 1) ∧ 6 + 1 = 7 := ⟨by decide +kernel, rfl⟩
theorem iX6_refused_0 : decode cX6_refused 0 = .ok (.iload_n 1, 1) ∧ 0 + 1 = 1 := ⟨by decide +kernel, rfl⟩
theorem iX6_refused_1 : decode cX6_refused 1 = .ok (.invokestatic 219, 3) ∧ 1 + 3 = 4 := ⟨by decide +kernel, rfl⟩
theorem iX6_refused_4 : decode cX6_refused 4 = .ok (.ifCond .eq 12, 3) ∧ 4 + 3 = 7 := ⟨by decide +kernel, rfl⟩
theorem iX6_refused_7 : decode cX6_refused 7 = .ok (.iload_n 2, 1) ∧ 7 + 1 = 8 := ⟨by decide +kernel, rfl⟩
theorem iX6_refused_8 : decode cX6_refused 8 = .ok (.iconst 0, 1) ∧ 8 + 1 = 9 := ⟨by decide +kernel, rfl⟩
theorem iX6_refused_9 : decode cX6_refused 9 = .ok (.iconst 1, 1) ∧ 9 + 1 = 10 := ⟨by decide +kernel, rfl⟩
theorem iX6_refused_10 : decode cX6_refused 10 = .ok (.invokestatic 68, 3) ∧ 10 + 3 = 13 := ⟨by decide +kernel, rfl⟩
theorem iX6_refused_13 : decode cX6_refused 13 = .ok (.ifCond .ne 8, 3) ∧ 13 + 3 = 16 := ⟨by decide +kernel, rfl⟩
theorem iX6_refused_16 : decode cX6_refused 16 = .ok (.bipush (-102), 2) ∧ 16 + 2 = 18 := ⟨by decide +kernel, rfl⟩
theorem iX6_refused_18 : decode cX6_refused 18 = .ok (.goto 16, 3) ∧ 18 + 3 = 21 := ⟨by decide +kernel, rfl⟩
theorem iX6_refused_21 : decode cX6_refused 21 = .ok (.aload_n 0, 1) ∧ 21 + 1 = 22 := ⟨by decide +kernel, rfl⟩
theorem iX6_refused_22 : decode cX6_refused 22 = .ok (.getfield 119, 3) ∧ 22 + 3 = 25 := ⟨by decide +kernel, rfl⟩
theorem iX6_refused_25 : decode cX6_refused 25 = .ok (.ifCond .ne 8, 3) ∧ 25 + 3 = 28 := ⟨by decide +kernel, rfl⟩
theorem iX6_refused_28 : decode cX6_refused 28 = .ok (.bipush (-103), 2) ∧ 28 + 2 = 30 := ⟨by decide +kernel, rfl⟩
theorem iX6_refused_30 : decode cX6_refused 30 = .ok (.goto 4, 3) ∧ 30 + 3 = 33 := ⟨by decide +kernel, rfl⟩
theorem iX6_refused_33 : decode cX6_refused 33 = .ok (.iconst 0, 1) ∧ 33 + 1 = 34 := ⟨by decide +kernel, rfl⟩
theorem iX6_refused_34 : decode cX6_refused 34 = .ok (.ireturn, 1) ∧ 34 + 1 = 35 := ⟨by decide +kernel, rfl⟩
theorem iX6_peaceNow_0 : decode cX6_peaceNow 0 = .ok (.iload_n 2, 1) ∧ 0 + 1 = 1 := ⟨by decide +kernel, rfl⟩
theorem iX6_peaceNow_1 : decode cX6_peaceNow 1 = .ok (.ifCond .ne 14, 3) ∧ 1 + 3 = 4 := ⟨by decide +kernel, rfl⟩
theorem iX6_peaceNow_4 : decode cX6_peaceNow 4 = .ok (.aload_n 0, 1) ∧ 4 + 1 = 5 := ⟨by decide +kernel, rfl⟩
theorem iX6_peaceNow_5 : decode cX6_peaceNow 5 = .ok (.iload_n 1, 1) ∧ 5 + 1 = 6 := ⟨by decide +kernel, rfl⟩
theorem iX6_peaceNow_6 : decode cX6_peaceNow 6 = .ok (.invokevirtual 222, 3) ∧ 6 + 3 = 9 := ⟨by decide +kernel, rfl⟩
theorem iX6_peaceNow_9 : decode cX6_peaceNow 9 = .ok (.invokestatic 185, 3) ∧ 9 + 3 = 12 := ⟨by decide +kernel, rfl⟩
theorem iX6_peaceNow_12 : decode cX6_peaceNow 12 = .ok (.goto 8, 3) ∧ 12 + 3 = 15 := ⟨by decide +kernel, rfl⟩
theorem iX6_peaceNow_15 : decode cX6_peaceNow 15 = .ok (.aload_n 0, 1) ∧ 15 + 1 = 16 := ⟨by decide +kernel, rfl⟩
theorem iX6_peaceNow_16 : decode cX6_peaceNow 16 = .ok (.iload_n 1, 1) ∧ 16 + 1 = 17 := ⟨by decide +kernel, rfl⟩
theorem iX6_peaceNow_17 : decode cX6_peaceNow 17 = .ok (.invokevirtual 222, 3) ∧ 17 + 3 = 20 := ⟨by decide +kernel, rfl⟩
theorem iX6_peaceNow_20 : decode cX6_peaceNow 20 = .ok (.ireturn, 1) ∧ 20 + 1 = 21 := ⟨by decide +kernel, rfl⟩
theorem iX6_peace_0 : decode cX6_peace 0 = .ok (.aload_n 0, 1) ∧ 0 + 1 = 1 := ⟨by decide +kernel, rfl⟩
theorem iX6_peace_1 : decode cX6_peace 1 = .ok (.iload_n 1, 1) ∧ 1 + 1 = 2 := ⟨by decide +kernel, rfl⟩
theorem iX6_peace_2 : decode cX6_peace 2 = .ok (.iload_n 2, 1) ∧ 2 + 1 = 3 := ⟨by decide +kernel, rfl⟩
theorem iX6_peace_3 : decode cX6_peace 3 = .ok (.invokevirtual 225, 3) ∧ 3 + 3 = 6 := ⟨by decide +kernel, rfl⟩
theorem iX6_peace_6 : decode cX6_peace 6 = .ok (.ifCond .ge 12, 3) ∧ 6 + 3 = 9 := ⟨by decide +kernel, rfl⟩
theorem iX6_peace_9 : decode cX6_peace 9 = .ok (.aload_n 0, 1) ∧ 9 + 1 = 10 := ⟨by decide +kernel, rfl⟩
theorem iX6_peace_10 : decode cX6_peace 10 = .ok (.iload_n 1, 1) ∧ 10 + 1 = 11 := ⟨by decide +kernel, rfl⟩
theorem iX6_peace_11 : decode cX6_peace 11 = .ok (.iload_n 2, 1) ∧ 11 + 1 = 12 := ⟨by decide +kernel, rfl⟩
theorem iX6_peace_12 : decode cX6_peace 12 = .ok (.invokevirtual 225, 3) ∧ 12 + 3 = 15 := ⟨by decide +kernel, rfl⟩
theorem iX6_peace_15 : decode cX6_peace 15 = .ok (.goto 9, 3) ∧ 15 + 3 = 18 := ⟨by decide +kernel, rfl⟩
theorem iX6_peace_18 : decode cX6_peace 18 = .ok (.aload_n 0, 1) ∧ 18 + 1 = 19 := ⟨by decide +kernel, rfl⟩
theorem iX6_peace_19 : decode cX6_peace 19 = .ok (.iload_n 1, 1) ∧ 19 + 1 = 20 := ⟨by decide +kernel, rfl⟩
theorem iX6_peace_20 : decode cX6_peace 20 = .ok (.iload_n 2, 1) ∧ 20 + 1 = 21 := ⟨by decide +kernel, rfl⟩
theorem iX6_peace_21 : decode cX6_peace 21 = .ok (.invokevirtual 228, 3) ∧ 21 + 3 = 24 := ⟨by decide +kernel, rfl⟩
theorem iX6_peace_24 : decode cX6_peace 24 = .ok (.ireturn, 1) ∧ 24 + 1 = 25 := ⟨by decide +kernel, rfl⟩
theorem iX6_guardNow_0 : decode cX6_guardNow 0 = .ok (.iload_n 2, 1) ∧ 0 + 1 = 1 := ⟨by decide +kernel, rfl⟩
theorem iX6_guardNow_1 : decode cX6_guardNow 1 = .ok (.ifCond .ne 14, 3) ∧ 1 + 3 = 4 := ⟨by decide +kernel, rfl⟩
theorem iX6_guardNow_4 : decode cX6_guardNow 4 = .ok (.aload_n 0, 1) ∧ 4 + 1 = 5 := ⟨by decide +kernel, rfl⟩
theorem iX6_guardNow_5 : decode cX6_guardNow 5 = .ok (.iload_n 1, 1) ∧ 5 + 1 = 6 := ⟨by decide +kernel, rfl⟩
theorem iX6_guardNow_6 : decode cX6_guardNow 6 = .ok (.invokevirtual 231, 3) ∧ 6 + 3 = 9 := ⟨by decide +kernel, rfl⟩
theorem iX6_guardNow_9 : decode cX6_guardNow 9 = .ok (.invokestatic 185, 3) ∧ 9 + 3 = 12 := ⟨by decide +kernel, rfl⟩
theorem iX6_guardNow_12 : decode cX6_guardNow 12 = .ok (.goto 8, 3) ∧ 12 + 3 = 15 := ⟨by decide +kernel, rfl⟩
theorem iX6_guardNow_15 : decode cX6_guardNow 15 = .ok (.aload_n 0, 1) ∧ 15 + 1 = 16 := ⟨by decide +kernel, rfl⟩
theorem iX6_guardNow_16 : decode cX6_guardNow 16 = .ok (.iload_n 1, 1) ∧ 16 + 1 = 17 := ⟨by decide +kernel, rfl⟩
theorem iX6_guardNow_17 : decode cX6_guardNow 17 = .ok (.invokevirtual 231, 3) ∧ 17 + 3 = 20 := ⟨by decide +kernel, rfl⟩
theorem iX6_guardNow_20 : decode cX6_guardNow 20 = .ok (.ireturn, 1) ∧ 20 + 1 = 21 := ⟨by decide +kernel, rfl⟩
theorem iX6_guard_0 : decode cX6_guard 0 = .ok (.aload_n 0, 1) ∧ 0 + 1 = 1 := ⟨by decide +kernel, rfl⟩
theorem iX6_guard_1 : decode cX6_guard 1 = .ok (.iload_n 1, 1) ∧ 1 + 1 = 2 := ⟨by decide +kernel, rfl⟩
theorem iX6_guard_2 : decode cX6_guard 2 = .ok (.iload_n 2, 1) ∧ 2 + 1 = 3 := ⟨by decide +kernel, rfl⟩
theorem iX6_guard_3 : decode cX6_guard 3 = .ok (.invokevirtual 225, 3) ∧ 3 + 3 = 6 := ⟨by decide +kernel, rfl⟩
theorem iX6_guard_6 : decode cX6_guard 6 = .ok (.ifCond .ge 12, 3) ∧ 6 + 3 = 9 := ⟨by decide +kernel, rfl⟩
theorem iX6_guard_9 : decode cX6_guard 9 = .ok (.aload_n 0, 1) ∧ 9 + 1 = 10 := ⟨by decide +kernel, rfl⟩
theorem iX6_guard_10 : decode cX6_guard 10 = .ok (.iload_n 1, 1) ∧ 10 + 1 = 11 := ⟨by decide +kernel, rfl⟩
theorem iX6_guard_11 : decode cX6_guard 11 = .ok (.iload_n 2, 1) ∧ 11 + 1 = 12 := ⟨by decide +kernel, rfl⟩
theorem iX6_guard_12 : decode cX6_guard 12 = .ok (.invokevirtual 225, 3) ∧ 12 + 3 = 15 := ⟨by decide +kernel, rfl⟩
theorem iX6_guard_15 : decode cX6_guard 15 = .ok (.goto 9, 3) ∧ 15 + 3 = 18 := ⟨by decide +kernel, rfl⟩
theorem iX6_guard_18 : decode cX6_guard 18 = .ok (.aload_n 0, 1) ∧ 18 + 1 = 19 := ⟨by decide +kernel, rfl⟩
theorem iX6_guard_19 : decode cX6_guard 19 = .ok (.iload_n 1, 1) ∧ 19 + 1 = 20 := ⟨by decide +kernel, rfl⟩
theorem iX6_guard_20 : decode cX6_guard 20 = .ok (.iload_n 2, 1) ∧ 20 + 1 = 21 := ⟨by decide +kernel, rfl⟩
theorem iX6_guard_21 : decode cX6_guard 21 = .ok (.invokevirtual 234, 3) ∧ 21 + 3 = 24 := ⟨by decide +kernel, rfl⟩
theorem iX6_guard_24 : decode cX6_guard 24 = .ok (.ireturn, 1) ∧ 24 + 1 = 25 := ⟨by decide +kernel, rfl⟩
theorem iX6_partOf_0 : decode cX6_partOf 0 = .ok (.iconst 1, 1) ∧ 0 + 1 = 1 := ⟨by decide +kernel, rfl⟩
theorem iX6_partOf_1 : decode cX6_partOf 1 = .ok (.iload_n 2, 1) ∧ 1 + 1 = 2 := ⟨by decide +kernel, rfl⟩
theorem iX6_partOf_2 : decode cX6_partOf 2 = .ok (.ishl, 1) ∧ 2 + 1 = 3 := ⟨by decide +kernel, rfl⟩
theorem iX6_partOf_3 : decode cX6_partOf 3 = .ok (.istore_n 3, 1) ∧ 3 + 1 = 4 := ⟨by decide +kernel, rfl⟩
theorem iX6_partOf_4 : decode cX6_partOf 4 = .ok (.iload_n 3, 1) ∧ 4 + 1 = 5 := ⟨by decide +kernel, rfl⟩
theorem iX6_partOf_5 : decode cX6_partOf 5 = .ok (.aload_n 0, 1) ∧ 5 + 1 = 6 := ⟨by decide +kernel, rfl⟩
theorem iX6_partOf_6 : decode cX6_partOf 6 = .ok (.iload_n 1, 1) ∧ 6 + 1 = 7 := ⟨by decide +kernel, rfl⟩
theorem iX6_partOf_7 : decode cX6_partOf 7 = .ok (.iload_n 3, 1) ∧ 7 + 1 = 8 := ⟨by decide +kernel, rfl⟩
theorem iX6_partOf_8 : decode cX6_partOf 8 = .ok (.invokevirtual 188, 3) ∧ 8 + 3 = 11 := ⟨by decide +kernel, rfl⟩
theorem iX6_partOf_11 : decode cX6_partOf 11 = .ok (.ior, 1) ∧ 11 + 1 = 12 := ⟨by decide +kernel, rfl⟩
theorem iX6_partOf_12 : decode cX6_partOf 12 = .ok (.istore 4, 2) ∧ 12 + 2 = 14 := ⟨by decide +kernel, rfl⟩
theorem iX6_partOf_14 : decode cX6_partOf 14 = .ok (.iload 4, 2) ∧ 14 + 2 = 16 := ⟨by decide +kernel, rfl⟩
theorem iX6_partOf_16 : decode cX6_partOf 16 = .ok (.iload_n 3, 1) ∧ 16 + 1 = 17 := ⟨by decide +kernel, rfl⟩
theorem iX6_partOf_17 : decode cX6_partOf 17 = .ok (.if_icmp .eq 19, 3) ∧ 17 + 3 = 20 := ⟨by decide +kernel, rfl⟩
theorem iX6_partOf_20 : decode cX6_partOf 20 = .ok (.iload 4, 2) ∧ 20 + 2 = 22 := ⟨by decide +kernel, rfl⟩
theorem iX6_partOf_22 : decode cX6_partOf 22 = .ok (.istore_n 3, 1) ∧ 22 + 1 = 23 := ⟨by decide +kernel, rfl⟩
theorem iX6_partOf_23 : decode cX6_partOf 23 = .ok (.iload_n 3, 1) ∧ 23 + 1 = 24 := ⟨by decide +kernel, rfl⟩
theorem iX6_partOf_24 : decode cX6_partOf 24 = .ok (.aload_n 0, 1) ∧ 24 + 1 = 25 := ⟨by decide +kernel, rfl⟩
theorem iX6_partOf_25 : decode cX6_partOf 25 = .ok (.iload_n 1, 1) ∧ 25 + 1 = 26 := ⟨by decide +kernel, rfl⟩
theorem iX6_partOf_26 : decode cX6_partOf 26 = .ok (.iload_n 3, 1) ∧ 26 + 1 = 27 := ⟨by decide +kernel, rfl⟩
theorem iX6_partOf_27 : decode cX6_partOf 27 = .ok (.invokevirtual 188, 3) ∧ 27 + 3 = 30 := ⟨by decide +kernel, rfl⟩
theorem iX6_partOf_30 : decode cX6_partOf 30 = .ok (.ior, 1) ∧ 30 + 1 = 31 := ⟨by decide +kernel, rfl⟩
theorem iX6_partOf_31 : decode cX6_partOf 31 = .ok (.istore 4, 2) ∧ 31 + 2 = 33 := ⟨by decide +kernel, rfl⟩
theorem iX6_partOf_33 : decode cX6_partOf 33 = .ok (.goto (-19), 3) ∧ 33 + 3 = 36 := ⟨by decide +kernel, rfl⟩
theorem iX6_partOf_36 : decode cX6_partOf 36 = .ok (.iload_n 3, 1) ∧ 36 + 1 = 37 := ⟨by decide +kernel, rfl⟩
theorem iX6_partOf_37 : decode cX6_partOf 37 = .ok (.ireturn, 1) ∧ 37 + 1 = 38 := ⟨by decide +kernel, rfl⟩
theorem iX6_partsNow_0 : decode cX6_partsNow 0 = .ok (.iconst 0, 1) ∧ 0 + 1 = 1 := ⟨by decide +kernel, rfl⟩
theorem iX6_partsNow_1 : decode cX6_partsNow 1 = .ok (.istore_n 2, 1) ∧ 1 + 1 = 2 := ⟨by decide +kernel, rfl⟩
theorem iX6_partsNow_2 : decode cX6_partsNow 2 = .ok (.aload_n 0, 1) ∧ 2 + 1 = 3 := ⟨by decide +kernel, rfl⟩
theorem iX6_partsNow_3 : decode cX6_partsNow 3 = .ok (.getfield 116, 3) ∧ 3 + 3 = 6 := ⟨by decide +kernel, rfl⟩
theorem iX6_partsNow_6 : decode cX6_partsNow 6 = .ok (.istore_n 3, 1) ∧ 6 + 1 = 7 := ⟨by decide +kernel, rfl⟩
theorem iX6_partsNow_7 : decode cX6_partsNow 7 = .ok (.iconst 0, 1) ∧ 7 + 1 = 8 := ⟨by decide +kernel, rfl⟩
theorem iX6_partsNow_8 : decode cX6_partsNow 8 = .ok (.istore 4, 2) ∧ 8 + 2 = 10 := ⟨by decide +kernel, rfl⟩
theorem iX6_partsNow_10 : decode cX6_partsNow 10 = .ok (.iload 4, 2) ∧ 10 + 2 = 12 := ⟨by decide +kernel, rfl⟩
theorem iX6_partsNow_12 : decode cX6_partsNow 12 = .ok (.aload_n 0, 1) ∧ 12 + 1 = 13 := ⟨by decide +kernel, rfl⟩
theorem iX6_partsNow_13 : decode cX6_partsNow 13 = .ok (.invokevirtual 131, 3) ∧ 13 + 3 = 16 := ⟨by decide +kernel, rfl⟩
theorem iX6_partsNow_16 : decode cX6_partsNow 16 = .ok (.if_icmp .ge 33, 3) ∧ 16 + 3 = 19 := ⟨by decide +kernel, rfl⟩
theorem iX6_partsNow_19 : decode cX6_partsNow 19 = .ok (.iload_n 3, 1) ∧ 19 + 1 = 20 := ⟨by decide +kernel, rfl⟩
theorem iX6_partsNow_20 : decode cX6_partsNow 20 = .ok (.iload 4, 2) ∧ 20 + 2 = 22 := ⟨by decide +kernel, rfl⟩
theorem iX6_partsNow_22 : decode cX6_partsNow 22 = .ok (.invokestatic 92, 3) ∧ 22 + 3 = 25 := ⟨by decide +kernel, rfl⟩
theorem iX6_partsNow_25 : decode cX6_partsNow 25 = .ok (.ifCond .eq 18, 3) ∧ 25 + 3 = 28 := ⟨by decide +kernel, rfl⟩
theorem iX6_partsNow_28 : decode cX6_partsNow 28 = .ok (.iload_n 3, 1) ∧ 28 + 1 = 29 := ⟨by decide +kernel, rfl⟩
theorem iX6_partsNow_29 : decode cX6_partsNow 29 = .ok (.aload_n 0, 1) ∧ 29 + 1 = 30 := ⟨by decide +kernel, rfl⟩
theorem iX6_partsNow_30 : decode cX6_partsNow 30 = .ok (.iload_n 1, 1) ∧ 30 + 1 = 31 := ⟨by decide +kernel, rfl⟩
theorem iX6_partsNow_31 : decode cX6_partsNow 31 = .ok (.iload 4, 2) ∧ 31 + 2 = 33 := ⟨by decide +kernel, rfl⟩
theorem iX6_partsNow_33 : decode cX6_partsNow 33 = .ok (.invokevirtual 237, 3) ∧ 33 + 3 = 36 := ⟨by decide +kernel, rfl⟩
theorem iX6_partsNow_36 : decode cX6_partsNow 36 = .ok (.iconst (-1), 1) ∧ 36 + 1 = 37 := ⟨by decide +kernel, rfl⟩
theorem iX6_partsNow_37 : decode cX6_partsNow 37 = .ok (.ixor, 1) ∧ 37 + 1 = 38 := ⟨by decide +kernel, rfl⟩
theorem iX6_partsNow_38 : decode cX6_partsNow 38 = .ok (.iand, 1) ∧ 38 + 1 = 39 := ⟨by decide +kernel, rfl⟩
theorem iX6_partsNow_39 : decode cX6_partsNow 39 = .ok (.istore_n 3, 1) ∧ 39 + 1 = 40 := ⟨by decide +kernel, rfl⟩
theorem iX6_partsNow_40 : decode cX6_partsNow 40 = .ok (.iinc 2 1, 3) ∧ 40 + 3 = 43 := ⟨by decide +kernel, rfl⟩
theorem iX6_partsNow_43 : decode cX6_partsNow 43 = .ok (.iinc 4 1, 3) ∧ 43 + 3 = 46 := ⟨by decide +kernel, rfl⟩
theorem iX6_partsNow_46 : decode cX6_partsNow 46 = .ok (.goto (-36), 3) ∧ 46 + 3 = 49 := ⟨by decide +kernel, rfl⟩
theorem iX6_partsNow_49 : decode cX6_partsNow 49 = .ok (.iload_n 2, 1) ∧ 49 + 1 = 50 := ⟨by decide +kernel, rfl⟩
theorem iX6_partsNow_50 : decode cX6_partsNow 50 = .ok (.ireturn, 1) ∧ 50 + 1 = 51 := ⟨by decide +kernel, rfl⟩
theorem iX6_areShades_0 : decode cX6_areShades 0 = .ok (.iconst 1, 1) ∧ 0 + 1 = 1 := ⟨by decide +kernel, rfl⟩
theorem iX6_areShades_1 : decode cX6_areShades 1 = .ok (.istore_n 2, 1) ∧ 1 + 1 = 2 := ⟨by decide +kernel, rfl⟩
theorem iX6_areShades_2 : decode cX6_areShades 2 = .ok (.iconst 0, 1) ∧ 2 + 1 = 3 := ⟨by decide +kernel, rfl⟩
theorem iX6_areShades_3 : decode cX6_areShades 3 = .ok (.istore_n 3, 1) ∧ 3 + 1 = 4 := ⟨by decide +kernel, rfl⟩
theorem iX6_areShades_4 : decode cX6_areShades 4 = .ok (.iload_n 3, 1) ∧ 4 + 1 = 5 := ⟨by decide +kernel, rfl⟩
theorem iX6_areShades_5 : decode cX6_areShades 5 = .ok (.aload_n 0, 1) ∧ 5 + 1 = 6 := ⟨by decide +kernel, rfl⟩
theorem iX6_areShades_6 : decode cX6_areShades 6 = .ok (.invokevirtual 131, 3) ∧ 6 + 3 = 9 := ⟨by decide +kernel, rfl⟩
theorem iX6_areShades_9 : decode cX6_areShades 9 = .ok (.if_icmp .ge 90, 3) ∧ 9 + 3 = 12 := ⟨by decide +kernel, rfl⟩
theorem iX6_areShades_12 : decode cX6_areShades 12 = .ok (.aload_n 0, 1) ∧ 12 + 1 = 13 := ⟨by decide +kernel, rfl⟩
theorem iX6_areShades_13 : decode cX6_areShades 13 = .ok (.getfield 116, 3) ∧ 13 + 3 = 16 := ⟨by decide +kernel, rfl⟩
theorem iX6_areShades_16 : decode cX6_areShades 16 = .ok (.iload_n 3, 1) ∧ 16 + 1 = 17 := ⟨by decide +kernel, rfl⟩
theorem iX6_areShades_17 : decode cX6_areShades 17 = .ok (.invokestatic 92, 3) ∧ 17 + 3 = 20 := ⟨by decide +kernel, rfl⟩
theorem iX6_areShades_20 : decode cX6_areShades 20 = .ok (.ifCond .eq 9, 3) ∧ 20 + 3 = 23 := ⟨by decide +kernel, rfl⟩
theorem iX6_areShades_23 : decode cX6_areShades 23 = .ok (.iconst 1, 1) ∧ 23 + 1 = 24 := ⟨by decide +kernel, rfl⟩
theorem iX6_areShades_24 : decode cX6_areShades 24 = .ok (.iload_n 3, 1) ∧ 24 + 1 = 25 := ⟨by decide +kernel, rfl⟩
theorem iX6_areShades_25 : decode cX6_areShades 25 = .ok (.ishl, 1) ∧ 25 + 1 = 26 := ⟨by decide +kernel, rfl⟩
theorem iX6_areShades_26 : decode cX6_areShades 26 = .ok (.goto 4, 3) ∧ 26 + 3 = 29 := ⟨by decide +kernel, rfl⟩
theorem iX6_areShades_29 : decode cX6_areShades 29 = .ok (.iconst 0, 1) ∧ 29 + 1 = 30 := ⟨by decide +kernel, rfl⟩
theorem iX6_areShades_30 : decode cX6_areShades 30 = .ok (.istore 4, 2) ∧ 30 + 2 = 32 := ⟨by decide +kernel, rfl⟩
theorem iX6_areShades_32 : decode cX6_areShades 32 = .ok (.iconst 0, 1) ∧ 32 + 1 = 33 := ⟨by decide +kernel, rfl⟩
theorem iX6_areShades_33 : decode cX6_areShades 33 = .ok (.istore 5, 2) ∧ 33 + 2 = 35 := ⟨by decide +kernel, rfl⟩
theorem iX6_areShades_35 : decode cX6_areShades 35 = .ok (.iconst 0, 1) ∧ 35 + 1 = 36 := ⟨by decide +kernel, rfl⟩
theorem iX6_areShades_36 : decode cX6_areShades 36 = .ok (.istore 6, 2) ∧ 36 + 2 = 38 := ⟨by decide +kernel, rfl⟩
theorem iX6_areShades_38 : decode cX6_areShades 38 = .ok (.iload 6, 2) ∧ 38 + 2 = 40 := ⟨by decide +kernel, rfl⟩
theorem iX6_areShades_40 : decode cX6_areShades 40 = .ok (.bipush 12, 2) ∧ 40 + 2 = 42 := ⟨by decide +kernel, rfl⟩
theorem iX6_areShades_42 : decode cX6_areShades 42 = .ok (.if_icmp .ge 33, 3) ∧ 42 + 3 = 45 := ⟨by decide +kernel, rfl⟩
theorem iX6_areShades_45 : decode cX6_areShades 45 = .ok (.iload 5, 2) ∧ 45 + 2 = 47 := ⟨by decide +kernel, rfl⟩
theorem iX6_areShades_47 : decode cX6_areShades 47 = .ok (.aload_n 0, 1) ∧ 47 + 1 = 48 := ⟨by decide +kernel, rfl⟩
theorem iX6_areShades_48 : decode cX6_areShades 48 = .ok (.iload_n 1, 1) ∧ 48 + 1 = 49 := ⟨by decide +kernel, rfl⟩
theorem iX6_areShades_49 : decode cX6_areShades 49 = .ok (.iload 4, 2) ∧ 49 + 2 = 51 := ⟨by decide +kernel, rfl⟩
theorem iX6_areShades_51 : decode cX6_areShades 51 = .ok (.invokevirtual 188, 3) ∧ 51 + 3 = 54 := ⟨by decide +kernel, rfl⟩
theorem iX6_areShades_54 : decode cX6_areShades 54 = .ok (.ior, 1) ∧ 54 + 1 = 55 := ⟨by decide +kernel, rfl⟩
theorem iX6_areShades_55 : decode cX6_areShades 55 = .ok (.istore 5, 2) ∧ 55 + 2 = 57 := ⟨by decide +kernel, rfl⟩
theorem iX6_areShades_57 : decode cX6_areShades 57 = .ok (.iload 4, 2) ∧ 57 + 2 = 59 := ⟨by decide +kernel, rfl⟩
theorem iX6_areShades_59 : decode cX6_areShades 59 = .ok (.aload_n 0, 1) ∧ 59 + 1 = 60 := ⟨by decide +kernel, rfl⟩
theorem iX6_areShades_60 : decode cX6_areShades 60 = .ok (.iload_n 1, 1) ∧ 60 + 1 = 61 := ⟨by decide +kernel, rfl⟩
theorem iX6_areShades_61 : decode cX6_areShades 61 = .ok (.iload 5, 2) ∧ 61 + 2 = 63 := ⟨by decide +kernel, rfl⟩
theorem iX6_areShades_63 : decode cX6_areShades 63 = .ok (.invokevirtual 188, 3) ∧ 63 + 3 = 66 := ⟨by decide +kernel, rfl⟩
theorem iX6_areShades_66 : decode cX6_areShades 66 = .ok (.ior, 1) ∧ 66 + 1 = 67 := ⟨by decide +kernel, rfl⟩
theorem iX6_areShades_67 : decode cX6_areShades 67 = .ok (.istore 4, 2) ∧ 67 + 2 = 69 := ⟨by decide +kernel, rfl⟩
theorem iX6_areShades_69 : decode cX6_areShades 69 = .ok (.iinc 6 1, 3) ∧ 69 + 3 = 72 := ⟨by decide +kernel, rfl⟩
theorem iX6_areShades_72 : decode cX6_areShades 72 = .ok (.goto (-34), 3) ∧ 72 + 3 = 75 := ⟨by decide +kernel, rfl⟩
theorem iX6_areShades_75 : decode cX6_areShades 75 = .ok (.iload_n 2, 1) ∧ 75 + 1 = 76 := ⟨by decide +kernel, rfl⟩
theorem iX6_areShades_76 : decode cX6_areShades 76 = .ok (.ifCond .eq 15, 3) ∧ 76 + 3 = 79 := ⟨by decide +kernel, rfl⟩
theorem iX6_areShades_79 : decode cX6_areShades 79 = .ok (.iload 4, 2) ∧ 79 + 2 = 81 := ⟨by decide +kernel, rfl⟩
theorem iX6_areShades_81 : decode cX6_areShades 81 = .ok (.iload 5, 2) ∧ 81 + 2 = 83 := ⟨by decide +kernel, rfl⟩
theorem iX6_areShades_83 : decode cX6_areShades 83 = .ok (.iand, 1) ∧ 83 + 1 = 84 := ⟨by decide +kernel, rfl⟩
theorem iX6_areShades_84 : decode cX6_areShades 84 = .ok (.ifCond .ne 7, 3) ∧ 84 + 3 = 87 := ⟨by decide +kernel, rfl⟩
theorem iX6_areShades_87 : decode cX6_areShades 87 = .ok (.iconst 1, 1) ∧ 87 + 1 = 88 := ⟨by decide +kernel, rfl⟩
theorem iX6_areShades_88 : decode cX6_areShades 88 = .ok (.goto 4, 3) ∧ 88 + 3 = 91 := ⟨by decide +kernel, rfl⟩
theorem iX6_areShades_91 : decode cX6_areShades 91 = .ok (.iconst 0, 1) ∧ 91 + 1 = 92 := ⟨by decide +kernel, rfl⟩
theorem iX6_areShades_92 : decode cX6_areShades 92 = .ok (.istore_n 2, 1) ∧ 92 + 1 = 93 := ⟨by decide +kernel, rfl⟩
theorem iX6_areShades_93 : decode cX6_areShades 93 = .ok (.iinc 3 1, 3) ∧ 93 + 3 = 96 := ⟨by decide +kernel, rfl⟩
theorem iX6_areShades_96 : decode cX6_areShades 96 = .ok (.goto (-92), 3) ∧ 96 + 3 = 99 := ⟨by decide +kernel, rfl⟩
theorem iX6_areShades_99 : decode cX6_areShades 99 = .ok (.iload_n 2, 1) ∧ 99 + 1 = 100 := ⟨by decide +kernel, rfl⟩
theorem iX6_areShades_100 : decode cX6_areShades 100 = .ok (.ireturn, 1) ∧ 100 + 1 = 101 := ⟨by decide +kernel, rfl⟩
theorem iX6_partsTold_0 : decode cX6_partsTold 0 = .ok (.iload_n 2, 1) ∧ 0 + 1 = 1 := ⟨by decide +kernel, rfl⟩
theorem iX6_partsTold_1 : decode cX6_partsTold 1 = .ok (.ifCond .ne 11, 3) ∧ 1 + 3 = 4 := ⟨by decide +kernel, rfl⟩
theorem iX6_partsTold_4 : decode cX6_partsTold 4 = .ok (.aload_n 0, 1) ∧ 4 + 1 = 5 := ⟨by decide +kernel, rfl⟩
theorem iX6_partsTold_5 : decode cX6_partsTold 5 = .ok (.iload_n 1, 1) ∧ 5 + 1 = 6 := ⟨by decide +kernel, rfl⟩
theorem iX6_partsTold_6 : decode cX6_partsTold 6 = .ok (.invokevirtual 240, 3) ∧ 6 + 3 = 9 := ⟨by decide +kernel, rfl⟩
theorem iX6_partsTold_9 : decode cX6_partsTold 9 = .ok (.goto 16, 3) ∧ 9 + 3 = 12 := ⟨by decide +kernel, rfl⟩
theorem iX6_partsTold_12 : decode cX6_partsTold 12 = .ok (.aload_n 0, 1) ∧ 12 + 1 = 13 := ⟨by decide +kernel, rfl⟩
theorem iX6_partsTold_13 : decode cX6_partsTold 13 = .ok (.iload_n 1, 1) ∧ 13 + 1 = 14 := ⟨by decide +kernel, rfl⟩
theorem iX6_partsTold_14 : decode cX6_partsTold 14 = .ok (.invokevirtual 243, 3) ∧ 14 + 3 = 17 := ⟨by decide +kernel, rfl⟩
theorem iX6_partsTold_17 : decode cX6_partsTold 17 = .ok (.ifCond .eq 7, 3) ∧ 17 + 3 = 20 := ⟨by decide +kernel, rfl⟩
theorem iX6_partsTold_20 : decode cX6_partsTold 20 = .ok (.iconst 1, 1) ∧ 20 + 1 = 21 := ⟨by decide +kernel, rfl⟩
theorem iX6_partsTold_21 : decode cX6_partsTold 21 = .ok (.goto 4, 3) ∧ 21 + 3 = 24 := ⟨by decide +kernel, rfl⟩
theorem iX6_partsTold_24 : decode cX6_partsTold 24 = .ok (.iconst 0, 1) ∧ 24 + 1 = 25 := ⟨by decide +kernel, rfl⟩
theorem iX6_partsTold_25 : decode cX6_partsTold 25 = .ok (.ireturn, 1) ∧ 25 + 1 = 26 := ⟨by decide +kernel, rfl⟩
theorem iX6_parts_0 : decode cX6_parts 0 = .ok (.aload_n 0, 1) ∧ 0 + 1 = 1 := ⟨by decide +kernel, rfl⟩
theorem iX6_parts_1 : decode cX6_parts 1 = .ok (.iload_n 1, 1) ∧ 1 + 1 = 2 := ⟨by decide +kernel, rfl⟩
theorem iX6_parts_2 : decode cX6_parts 2 = .ok (.iload_n 2, 1) ∧ 2 + 1 = 3 := ⟨by decide +kernel, rfl⟩
theorem iX6_parts_3 : decode cX6_parts 3 = .ok (.invokevirtual 225, 3) ∧ 3 + 3 = 6 := ⟨by decide +kernel, rfl⟩
theorem iX6_parts_6 : decode cX6_parts 6 = .ok (.ifCond .ge 12, 3) ∧ 6 + 3 = 9 := ⟨by decide +kernel, rfl⟩
theorem iX6_parts_9 : decode cX6_parts 9 = .ok (.aload_n 0, 1) ∧ 9 + 1 = 10 := ⟨by decide +kernel, rfl⟩
theorem iX6_parts_10 : decode cX6_parts 10 = .ok (.iload_n 1, 1) ∧ 10 + 1 = 11 := ⟨by decide +kernel, rfl⟩
theorem iX6_parts_11 : decode cX6_parts 11 = .ok (.iload_n 2, 1) ∧ 11 + 1 = 12 := ⟨by decide +kernel, rfl⟩
theorem iX6_parts_12 : decode cX6_parts 12 = .ok (.invokevirtual 225, 3) ∧ 12 + 3 = 15 := ⟨by decide +kernel, rfl⟩
theorem iX6_parts_15 : decode cX6_parts 15 = .ok (.goto 9, 3) ∧ 15 + 3 = 18 := ⟨by decide +kernel, rfl⟩
theorem iX6_parts_18 : decode cX6_parts 18 = .ok (.aload_n 0, 1) ∧ 18 + 1 = 19 := ⟨by decide +kernel, rfl⟩
theorem iX6_parts_19 : decode cX6_parts 19 = .ok (.iload_n 1, 1) ∧ 19 + 1 = 20 := ⟨by decide +kernel, rfl⟩
theorem iX6_parts_20 : decode cX6_parts 20 = .ok (.iload_n 2, 1) ∧ 20 + 1 = 21 := ⟨by decide +kernel, rfl⟩
theorem iX6_parts_21 : decode cX6_parts 21 = .ok (.invokevirtual 246, 3) ∧ 21 + 3 = 24 := ⟨by decide +kernel, rfl⟩
theorem iX6_parts_24 : decode cX6_parts 24 = .ok (.ireturn, 1) ∧ 24 + 1 = 25 := ⟨by decide +kernel, rfl⟩
theorem iX6_chanceFrom_0 : decode cX6_chanceFrom 0 = .ok (.aload_n 0, 1) ∧ 0 + 1 = 1 := ⟨by decide +kernel, rfl⟩
theorem iX6_chanceFrom_1 : decode cX6_chanceFrom 1 = .ok (.iload_n 1, 1) ∧ 1 + 1 = 2 := ⟨by decide +kernel, rfl⟩
theorem iX6_chanceFrom_2 : decode cX6_chanceFrom 2 = .ok (.iload_n 2, 1) ∧ 2 + 1 = 3 := ⟨by decide +kernel, rfl⟩
theorem iX6_chanceFrom_3 : decode cX6_chanceFrom 3 = .ok (.invokevirtual 145, 3) ∧ 3 + 3 = 6 := ⟨by decide +kernel, rfl⟩
theorem iX6_chanceFrom_6 : decode cX6_chanceFrom 6 = .ok (.iload_n 3, 1) ∧ 6 + 1 = 7 := ⟨by decide +kernel, rfl⟩
theorem iX6_chanceFrom_7 : decode cX6_chanceFrom 7 = .ok (.iconst (-1), 1) ∧ 7 + 1 = 8 := ⟨by decide +kernel, rfl⟩
theorem iX6_chanceFrom_8 : decode cX6_chanceFrom 8 = .ok (.ixor, 1) ∧ 8 + 1 = 9 := ⟨by decide +kernel, rfl⟩
theorem iX6_chanceFrom_9 : decode cX6_chanceFrom 9 = .ok (.iand, 1) ∧ 9 + 1 = 10 := ⟨by decide +kernel, rfl⟩
theorem iX6_chanceFrom_10 : decode cX6_chanceFrom 10 = .ok (.istore 4, 2) ∧ 10 + 2 = 12 := ⟨by decide +kernel, rfl⟩
theorem iX6_chanceFrom_12 : decode cX6_chanceFrom 12 = .ok (.iconst 0, 1) ∧ 12 + 1 = 13 := ⟨by decide +kernel, rfl⟩
theorem iX6_chanceFrom_13 : decode cX6_chanceFrom 13 = .ok (.istore 5, 2) ∧ 13 + 2 = 15 := ⟨by decide +kernel, rfl⟩
theorem iX6_chanceFrom_15 : decode cX6_chanceFrom 15 = .ok (.iconst 0, 1) ∧ 15 + 1 = 16 := ⟨by decide +kernel, rfl⟩
theorem iX6_chanceFrom_16 : decode cX6_chanceFrom 16 = .ok (.istore 6, 2) ∧ 16 + 2 = 18 := ⟨by decide +kernel, rfl⟩
theorem iX6_chanceFrom_18 : decode cX6_chanceFrom 18 = .ok (.iconst 0, 1) ∧ 18 + 1 = 19 := ⟨by decide +kernel, rfl⟩
theorem iX6_chanceFrom_19 : decode cX6_chanceFrom 19 = .ok (.istore 7, 2) ∧ 19 + 2 = 21 := ⟨by decide +kernel, rfl⟩
theorem iX6_chanceFrom_21 : decode cX6_chanceFrom 21 = .ok (.iload 7, 2) ∧ 21 + 2 = 23 := ⟨by decide +kernel, rfl⟩
theorem iX6_chanceFrom_23 : decode cX6_chanceFrom 23 = .ok (.aload_n 0, 1) ∧ 23 + 1 = 24 := ⟨by decide +kernel, rfl⟩
theorem iX6_chanceFrom_24 : decode cX6_chanceFrom 24 = .ok (.invokevirtual 131, 3) ∧ 24 + 3 = 27 := ⟨by decide +kernel, rfl⟩
theorem iX6_chanceFrom_27 : decode cX6_chanceFrom 27 = .ok (.if_icmp .ge 47, 3) ∧ 27 + 3 = 30 := ⟨by decide +kernel, rfl⟩
theorem iX6_chanceFrom_30 : decode cX6_chanceFrom 30 = .ok (.iload 5, 2) ∧ 30 + 2 = 32 := ⟨by decide +kernel, rfl⟩
theorem iX6_chanceFrom_32 : decode cX6_chanceFrom 32 = .ok (.iload 4, 2) ∧ 32 + 2 = 34 := ⟨by decide +kernel, rfl⟩
theorem iX6_chanceFrom_34 : decode cX6_chanceFrom 34 = .ok (.iload 7, 2) ∧ 34 + 2 = 36 := ⟨by decide +kernel, rfl⟩
theorem iX6_chanceFrom_36 : decode cX6_chanceFrom 36 = .ok (.ishr, 1) ∧ 36 + 1 = 37 := ⟨by decide +kernel, rfl⟩
theorem iX6_chanceFrom_37 : decode cX6_chanceFrom 37 = .ok (.iconst 1, 1) ∧ 37 + 1 = 38 := ⟨by decide +kernel, rfl⟩
theorem iX6_chanceFrom_38 : decode cX6_chanceFrom 38 = .ok (.iand, 1) ∧ 38 + 1 = 39 := ⟨by decide +kernel, rfl⟩
theorem iX6_chanceFrom_39 : decode cX6_chanceFrom 39 = .ok (.iadd, 1) ∧ 39 + 1 = 40 := ⟨by decide +kernel, rfl⟩
theorem iX6_chanceFrom_40 : decode cX6_chanceFrom 40 = .ok (.istore 5, 2) ∧ 40 + 2 = 42 := ⟨by decide +kernel, rfl⟩
theorem iX6_chanceFrom_42 : decode cX6_chanceFrom 42 = .ok (.iload 6, 2) ∧ 42 + 2 = 44 := ⟨by decide +kernel, rfl⟩
theorem iX6_chanceFrom_44 : decode cX6_chanceFrom 44 = .ok (.iload 4, 2) ∧ 44 + 2 = 46 := ⟨by decide +kernel, rfl⟩
theorem iX6_chanceFrom_46 : decode cX6_chanceFrom 46 = .ok (.iload 7, 2) ∧ 46 + 2 = 48 := ⟨by decide +kernel, rfl⟩
theorem iX6_chanceFrom_48 : decode cX6_chanceFrom 48 = .ok (.invokestatic 92, 3) ∧ 48 + 3 = 51 := ⟨by decide +kernel, rfl⟩
theorem iX6_chanceFrom_51 : decode cX6_chanceFrom 51 = .ok (.ifCond .eq 13, 3) ∧ 51 + 3 = 54 := ⟨by decide +kernel, rfl⟩
theorem iX6_chanceFrom_54 : decode cX6_chanceFrom 54 = .ok (.aload_n 0, 1) ∧ 54 + 1 = 55 := ⟨by decide +kernel, rfl⟩
theorem iX6_chanceFrom_55 : decode cX6_chanceFrom 55 = .ok (.getfield 41, 3) ∧ 55 + 3 = 58 := ⟨by decide +kernel, rfl⟩
theorem iX6_chanceFrom_58 : decode cX6_chanceFrom 58 = .ok (.iload 7, 2) ∧ 58 + 2 = 60 := ⟨by decide +kernel, rfl⟩
theorem iX6_chanceFrom_60 : decode cX6_chanceFrom 60 = .ok (.iaload, 1) ∧ 60 + 1 = 61 := ⟨by decide +kernel, rfl⟩
theorem iX6_chanceFrom_61 : decode cX6_chanceFrom 61 = .ok (.goto 4, 3) ∧ 61 + 3 = 64 := ⟨by decide +kernel, rfl⟩
theorem iX6_chanceFrom_64 : decode cX6_chanceFrom 64 = .ok (.iconst 0, 1) ∧ 64 + 1 = 65 := ⟨by decide +kernel, rfl⟩
theorem iX6_chanceFrom_65 : decode cX6_chanceFrom 65 = .ok (.iadd, 1) ∧ 65 + 1 = 66 := ⟨by decide +kernel, rfl⟩
theorem iX6_chanceFrom_66 : decode cX6_chanceFrom 66 = .ok (.istore 6, 2) ∧ 66 + 2 = 68 := ⟨by decide +kernel, rfl⟩
theorem iX6_chanceFrom_68 : decode cX6_chanceFrom 68 = .ok (.iinc 7 1, 3) ∧ 68 + 3 = 71 := ⟨by decide +kernel, rfl⟩
theorem iX6_chanceFrom_71 : decode cX6_chanceFrom 71 = .ok (.goto (-50), 3) ∧ 71 + 3 = 74 := ⟨by decide +kernel, rfl⟩
theorem iX6_chanceFrom_74 : decode cX6_chanceFrom 74 = .ok (.iload 5, 2) ∧ 74 + 2 = 76 := ⟨by decide +kernel, rfl⟩
theorem iX6_chanceFrom_76 : decode cX6_chanceFrom 76 = .ok (.ifCond .ne 7, 3) ∧ 76 + 3 = 79 := ⟨by decide +kernel, rfl⟩
theorem iX6_chanceFrom_79 : decode cX6_chanceFrom 79 = .ok (.iconst (-1), 1) ∧ 79 + 1 = 80 := ⟨by decide +kernel, rfl⟩
theorem iX6_chanceFrom_80 : decode cX6_chanceFrom 80 = .ok (.goto 8, 3) ∧ 80 + 3 = 83 := ⟨by decide +kernel, rfl⟩
theorem iX6_chanceFrom_83 : decode cX6_chanceFrom 83 = .ok (.iload 6, 2) ∧ 83 + 2 = 85 := ⟨by decide +kernel, rfl⟩
theorem iX6_chanceFrom_85 : decode cX6_chanceFrom 85 = .ok (.iload 5, 2) ∧ 85 + 2 = 87 := ⟨by decide +kernel, rfl⟩
theorem iX6_chanceFrom_87 : decode cX6_chanceFrom 87 = .ok (.idiv, 1) ∧ 87 + 1 = 88 := ⟨by decide +kernel, rfl⟩
theorem iX6_chanceFrom_88 : decode cX6_chanceFrom 88 = .ok (.ireturn, 1) ∧ 88 + 1 = 89 := ⟨by decide +kernel, rfl⟩
theorem iX6_chanceNow_0 : decode cX6_chanceNow 0 = .ok (.iconst 0, 1) ∧ 0 + 1 = 1 := ⟨by decide +kernel, rfl⟩
theorem iX6_chanceNow_1 : decode cX6_chanceNow 1 = .ok (.istore 4, 2) ∧ 1 + 2 = 3 := ⟨by decide +kernel, rfl⟩
theorem iX6_chanceNow_3 : decode cX6_chanceNow 3 = .ok (.iload 4, 2) ∧ 3 + 2 = 5 := ⟨by decide +kernel, rfl⟩
theorem iX6_chanceNow_5 : decode cX6_chanceNow 5 = .ok (.aload_n 0, 1) ∧ 5 + 1 = 6 := ⟨by decide +kernel, rfl⟩
theorem iX6_chanceNow_6 : decode cX6_chanceNow 6 = .ok (.invokevirtual 131, 3) ∧ 6 + 3 = 9 := ⟨by decide +kernel, rfl⟩
theorem iX6_chanceNow_9 : decode cX6_chanceNow 9 = .ok (.if_icmp .ge 28, 3) ∧ 9 + 3 = 12 := ⟨by decide +kernel, rfl⟩
theorem iX6_chanceNow_12 : decode cX6_chanceNow 12 = .ok (.aload_n 0, 1) ∧ 12 + 1 = 13 := ⟨by decide +kernel, rfl⟩
theorem iX6_chanceNow_13 : decode cX6_chanceNow 13 = .ok (.getfield 41, 3) ∧ 13 + 3 = 16 := ⟨by decide +kernel, rfl⟩
theorem iX6_chanceNow_16 : decode cX6_chanceNow 16 = .ok (.iload 4, 2) ∧ 16 + 2 = 18 := ⟨by decide +kernel, rfl⟩
theorem iX6_chanceNow_18 : decode cX6_chanceNow 18 = .ok (.iload 4, 2) ∧ 18 + 2 = 20 := ⟨by decide +kernel, rfl⟩
theorem iX6_chanceNow_20 : decode cX6_chanceNow 20 = .ok (.iload_n 2, 1) ∧ 20 + 1 = 21 := ⟨by decide +kernel, rfl⟩
theorem iX6_chanceNow_21 : decode cX6_chanceNow 21 = .ok (.if_icmp .ne 8, 3) ∧ 21 + 3 = 24 := ⟨by decide +kernel, rfl⟩
theorem iX6_chanceNow_24 : decode cX6_chanceNow 24 = .ok (.ldc 249, 2) ∧ 24 + 2 = 26 := ⟨by decide +kernel, rfl⟩
theorem iX6_chanceNow_26 : decode cX6_chanceNow 26 = .ok (.goto 4, 3) ∧ 26 + 3 = 29 := ⟨by decide +kernel, rfl⟩
theorem iX6_chanceNow_29 : decode cX6_chanceNow 29 = .ok (.iconst 0, 1) ∧ 29 + 1 = 30 := ⟨by decide +kernel, rfl⟩
theorem iX6_chanceNow_30 : decode cX6_chanceNow 30 = .ok (.iastore, 1) ∧ 30 + 1 = 31 := ⟨by decide +kernel, rfl⟩
theorem iX6_chanceNow_31 : decode cX6_chanceNow 31 = .ok (.iinc 4 1, 3) ∧ 31 + 3 = 34 := ⟨by decide +kernel, rfl⟩
theorem iX6_chanceNow_34 : decode cX6_chanceNow 34 = .ok (.goto (-31), 3) ∧ 34 + 3 = 37 := ⟨by decide +kernel, rfl⟩
theorem iX6_chanceNow_37 : decode cX6_chanceNow 37 = .ok (.iconst 0, 1) ∧ 37 + 1 = 38 := ⟨by decide +kernel, rfl⟩
theorem iX6_chanceNow_38 : decode cX6_chanceNow 38 = .ok (.istore 4, 2) ∧ 38 + 2 = 40 := ⟨by decide +kernel, rfl⟩
theorem iX6_chanceNow_40 : decode cX6_chanceNow 40 = .ok (.iload 4, 2) ∧ 40 + 2 = 42 := ⟨by decide +kernel, rfl⟩
theorem iX6_chanceNow_42 : decode cX6_chanceNow 42 = .ok (.iload_n 3, 1) ∧ 42 + 1 = 43 := ⟨by decide +kernel, rfl⟩
theorem iX6_chanceNow_43 : decode cX6_chanceNow 43 = .ok (.if_icmp .ge 108, 3) ∧ 43 + 3 = 46 := ⟨by decide +kernel, rfl⟩
theorem iX6_chanceNow_46 : decode cX6_chanceNow 46 = .ok (.iconst 0, 1) ∧ 46 + 1 = 47 := ⟨by decide +kernel, rfl⟩
theorem iX6_chanceNow_47 : decode cX6_chanceNow 47 = .ok (.istore 5, 2) ∧ 47 + 2 = 49 := ⟨by decide +kernel, rfl⟩
theorem iX6_chanceNow_49 : decode cX6_chanceNow 49 = .ok (.iload 5, 2) ∧ 49 + 2 = 51 := ⟨by decide +kernel, rfl⟩
theorem iX6_chanceNow_51 : decode cX6_chanceNow 51 = .ok (.aload_n 0, 1) ∧ 51 + 1 = 52 := ⟨by decide +kernel, rfl⟩
theorem iX6_chanceNow_52 : decode cX6_chanceNow 52 = .ok (.invokevirtual 131, 3) ∧ 52 + 3 = 55 := ⟨by decide +kernel, rfl⟩
theorem iX6_chanceNow_55 : decode cX6_chanceNow 55 = .ok (.if_icmp .ge 58, 3) ∧ 55 + 3 = 58 := ⟨by decide +kernel, rfl⟩
theorem iX6_chanceNow_58 : decode cX6_chanceNow 58 = .ok (.aload_n 0, 1) ∧ 58 + 1 = 59 := ⟨by decide +kernel, rfl⟩
theorem iX6_chanceNow_59 : decode cX6_chanceNow 59 = .ok (.aload_n 0, 1) ∧ 59 + 1 = 60 := ⟨by decide +kernel, rfl⟩
theorem iX6_chanceNow_60 : decode cX6_chanceNow 60 = .ok (.getfield 7, 3) ∧ 60 + 3 = 63 := ⟨by decide +kernel, rfl⟩
theorem iX6_chanceNow_63 : decode cX6_chanceNow 63 = .ok (.iload_n 1, 1) ∧ 63 + 1 = 64 := ⟨by decide +kernel, rfl⟩
theorem iX6_chanceNow_64 : decode cX6_chanceNow 64 = .ok (.iaload, 1) ∧ 64 + 1 = 65 := ⟨by decide +kernel, rfl⟩
theorem iX6_chanceNow_65 : decode cX6_chanceNow 65 = .ok (.iload 5, 2) ∧ 65 + 2 = 67 := ⟨by decide +kernel, rfl⟩
theorem iX6_chanceNow_67 : decode cX6_chanceNow 67 = .ok (.aload_n 0, 1) ∧ 67 + 1 = 68 := ⟨by decide +kernel, rfl⟩
theorem iX6_chanceNow_68 : decode cX6_chanceNow 68 = .ok (.iload_n 1, 1) ∧ 68 + 1 = 69 := ⟨by decide +kernel, rfl⟩
theorem iX6_chanceNow_69 : decode cX6_chanceNow 69 = .ok (.invokevirtual 191, 3) ∧ 69 + 3 = 72 := ⟨by decide +kernel, rfl⟩
theorem iX6_chanceNow_72 : decode cX6_chanceNow 72 = .ok (.invokevirtual 250, 3) ∧ 72 + 3 = 75 := ⟨by decide +kernel, rfl⟩
theorem iX6_chanceNow_75 : decode cX6_chanceNow 75 = .ok (.istore 6, 2) ∧ 75 + 2 = 77 := ⟨by decide +kernel, rfl⟩
theorem iX6_chanceNow_77 : decode cX6_chanceNow 77 = .ok (.aload_n 0, 1) ∧ 77 + 1 = 78 := ⟨by decide +kernel, rfl⟩
theorem iX6_chanceNow_78 : decode cX6_chanceNow 78 = .ok (.getfield 44, 3) ∧ 78 + 3 = 81 := ⟨by decide +kernel, rfl⟩
theorem iX6_chanceNow_81 : decode cX6_chanceNow 81 = .ok (.iload 5, 2) ∧ 81 + 2 = 83 := ⟨by decide +kernel, rfl⟩
theorem iX6_chanceNow_83 : decode cX6_chanceNow 83 = .ok (.iload 6, 2) ∧ 83 + 2 = 85 := ⟨by decide +kernel, rfl⟩
theorem iX6_chanceNow_85 : decode cX6_chanceNow 85 = .ok (.iconst (-1), 1) ∧ 85 + 1 = 86 := ⟨by decide +kernel, rfl⟩
theorem iX6_chanceNow_86 : decode cX6_chanceNow 86 = .ok (.if_icmp .eq 8, 3) ∧ 86 + 3 = 89 := ⟨by decide +kernel, rfl⟩
theorem iX6_chanceNow_89 : decode cX6_chanceNow 89 = .ok (.iload 6, 2) ∧ 89 + 2 = 91 := ⟨by decide +kernel, rfl⟩
theorem iX6_chanceNow_91 : decode cX6_chanceNow 91 = .ok (.goto 15, 3) ∧ 91 + 3 = 94 := ⟨by decide +kernel, rfl⟩
theorem iX6_chanceNow_94 : decode cX6_chanceNow 94 = .ok (.iload 5, 2) ∧ 94 + 2 = 96 := ⟨by decide +kernel, rfl⟩
theorem iX6_chanceNow_96 : decode cX6_chanceNow 96 = .ok (.iload_n 2, 1) ∧ 96 + 1 = 97 := ⟨by decide +kernel, rfl⟩
theorem iX6_chanceNow_97 : decode cX6_chanceNow 97 = .ok (.if_icmp .ne 8, 3) ∧ 97 + 3 = 100 := ⟨by decide +kernel, rfl⟩
theorem iX6_chanceNow_100 : decode cX6_chanceNow 100 = .ok (.ldc 249, 2) ∧ 100 + 2 = 102 := ⟨by decide +kernel, rfl⟩
theorem iX6_chanceNow_102 : decode cX6_chanceNow 102 = .ok (.goto 4, 3) ∧ 102 + 3 = 105 := ⟨by decide +kernel, rfl⟩
theorem iX6_chanceNow_105 : decode cX6_chanceNow 105 = .ok (.iconst 0, 1) ∧ 105 + 1 = 106 := ⟨by decide +kernel, rfl⟩
theorem iX6_chanceNow_106 : decode cX6_chanceNow 106 = .ok (.iastore, 1) ∧ 106 + 1 = 107 := ⟨by decide +kernel, rfl⟩
theorem iX6_chanceNow_107 : decode cX6_chanceNow 107 = .ok (.iinc 5 1, 3) ∧ 107 + 3 = 110 := ⟨by decide +kernel, rfl⟩
theorem iX6_chanceNow_110 : decode cX6_chanceNow 110 = .ok (.goto (-61), 3) ∧ 110 + 3 = 113 := ⟨by decide +kernel, rfl⟩
theorem iX6_chanceNow_113 : decode cX6_chanceNow 113 = .ok (.iconst 0, 1) ∧ 113 + 1 = 114 := ⟨by decide +kernel, rfl⟩
theorem iX6_chanceNow_114 : decode cX6_chanceNow 114 = .ok (.istore 5, 2) ∧ 114 + 2 = 116 := ⟨by decide +kernel, rfl⟩
theorem iX6_chanceNow_116 : decode cX6_chanceNow 116 = .ok (.iload 5, 2) ∧ 116 + 2 = 118 := ⟨by decide +kernel, rfl⟩
theorem iX6_chanceNow_118 : decode cX6_chanceNow 118 = .ok (.aload_n 0, 1) ∧ 118 + 1 = 119 := ⟨by decide +kernel, rfl⟩
theorem iX6_chanceNow_119 : decode cX6_chanceNow 119 = .ok (.invokevirtual 131, 3) ∧ 119 + 3 = 122 := ⟨by decide +kernel, rfl⟩
theorem iX6_chanceNow_122 : decode cX6_chanceNow 122 = .ok (.if_icmp .ge 23, 3) ∧ 122 + 3 = 125 := ⟨by decide +kernel, rfl⟩
theorem iX6_chanceNow_125 : decode cX6_chanceNow 125 = .ok (.aload_n 0, 1) ∧ 125 + 1 = 126 := ⟨by decide +kernel, rfl⟩
theorem iX6_chanceNow_126 : decode cX6_chanceNow 126 = .ok (.getfield 41, 3) ∧ 126 + 3 = 129 := ⟨by decide +kernel, rfl⟩
theorem iX6_chanceNow_129 : decode cX6_chanceNow 129 = .ok (.iload 5, 2) ∧ 129 + 2 = 131 := ⟨by decide +kernel, rfl⟩
theorem iX6_chanceNow_131 : decode cX6_chanceNow 131 = .ok (.aload_n 0, 1) ∧ 131 + 1 = 132 := ⟨by decide +kernel, rfl⟩
theorem iX6_chanceNow_132 : decode cX6_chanceNow 132 = .ok (.getfield 44, 3) ∧ 132 + 3 = 135 := ⟨by decide +kernel, rfl⟩
theorem iX6_chanceNow_135 : decode cX6_chanceNow 135 = .ok (.iload 5, 2) ∧ 135 + 2 = 137 := ⟨by decide +kernel, rfl⟩
theorem iX6_chanceNow_137 : decode cX6_chanceNow 137 = .ok (.iaload, 1) ∧ 137 + 1 = 138 := ⟨by decide +kernel, rfl⟩
theorem iX6_chanceNow_138 : decode cX6_chanceNow 138 = .ok (.iastore, 1) ∧ 138 + 1 = 139 := ⟨by decide +kernel, rfl⟩
theorem iX6_chanceNow_139 : decode cX6_chanceNow 139 = .ok (.iinc 5 1, 3) ∧ 139 + 3 = 142 := ⟨by decide +kernel, rfl⟩
theorem iX6_chanceNow_142 : decode cX6_chanceNow 142 = .ok (.goto (-26), 3) ∧ 142 + 3 = 145 := ⟨by decide +kernel, rfl⟩
theorem iX6_chanceNow_145 : decode cX6_chanceNow 145 = .ok (.iinc 4 1, 3) ∧ 145 + 3 = 148 := ⟨by decide +kernel, rfl⟩
theorem iX6_chanceNow_148 : decode cX6_chanceNow 148 = .ok (.goto (-108), 3) ∧ 148 + 3 = 151 := ⟨by decide +kernel, rfl⟩
theorem iX6_chanceNow_151 : decode cX6_chanceNow 151 = .ok (.aload_n 0, 1) ∧ 151 + 1 = 152 := ⟨by decide +kernel, rfl⟩
theorem iX6_chanceNow_152 : decode cX6_chanceNow 152 = .ok (.getfield 41, 3) ∧ 152 + 3 = 155 := ⟨by decide +kernel, rfl⟩
theorem iX6_chanceNow_155 : decode cX6_chanceNow 155 = .ok (.aload_n 0, 1) ∧ 155 + 1 = 156 := ⟨by decide +kernel, rfl⟩
theorem iX6_chanceNow_156 : decode cX6_chanceNow 156 = .ok (.getfield 13, 3) ∧ 156 + 3 = 159 := ⟨by decide +kernel, rfl⟩
theorem iX6_chanceNow_159 : decode cX6_chanceNow 159 = .ok (.iload_n 1, 1) ∧ 159 + 1 = 160 := ⟨by decide +kernel, rfl⟩
theorem iX6_chanceNow_160 : decode cX6_chanceNow 160 = .ok (.iaload, 1) ∧ 160 + 1 = 161 := ⟨by decide +kernel, rfl⟩
theorem iX6_chanceNow_161 : decode cX6_chanceNow 161 = .ok (.iaload, 1) ∧ 161 + 1 = 162 := ⟨by decide +kernel, rfl⟩
theorem iX6_chanceNow_162 : decode cX6_chanceNow 162 = .ok (.ireturn, 1) ∧ 162 + 1 = 163 := ⟨by decide +kernel, rfl⟩
theorem iX6_chance_0 : decode cX6_chance 0 = .ok (.aload_n 0, 1) ∧ 0 + 1 = 1 := ⟨by decide +kernel, rfl⟩
theorem iX6_chance_1 : decode cX6_chance 1 = .ok (.iload_n 1, 1) ∧ 1 + 1 = 2 := ⟨by decide +kernel, rfl⟩
theorem iX6_chance_2 : decode cX6_chance 2 = .ok (.invokevirtual 166, 3) ∧ 2 + 3 = 5 := ⟨by decide +kernel, rfl⟩
theorem iX6_chance_5 : decode cX6_chance 5 = .ok (.ifCond .eq 11, 3) ∧ 5 + 3 = 8 := ⟨by decide +kernel, rfl⟩
theorem iX6_chance_8 : decode cX6_chance 8 = .ok (.aload_n 0, 1) ∧ 8 + 1 = 9 := ⟨by decide +kernel, rfl⟩
theorem iX6_chance_9 : decode cX6_chance 9 = .ok (.iload_n 2, 1) ∧ 9 + 1 = 10 := ⟨by decide +kernel, rfl⟩
theorem iX6_chance_10 : decode cX6_chance 10 = .ok (.invokevirtual 179, 3) ∧ 10 + 3 = 13 := ⟨by decide +kernel, rfl⟩
theorem iX6_chance_13 : decode cX6_chance 13 = .ok (.ifCond .ne 6, 3) ∧ 13 + 3 = 16 := ⟨by decide +kernel, rfl⟩
theorem iX6_chance_16 : decode cX6_chance 16 = .ok (.bipush (-101), 2) ∧ 16 + 2 = 18 := ⟨by decide +kernel, rfl⟩
theorem iX6_chance_18 : decode cX6_chance 18 = .ok (.ireturn, 1) ∧ 18 + 1 = 19 := ⟨by decide +kernel, rfl⟩
theorem iX6_chance_19 : decode cX6_chance 19 = .ok (.iload_n 3, 1) ∧ 19 + 1 = 20 := ⟨by decide +kernel, rfl⟩
theorem iX6_chance_20 : decode cX6_chance 20 = .ok (.iconst 0, 1) ∧ 20 + 1 = 21 := ⟨by decide +kernel, rfl⟩
theorem iX6_chance_21 : decode cX6_chance 21 = .ok (.bipush 6, 2) ∧ 21 + 2 = 23 := ⟨by decide +kernel, rfl⟩
theorem iX6_chance_23 : decode cX6_chance 23 = .ok (.invokestatic 68, 3) ∧ 23 + 3 = 26 := ⟨by decide +kernel, rfl⟩
theorem iX6_chance_26 : decode cX6_chance 26 = .ok (.ifCond .eq 13, 3) ∧ 26 + 3 = 29 := ⟨by decide +kernel, rfl⟩
theorem iX6_chance_29 : decode cX6_chance 29 = .ok (.aload_n 0, 1) ∧ 29 + 1 = 30 := ⟨by decide +kernel, rfl⟩
theorem iX6_chance_30 : decode cX6_chance 30 = .ok (.iload_n 1, 1) ∧ 30 + 1 = 31 := ⟨by decide +kernel, rfl⟩
theorem iX6_chance_31 : decode cX6_chance 31 = .ok (.iload_n 2, 1) ∧ 31 + 1 = 32 := ⟨by decide +kernel, rfl⟩
theorem iX6_chance_32 : decode cX6_chance 32 = .ok (.iload_n 3, 1) ∧ 32 + 1 = 33 := ⟨by decide +kernel, rfl⟩
theorem iX6_chance_33 : decode cX6_chance 33 = .ok (.invokevirtual 254, 3) ∧ 33 + 3 = 36 := ⟨by decide +kernel, rfl⟩
theorem iX6_chance_36 : decode cX6_chance 36 = .ok (.goto 5, 3) ∧ 36 + 3 = 39 := ⟨by decide +kernel, rfl⟩
theorem iX6_chance_39 : decode cX6_chance 39 = .ok (.bipush (-102), 2) ∧ 39 + 2 = 41 := ⟨by decide +kernel, rfl⟩
theorem iX6_chance_41 : decode cX6_chance 41 = .ok (.ireturn, 1) ∧ 41 + 1 = 42 := ⟨by decide +kernel, rfl⟩
theorem iX6_see_0 : decode cX6_see 0 = .ok (.aload_n 0, 1) ∧ 0 + 1 = 1 := ⟨by decide +kernel, rfl⟩
theorem iX6_see_1 : decode cX6_see 1 = .ok (.iload_n 1, 1) ∧ 1 + 1 = 2 := ⟨by decide +kernel, rfl⟩
theorem iX6_see_2 : decode cX6_see 2 = .ok (.invokevirtual 166, 3) ∧ 2 + 3 = 5 := ⟨by decide +kernel, rfl⟩
theorem iX6_see_5 : decode cX6_see 5 = .ok (.ifCond .ne 6, 3) ∧ 5 + 3 = 8 := ⟨by decide +kernel, rfl⟩
theorem iX6_see_8 : decode cX6_see 8 = .ok (.bipush (-101), 2) ∧ 8 + 2 = 10 := ⟨by decide +kernel, rfl⟩
theorem iX6_see_10 : decode cX6_see 10 = .ok (.ireturn, 1) ∧ 10 + 1 = 11 := ⟨by decide +kernel, rfl⟩
theorem iX6_see_11 : decode cX6_see 11 = .ok (.iload_n 2, 1) ∧ 11 + 1 = 12 := ⟨by decide +kernel, rfl⟩
theorem iX6_see_12 : decode cX6_see 12 = .ok (.iconst 0, 1) ∧ 12 + 1 = 13 := ⟨by decide +kernel, rfl⟩
theorem iX6_see_13 : decode cX6_see 13 = .ok (.iconst 3, 1) ∧ 13 + 1 = 14 := ⟨by decide +kernel, rfl⟩
theorem iX6_see_14 : decode cX6_see 14 = .ok (.invokestatic 68, 3) ∧ 14 + 3 = 17 := ⟨by decide +kernel, rfl⟩
theorem iX6_see_17 : decode cX6_see 17 = .ok (.ifCond .eq 12, 3) ∧ 17 + 3 = 20 := ⟨by decide +kernel, rfl⟩
theorem iX6_see_20 : decode cX6_see 20 = .ok (.iload_n 3, 1) ∧ 20 + 1 = 21 := ⟨by decide +kernel, rfl⟩
theorem iX6_see_21 : decode cX6_see 21 = .ok (.iconst 0, 1) ∧ 21 + 1 = 22 := ⟨by decide +kernel, rfl⟩
theorem iX6_see_22 : decode cX6_see 22 = .ok (.iconst 3, 1) ∧ 22 + 1 = 23 := ⟨by decide +kernel, rfl⟩
theorem iX6_see_23 : decode cX6_see 23 = .ok (.invokestatic 68, 3) ∧ 23 + 3 = 26 := ⟨by decide +kernel, rfl⟩
theorem iX6_see_26 : decode cX6_see 26 = .ok (.ifCond .ne 6, 3) ∧ 26 + 3 = 29 := ⟨by decide +kernel, rfl⟩
theorem iX6_see_29 : decode cX6_see 29 = .ok (.bipush (-102), 2) ∧ 29 + 2 = 31 := ⟨by decide +kernel, rfl⟩
theorem iX6_see_31 : decode cX6_see 31 = .ok (.ireturn, 1) ∧ 31 + 1 = 32 := ⟨by decide +kernel, rfl⟩
theorem iX6_see_32 : decode cX6_see 32 = .ok (.aload_n 0, 1) ∧ 32 + 1 = 33 := ⟨by decide +kernel, rfl⟩
theorem iX6_see_33 : decode cX6_see 33 = .ok (.getfield 128, 3) ∧ 33 + 3 = 36 := ⟨by decide +kernel, rfl⟩
theorem iX6_see_36 : decode cX6_see 36 = .ok (.bipush 6, 2) ∧ 36 + 2 = 38 := ⟨by decide +kernel, rfl⟩
theorem iX6_see_38 : decode cX6_see 38 = .ok (.if_icmp .ne 6, 3) ∧ 38 + 3 = 41 := ⟨by decide +kernel, rfl⟩
theorem iX6_see_41 : decode cX6_see 41 = .ok (.bipush (-104), 2) ∧ 41 + 2 = 43 := ⟨by decide +kernel, rfl⟩
theorem iX6_see_43 : decode cX6_see 43 = .ok (.ireturn, 1) ∧ 43 + 1 = 44 := ⟨by decide +kernel, rfl⟩
theorem iX6_see_44 : decode cX6_see 44 = .ok (.aload_n 0, 1) ∧ 44 + 1 = 45 := ⟨by decide +kernel, rfl⟩
theorem iX6_see_45 : decode cX6_see 45 = .ok (.getfield 16, 3) ∧ 45 + 3 = 48 := ⟨by decide +kernel, rfl⟩
theorem iX6_see_48 : decode cX6_see 48 = .ok (.aload_n 0, 1) ∧ 48 + 1 = 49 := ⟨by decide +kernel, rfl⟩
theorem iX6_see_49 : decode cX6_see 49 = .ok (.getfield 128, 3) ∧ 49 + 3 = 52 := ⟨by decide +kernel, rfl⟩
theorem iX6_see_52 : decode cX6_see 52 = .ok (.iload_n 1, 1) ∧ 52 + 1 = 53 := ⟨by decide +kernel, rfl⟩
theorem iX6_see_53 : decode cX6_see 53 = .ok (.iastore, 1) ∧ 53 + 1 = 54 := ⟨by decide +kernel, rfl⟩
theorem iX6_see_54 : decode cX6_see 54 = .ok (.aload_n 0, 1) ∧ 54 + 1 = 55 := ⟨by decide +kernel, rfl⟩
theorem iX6_see_55 : decode cX6_see 55 = .ok (.getfield 19, 3) ∧ 55 + 3 = 58 := ⟨by decide +kernel, rfl⟩
theorem iX6_see_58 : decode cX6_see 58 = .ok (.aload_n 0, 1) ∧ 58 + 1 = 59 := ⟨by decide +kernel, rfl⟩
theorem iX6_see_59 : decode cX6_see 59 = .ok (.getfield 128, 3) ∧ 59 + 3 = 62 := ⟨by decide +kernel, rfl⟩
theorem iX6_see_62 : decode cX6_see 62 = .ok (.iload_n 2, 1) ∧ 62 + 1 = 63 := ⟨by decide +kernel, rfl⟩
theorem iX6_see_63 : decode cX6_see 63 = .ok (.iastore, 1) ∧ 63 + 1 = 64 := ⟨by decide +kernel, rfl⟩
theorem iX6_see_64 : decode cX6_see 64 = .ok (.aload_n 0, 1) ∧ 64 + 1 = 65 := ⟨by decide +kernel, rfl⟩
theorem iX6_see_65 : decode cX6_see 65 = .ok (.getfield 22, 3) ∧ 65 + 3 = 68 := ⟨by decide +kernel, rfl⟩
theorem iX6_see_68 : decode cX6_see 68 = .ok (.aload_n 0, 1) ∧ 68 + 1 = 69 := ⟨by decide +kernel, rfl⟩
theorem iX6_see_69 : decode cX6_see 69 = .ok (.getfield 128, 3) ∧ 69 + 3 = 72 := ⟨by decide +kernel, rfl⟩
theorem iX6_see_72 : decode cX6_see 72 = .ok (.iload_n 3, 1) ∧ 72 + 1 = 73 := ⟨by decide +kernel, rfl⟩
theorem iX6_see_73 : decode cX6_see 73 = .ok (.iastore, 1) ∧ 73 + 1 = 74 := ⟨by decide +kernel, rfl⟩
theorem iX6_see_74 : decode cX6_see 74 = .ok (.aload_n 0, 1) ∧ 74 + 1 = 75 := ⟨by decide +kernel, rfl⟩
theorem iX6_see_75 : decode cX6_see 75 = .ok (.getfield 25, 3) ∧ 75 + 3 = 78 := ⟨by decide +kernel, rfl⟩
theorem iX6_see_78 : decode cX6_see 78 = .ok (.aload_n 0, 1) ∧ 78 + 1 = 79 := ⟨by decide +kernel, rfl⟩
theorem iX6_see_79 : decode cX6_see 79 = .ok (.getfield 128, 3) ∧ 79 + 3 = 82 := ⟨by decide +kernel, rfl⟩
theorem iX6_see_82 : decode cX6_see 82 = .ok (.iload 4, 2) ∧ 82 + 2 = 84 := ⟨by decide +kernel, rfl⟩
theorem iX6_see_84 : decode cX6_see 84 = .ok (.ifCond .eq 7, 3) ∧ 84 + 3 = 87 := ⟨by decide +kernel, rfl⟩
theorem iX6_see_87 : decode cX6_see 87 = .ok (.iconst 1, 1) ∧ 87 + 1 = 88 := ⟨by decide +kernel, rfl⟩
theorem iX6_see_88 : decode cX6_see 88 = .ok (.goto 4, 3) ∧ 88 + 3 = 91 := ⟨by decide +kernel, rfl⟩
theorem iX6_see_91 : decode cX6_see 91 = .ok (.iconst 0, 1) ∧ 91 + 1 = 92 := ⟨by decide +kernel, rfl⟩
theorem iX6_see_92 : decode cX6_see 92 = .ok (.iastore, 1) ∧ 92 + 1 = 93 := ⟨by decide +kernel, rfl⟩
theorem iX6_see_93 : decode cX6_see 93 = .ok (.aload_n 0, 1) ∧ 93 + 1 = 94 := ⟨by decide +kernel, rfl⟩
theorem iX6_see_94 : decode cX6_see 94 = .ok (.dup, 1) ∧ 94 + 1 = 95 := ⟨by decide +kernel, rfl⟩
theorem iX6_see_95 : decode cX6_see 95 = .ok (.getfield 128, 3) ∧ 95 + 3 = 98 := ⟨by decide +kernel, rfl⟩
theorem iX6_see_98 : decode cX6_see 98 = .ok (.iconst 1, 1) ∧ 98 + 1 = 99 := ⟨by decide +kernel, rfl⟩
theorem iX6_see_99 : decode cX6_see 99 = .ok (.iadd, 1) ∧ 99 + 1 = 100 := ⟨by decide +kernel, rfl⟩
theorem iX6_see_100 : decode cX6_see 100 = .ok (.putfield 128, 3) ∧ 100 + 3 = 103 := ⟨by decide +kernel, rfl⟩
theorem iX6_see_103 : decode cX6_see 103 = .ok (.aload_n 0, 1) ∧ 103 + 1 = 104 := ⟨by decide +kernel, rfl⟩
theorem iX6_see_104 : decode cX6_see 104 = .ok (.getfield 128, 3) ∧ 104 + 3 = 107 := ⟨by decide +kernel, rfl⟩
theorem iX6_see_107 : decode cX6_see 107 = .ok (.ireturn, 1) ∧ 107 + 1 = 108 := ⟨by decide +kernel, rfl⟩
theorem iX6_forget_0 : decode cX6_forget 0 = .ok (.aload_n 0, 1) ∧ 0 + 1 = 1 := ⟨by decide +kernel, rfl⟩
theorem iX6_forget_1 : decode cX6_forget 1 = .ok (.getfield 128, 3) ∧ 1 + 3 = 4 := ⟨by decide +kernel, rfl⟩
theorem iX6_forget_4 : decode cX6_forget 4 = .ok (.istore_n 1, 1) ∧ 4 + 1 = 5 := ⟨by decide +kernel, rfl⟩
theorem iX6_forget_5 : decode cX6_forget 5 = .ok (.aload_n 0, 1) ∧ 5 + 1 = 6 := ⟨by decide +kernel, rfl⟩
theorem iX6_forget_6 : decode cX6_forget 6 = .ok (.iconst 0, 1) ∧ 6 + 1 = 7 := ⟨by decide +kernel, rfl⟩
theorem iX6_forget_7 : decode cX6_forget 7 = .ok (.putfield 128, 3) ∧ 7 + 3 = 10 := ⟨by decide +kernel, rfl⟩
theorem iX6_forget_10 : decode cX6_forget 10 = .ok (.iload_n 1, 1) ∧ 10 + 1 = 11 := ⟨by decide +kernel, rfl⟩
theorem iX6_forget_11 : decode cX6_forget 11 = .ok (.ireturn, 1) ∧ 11 + 1 = 12 := ⟨by decide +kernel, rfl⟩
theorem iX6_sortsOf_0 : decode cX6_sortsOf 0 = .ok (.iconst 0, 1) ∧ 0 + 1 = 1 := ⟨by decide +kernel, rfl⟩
theorem iX6_sortsOf_1 : decode cX6_sortsOf 1 = .ok (.istore_n 2, 1) ∧ 1 + 1 = 2 := ⟨by decide +kernel, rfl⟩
theorem iX6_sortsOf_2 : decode cX6_sortsOf 2 = .ok (.iconst 0, 1) ∧ 2 + 1 = 3 := ⟨by decide +kernel, rfl⟩
theorem iX6_sortsOf_3 : decode cX6_sortsOf 3 = .ok (.istore_n 3, 1) ∧ 3 + 1 = 4 := ⟨by decide +kernel, rfl⟩
theorem iX6_sortsOf_4 : decode cX6_sortsOf 4 = .ok (.iload_n 3, 1) ∧ 4 + 1 = 5 := ⟨by decide +kernel, rfl⟩
theorem iX6_sortsOf_5 : decode cX6_sortsOf 5 = .ok (.iconst 4, 1) ∧ 5 + 1 = 6 := ⟨by decide +kernel, rfl⟩
theorem iX6_sortsOf_6 : decode cX6_sortsOf 6 = .ok (.if_icmp .gt 105, 3) ∧ 6 + 3 = 9 := ⟨by decide +kernel, rfl⟩
theorem iX6_sortsOf_9 : decode cX6_sortsOf 9 = .ok (.iconst 1, 1) ∧ 9 + 1 = 10 := ⟨by decide +kernel, rfl⟩
theorem iX6_sortsOf_10 : decode cX6_sortsOf 10 = .ok (.istore 4, 2) ∧ 10 + 2 = 12 := ⟨by decide +kernel, rfl⟩
theorem iX6_sortsOf_12 : decode cX6_sortsOf 12 = .ok (.iconst 0, 1) ∧ 12 + 1 = 13 := ⟨by decide +kernel, rfl⟩
theorem iX6_sortsOf_13 : decode cX6_sortsOf 13 = .ok (.istore 5, 2) ∧ 13 + 2 = 15 := ⟨by decide +kernel, rfl⟩
theorem iX6_sortsOf_15 : decode cX6_sortsOf 15 = .ok (.iload 5, 2) ∧ 15 + 2 = 17 := ⟨by decide +kernel, rfl⟩
theorem iX6_sortsOf_17 : decode cX6_sortsOf 17 = .ok (.aload_n 0, 1) ∧ 17 + 1 = 18 := ⟨by decide +kernel, rfl⟩
theorem iX6_sortsOf_18 : decode cX6_sortsOf 18 = .ok (.getfield 128, 3) ∧ 18 + 3 = 21 := ⟨by decide +kernel, rfl⟩
theorem iX6_sortsOf_21 : decode cX6_sortsOf 21 = .ok (.if_icmp .ge 69, 3) ∧ 21 + 3 = 24 := ⟨by decide +kernel, rfl⟩
theorem iX6_sortsOf_24 : decode cX6_sortsOf 24 = .ok (.iload 4, 2) ∧ 24 + 2 = 26 := ⟨by decide +kernel, rfl⟩
theorem iX6_sortsOf_26 : decode cX6_sortsOf 26 = .ok (.ifCond .eq 55, 3) ∧ 26 + 3 = 29 := ⟨by decide +kernel, rfl⟩
theorem iX6_sortsOf_29 : decode cX6_sortsOf 29 = .ok (.aload_n 0, 1) ∧ 29 + 1 = 30 := ⟨by decide +kernel, rfl⟩
theorem iX6_sortsOf_30 : decode cX6_sortsOf 30 = .ok (.getfield 16, 3) ∧ 30 + 3 = 33 := ⟨by decide +kernel, rfl⟩
theorem iX6_sortsOf_33 : decode cX6_sortsOf 33 = .ok (.iload 5, 2) ∧ 33 + 2 = 35 := ⟨by decide +kernel, rfl⟩
theorem iX6_sortsOf_35 : decode cX6_sortsOf 35 = .ok (.iaload, 1) ∧ 35 + 1 = 36 := ⟨by decide +kernel, rfl⟩
theorem iX6_sortsOf_36 : decode cX6_sortsOf 36 = .ok (.iload_n 1, 1) ∧ 36 + 1 = 37 := ⟨by decide +kernel, rfl⟩
theorem iX6_sortsOf_37 : decode cX6_sortsOf 37 = .ok (.if_icmp .ne 40, 3) ∧ 37 + 3 = 40 := ⟨by decide +kernel, rfl⟩
theorem iX6_sortsOf_40 : decode cX6_sortsOf 40 = .ok (.iload_n 3, 1) ∧ 40 + 1 = 41 := ⟨by decide +kernel, rfl⟩
theorem iX6_sortsOf_41 : decode cX6_sortsOf 41 = .ok (.aload_n 0, 1) ∧ 41 + 1 = 42 := ⟨by decide +kernel, rfl⟩
theorem iX6_sortsOf_42 : decode cX6_sortsOf 42 = .ok (.getfield 19, 3) ∧ 42 + 3 = 45 := ⟨by decide +kernel, rfl⟩
theorem iX6_sortsOf_45 : decode cX6_sortsOf 45 = .ok (.iload 5, 2) ∧ 45 + 2 = 47 := ⟨by decide +kernel, rfl⟩
theorem iX6_sortsOf_47 : decode cX6_sortsOf 47 = .ok (.iaload, 1) ∧ 47 + 1 = 48 := ⟨by decide +kernel, rfl⟩
theorem iX6_sortsOf_48 : decode cX6_sortsOf 48 = .ok (.aload_n 0, 1) ∧ 48 + 1 = 49 := ⟨by decide +kernel, rfl⟩
theorem iX6_sortsOf_49 : decode cX6_sortsOf 49 = .ok (.getfield 22, 3) ∧ 49 + 3 = 52 := ⟨by decide +kernel, rfl⟩
theorem iX6_sortsOf_52 : decode cX6_sortsOf 52 = .ok (.iload 5, 2) ∧ 52 + 2 = 54 := ⟨by decide +kernel, rfl⟩
theorem iX6_sortsOf_54 : decode cX6_sortsOf 54 = .ok (.iaload, 1) ∧ 54 + 1 = 55 := ⟨by decide +kernel, rfl⟩
theorem iX6_sortsOf_55 : decode cX6_sortsOf 55 = .ok (.invokestatic 142, 3) ∧ 55 + 3 = 58 := ⟨by decide +kernel, rfl⟩
theorem iX6_sortsOf_58 : decode cX6_sortsOf 58 = .ok (.aload_n 0, 1) ∧ 58 + 1 = 59 := ⟨by decide +kernel, rfl⟩
theorem iX6_sortsOf_59 : decode cX6_sortsOf 59 = .ok (.getfield 25, 3) ∧ 59 + 3 = 62 := ⟨by decide +kernel, rfl⟩
theorem iX6_sortsOf_62 : decode cX6_sortsOf 62 = .ok (.iload 5, 2) ∧ 62 + 2 = 64 := ⟨by decide +kernel, rfl⟩
theorem iX6_sortsOf_64 : decode cX6_sortsOf 64 = .ok (.iaload, 1) ∧ 64 + 1 = 65 := ⟨by decide +kernel, rfl⟩
theorem iX6_sortsOf_65 : decode cX6_sortsOf 65 = .ok (.iconst 1, 1) ∧ 65 + 1 = 66 := ⟨by decide +kernel, rfl⟩
theorem iX6_sortsOf_66 : decode cX6_sortsOf 66 = .ok (.if_icmp .ne 7, 3) ∧ 66 + 3 = 69 := ⟨by decide +kernel, rfl⟩
theorem iX6_sortsOf_69 : decode cX6_sortsOf 69 = .ok (.iconst 1, 1) ∧ 69 + 1 = 70 := ⟨by decide +kernel, rfl⟩
theorem iX6_sortsOf_70 : decode cX6_sortsOf 70 = .ok (.goto 4, 3) ∧ 70 + 3 = 73 := ⟨by decide +kernel, rfl⟩
theorem iX6_sortsOf_73 : decode cX6_sortsOf 73 = .ok (.iconst 0, 1) ∧ 73 + 1 = 74 := ⟨by decide +kernel, rfl⟩
theorem iX6_sortsOf_74 : decode cX6_sortsOf 74 = .ok (.if_icmp .ne 7, 3) ∧ 74 + 3 = 77 := ⟨by decide +kernel, rfl⟩
theorem iX6_sortsOf_77 : decode cX6_sortsOf 77 = .ok (.iconst 1, 1) ∧ 77 + 1 = 78 := ⟨by decide +kernel, rfl⟩
theorem iX6_sortsOf_78 : decode cX6_sortsOf 78 = .ok (.goto 4, 3) ∧ 78 + 3 = 81 := ⟨by decide +kernel, rfl⟩
theorem iX6_sortsOf_81 : decode cX6_sortsOf 81 = .ok (.iconst 0, 1) ∧ 81 + 1 = 82 := ⟨by decide +kernel, rfl⟩
theorem iX6_sortsOf_82 : decode cX6_sortsOf 82 = .ok (.istore 4, 2) ∧ 82 + 2 = 84 := ⟨by decide +kernel, rfl⟩
theorem iX6_sortsOf_84 : decode cX6_sortsOf 84 = .ok (.iinc 5 1, 3) ∧ 84 + 3 = 87 := ⟨by decide +kernel, rfl⟩
theorem iX6_sortsOf_87 : decode cX6_sortsOf 87 = .ok (.goto (-72), 3) ∧ 87 + 3 = 90 := ⟨by decide +kernel, rfl⟩
theorem iX6_sortsOf_90 : decode cX6_sortsOf 90 = .ok (.iload_n 2, 1) ∧ 90 + 1 = 91 := ⟨by decide +kernel, rfl⟩
theorem iX6_sortsOf_91 : decode cX6_sortsOf 91 = .ok (.iload 4, 2) ∧ 91 + 2 = 93 := ⟨by decide +kernel, rfl⟩
theorem iX6_sortsOf_93 : decode cX6_sortsOf 93 = .ok (.ifCond .eq 9, 3) ∧ 93 + 3 = 96 := ⟨by decide +kernel, rfl⟩
theorem iX6_sortsOf_96 : decode cX6_sortsOf 96 = .ok (.iconst 1, 1) ∧ 96 + 1 = 97 := ⟨by decide +kernel, rfl⟩
theorem iX6_sortsOf_97 : decode cX6_sortsOf 97 = .ok (.iload_n 3, 1) ∧ 97 + 1 = 98 := ⟨by decide +kernel, rfl⟩
theorem iX6_sortsOf_98 : decode cX6_sortsOf 98 = .ok (.ishl, 1) ∧ 98 + 1 = 99 := ⟨by decide +kernel, rfl⟩
theorem iX6_sortsOf_99 : decode cX6_sortsOf 99 = .ok (.goto 4, 3) ∧ 99 + 3 = 102 := ⟨by decide +kernel, rfl⟩
theorem iX6_sortsOf_102 : decode cX6_sortsOf 102 = .ok (.iconst 0, 1) ∧ 102 + 1 = 103 := ⟨by decide +kernel, rfl⟩
theorem iX6_sortsOf_103 : decode cX6_sortsOf 103 = .ok (.ior, 1) ∧ 103 + 1 = 104 := ⟨by decide +kernel, rfl⟩
theorem iX6_sortsOf_104 : decode cX6_sortsOf 104 = .ok (.istore_n 2, 1) ∧ 104 + 1 = 105 := ⟨by decide +kernel, rfl⟩
theorem iX6_sortsOf_105 : decode cX6_sortsOf 105 = .ok (.iinc 3 1, 3) ∧ 105 + 3 = 108 := ⟨by decide +kernel, rfl⟩
theorem iX6_sortsOf_108 : decode cX6_sortsOf 108 = .ok (.goto (-104), 3) ∧ 108 + 3 = 111 := ⟨by decide +kernel, rfl⟩
theorem iX6_sortsOf_111 : decode cX6_sortsOf 111 = .ok (.iload_n 2, 1) ∧ 111 + 1 = 112 := ⟨by decide +kernel, rfl⟩
theorem iX6_sortsOf_112 : decode cX6_sortsOf 112 = .ok (.ireturn, 1) ∧ 112 + 1 = 113 := ⟨by decide +kernel, rfl⟩
theorem iX6_askOf_0 : decode cX6_askOf 0 = .ok (.aload_n 0, 1) ∧ 0 + 1 = 1 := ⟨by decide +kernel, rfl⟩
theorem iX6_askOf_1 : decode cX6_askOf 1 = .ok (.iload_n 1, 1) ∧ 1 + 1 = 2 := ⟨by decide +kernel, rfl⟩
theorem iX6_askOf_2 : decode cX6_askOf 2 = .ok (.invokevirtual 157, 3) ∧ 2 + 3 = 5 := ⟨by decide +kernel, rfl⟩
theorem iX6_askOf_5 : decode cX6_askOf 5 = .ok (.istore_n 2, 1) ∧ 5 + 1 = 6 := ⟨by decide +kernel, rfl⟩
theorem iX6_askOf_6 : decode cX6_askOf 6 = .ok (.iconst (-1), 1) ∧ 6 + 1 = 7 := ⟨by decide +kernel, rfl⟩
theorem iX6_askOf_7 : decode cX6_askOf 7 = .ok (.istore_n 3, 1) ∧ 7 + 1 = 8 := ⟨by decide +kernel, rfl⟩
theorem iX6_askOf_8 : decode cX6_askOf 8 = .ok (.ldc 197, 2) ∧ 8 + 2 = 10 := ⟨by decide +kernel, rfl⟩
theorem iX6_askOf_10 : decode cX6_askOf 10 = .ok (.istore 4, 2) ∧ 10 + 2 = 12 := ⟨by decide +kernel, rfl⟩
theorem iX6_askOf_12 : decode cX6_askOf 12 = .ok (.iconst 0, 1) ∧ 12 + 1 = 13 := ⟨by decide +kernel, rfl⟩
theorem iX6_askOf_13 : decode cX6_askOf 13 = .ok (.istore 5, 2) ∧ 13 + 2 = 15 := ⟨by decide +kernel, rfl⟩
theorem iX6_askOf_15 : decode cX6_askOf 15 = .ok (.iload 5, 2) ∧ 15 + 2 = 17 := ⟨by decide +kernel, rfl⟩
theorem iX6_askOf_17 : decode cX6_askOf 17 = .ok (.bipush 16, 2) ∧ 17 + 2 = 19 := ⟨by decide +kernel, rfl⟩
theorem iX6_askOf_19 : decode cX6_askOf 19 = .ok (.if_icmp .ge 131, 3) ∧ 19 + 3 = 22 := ⟨by decide +kernel, rfl⟩
theorem iX6_askOf_22 : decode cX6_askOf 22 = .ok (.iload_n 2, 1) ∧ 22 + 1 = 23 := ⟨by decide +kernel, rfl⟩
theorem iX6_askOf_23 : decode cX6_askOf 23 = .ok (.ifCond .eq 127, 3) ∧ 23 + 3 = 26 := ⟨by decide +kernel, rfl⟩
theorem iX6_askOf_26 : decode cX6_askOf 26 = .ok (.iconst 0, 1) ∧ 26 + 1 = 27 := ⟨by decide +kernel, rfl⟩
theorem iX6_askOf_27 : decode cX6_askOf 27 = .ok (.istore 6, 2) ∧ 27 + 2 = 29 := ⟨by decide +kernel, rfl⟩
theorem iX6_askOf_29 : decode cX6_askOf 29 = .ok (.iconst 0, 1) ∧ 29 + 1 = 30 := ⟨by decide +kernel, rfl⟩
theorem iX6_askOf_30 : decode cX6_askOf 30 = .ok (.istore 7, 2) ∧ 30 + 2 = 32 := ⟨by decide +kernel, rfl⟩
theorem iX6_askOf_32 : decode cX6_askOf 32 = .ok (.iload 7, 2) ∧ 32 + 2 = 34 := ⟨by decide +kernel, rfl⟩
theorem iX6_askOf_34 : decode cX6_askOf 34 = .ok (.iconst 4, 1) ∧ 34 + 1 = 35 := ⟨by decide +kernel, rfl⟩
theorem iX6_askOf_35 : decode cX6_askOf 35 = .ok (.if_icmp .gt 44, 3) ∧ 35 + 3 = 38 := ⟨by decide +kernel, rfl⟩
theorem iX6_askOf_38 : decode cX6_askOf 38 = .ok (.iload 6, 2) ∧ 38 + 2 = 40 := ⟨by decide +kernel, rfl⟩
theorem iX6_askOf_40 : decode cX6_askOf 40 = .ok (.iload_n 2, 1) ∧ 40 + 1 = 41 := ⟨by decide +kernel, rfl⟩
theorem iX6_askOf_41 : decode cX6_askOf 41 = .ok (.iload 7, 2) ∧ 41 + 2 = 43 := ⟨by decide +kernel, rfl⟩
theorem iX6_askOf_43 : decode cX6_askOf 43 = .ok (.invokestatic 92, 3) ∧ 43 + 3 = 46 := ⟨by decide +kernel, rfl⟩
theorem iX6_askOf_46 : decode cX6_askOf 46 = .ok (.ifCond .eq 23, 3) ∧ 46 + 3 = 49 := ⟨by decide +kernel, rfl⟩
theorem iX6_askOf_49 : decode cX6_askOf 49 = .ok (.iload 7, 2) ∧ 49 + 2 = 51 := ⟨by decide +kernel, rfl⟩
theorem iX6_askOf_51 : decode cX6_askOf 51 = .ok (.iload 5, 2) ∧ 51 + 2 = 53 := ⟨by decide +kernel, rfl⟩
theorem iX6_askOf_53 : decode cX6_askOf 53 = .ok (.iconst 4, 1) ∧ 53 + 1 = 54 := ⟨by decide +kernel, rfl⟩
theorem iX6_askOf_54 : decode cX6_askOf 54 = .ok (.idiv, 1) ∧ 54 + 1 = 55 := ⟨by decide +kernel, rfl⟩
theorem iX6_askOf_55 : decode cX6_askOf 55 = .ok (.iload 5, 2) ∧ 55 + 2 = 57 := ⟨by decide +kernel, rfl⟩
theorem iX6_askOf_57 : decode cX6_askOf 57 = .ok (.iconst 4, 1) ∧ 57 + 1 = 58 := ⟨by decide +kernel, rfl⟩
theorem iX6_askOf_58 : decode cX6_askOf 58 = .ok (.irem, 1) ∧ 58 + 1 = 59 := ⟨by decide +kernel, rfl⟩
theorem iX6_askOf_59 : decode cX6_askOf 59 = .ok (.invokestatic 142, 3) ∧ 59 + 3 = 62 := ⟨by decide +kernel, rfl⟩
theorem iX6_askOf_62 : decode cX6_askOf 62 = .ok (.ifCond .eq 7, 3) ∧ 62 + 3 = 65 := ⟨by decide +kernel, rfl⟩
theorem iX6_askOf_65 : decode cX6_askOf 65 = .ok (.iconst 1, 1) ∧ 65 + 1 = 66 := ⟨by decide +kernel, rfl⟩
theorem iX6_askOf_66 : decode cX6_askOf 66 = .ok (.goto 4, 3) ∧ 66 + 3 = 69 := ⟨by decide +kernel, rfl⟩
theorem iX6_askOf_69 : decode cX6_askOf 69 = .ok (.iconst 0, 1) ∧ 69 + 1 = 70 := ⟨by decide +kernel, rfl⟩
theorem iX6_askOf_70 : decode cX6_askOf 70 = .ok (.iadd, 1) ∧ 70 + 1 = 71 := ⟨by decide +kernel, rfl⟩
theorem iX6_askOf_71 : decode cX6_askOf 71 = .ok (.istore 6, 2) ∧ 71 + 2 = 73 := ⟨by decide +kernel, rfl⟩
theorem iX6_askOf_73 : decode cX6_askOf 73 = .ok (.iinc 7 1, 3) ∧ 73 + 3 = 76 := ⟨by decide +kernel, rfl⟩
theorem iX6_askOf_76 : decode cX6_askOf 76 = .ok (.goto (-44), 3) ∧ 76 + 3 = 79 := ⟨by decide +kernel, rfl⟩
theorem iX6_askOf_79 : decode cX6_askOf 79 = .ok (.iload_n 2, 1) ∧ 79 + 1 = 80 := ⟨by decide +kernel, rfl⟩
theorem iX6_askOf_80 : decode cX6_askOf 80 = .ok (.invokestatic 185, 3) ∧ 80 + 3 = 83 := ⟨by decide +kernel, rfl⟩
theorem iX6_askOf_83 : decode cX6_askOf 83 = .ok (.iload 6, 2) ∧ 83 + 2 = 85 := ⟨by decide +kernel, rfl⟩
theorem iX6_askOf_85 : decode cX6_askOf 85 = .ok (.isub, 1) ∧ 85 + 1 = 86 := ⟨by decide +kernel, rfl⟩
theorem iX6_askOf_86 : decode cX6_askOf 86 = .ok (.istore 7, 2) ∧ 86 + 2 = 88 := ⟨by decide +kernel, rfl⟩
theorem iX6_askOf_88 : decode cX6_askOf 88 = .ok (.iload 6, 2) ∧ 88 + 2 = 90 := ⟨by decide +kernel, rfl⟩
theorem iX6_askOf_90 : decode cX6_askOf 90 = .ok (.iload 7, 2) ∧ 90 + 2 = 92 := ⟨by decide +kernel, rfl⟩
theorem iX6_askOf_92 : decode cX6_askOf 92 = .ok (.if_icmp .le 8, 3) ∧ 92 + 3 = 95 := ⟨by decide +kernel, rfl⟩
theorem iX6_askOf_95 : decode cX6_askOf 95 = .ok (.iload 6, 2) ∧ 95 + 2 = 97 := ⟨by decide +kernel, rfl⟩
theorem iX6_askOf_97 : decode cX6_askOf 97 = .ok (.goto 5, 3) ∧ 97 + 3 = 100 := ⟨by decide +kernel, rfl⟩
theorem iX6_askOf_100 : decode cX6_askOf 100 = .ok (.iload 7, 2) ∧ 100 + 2 = 102 := ⟨by decide +kernel, rfl⟩
theorem iX6_askOf_102 : decode cX6_askOf 102 = .ok (.istore 8, 2) ∧ 102 + 2 = 104 := ⟨by decide +kernel, rfl⟩
theorem iX6_askOf_104 : decode cX6_askOf 104 = .ok (.iload 8, 2) ∧ 104 + 2 = 106 := ⟨by decide +kernel, rfl⟩
theorem iX6_askOf_106 : decode cX6_askOf 106 = .ok (.iload 4, 2) ∧ 106 + 2 = 108 := ⟨by decide +kernel, rfl⟩
theorem iX6_askOf_108 : decode cX6_askOf 108 = .ok (.if_icmp .ge 18, 3) ∧ 108 + 3 = 111 := ⟨by decide +kernel, rfl⟩
theorem iX6_askOf_111 : decode cX6_askOf 111 = .ok (.bipush 10, 2) ∧ 111 + 2 = 113 := ⟨by decide +kernel, rfl⟩
theorem iX6_askOf_113 : decode cX6_askOf 113 = .ok (.iload 5, 2) ∧ 113 + 2 = 115 := ⟨by decide +kernel, rfl⟩
theorem iX6_askOf_115 : decode cX6_askOf 115 = .ok (.iconst 4, 1) ∧ 115 + 1 = 116 := ⟨by decide +kernel, rfl⟩
theorem iX6_askOf_116 : decode cX6_askOf 116 = .ok (.idiv, 1) ∧ 116 + 1 = 117 := ⟨by decide +kernel, rfl⟩
theorem iX6_askOf_117 : decode cX6_askOf 117 = .ok (.imul, 1) ∧ 117 + 1 = 118 := ⟨by decide +kernel, rfl⟩
theorem iX6_askOf_118 : decode cX6_askOf 118 = .ok (.iload 5, 2) ∧ 118 + 2 = 120 := ⟨by decide +kernel, rfl⟩
theorem iX6_askOf_120 : decode cX6_askOf 120 = .ok (.iconst 4, 1) ∧ 120 + 1 = 121 := ⟨by decide +kernel, rfl⟩
theorem iX6_askOf_121 : decode cX6_askOf 121 = .ok (.irem, 1) ∧ 121 + 1 = 122 := ⟨by decide +kernel, rfl⟩
theorem iX6_askOf_122 : decode cX6_askOf 122 = .ok (.iadd, 1) ∧ 122 + 1 = 123 := ⟨by decide +kernel, rfl⟩
theorem iX6_askOf_123 : decode cX6_askOf 123 = .ok (.goto 4, 3) ∧ 123 + 3 = 126 := ⟨by decide +kernel, rfl⟩
theorem iX6_askOf_126 : decode cX6_askOf 126 = .ok (.iload_n 3, 1) ∧ 126 + 1 = 127 := ⟨by decide +kernel, rfl⟩
theorem iX6_askOf_127 : decode cX6_askOf 127 = .ok (.istore_n 3, 1) ∧ 127 + 1 = 128 := ⟨by decide +kernel, rfl⟩
theorem iX6_askOf_128 : decode cX6_askOf 128 = .ok (.iload 8, 2) ∧ 128 + 2 = 130 := ⟨by decide +kernel, rfl⟩
theorem iX6_askOf_130 : decode cX6_askOf 130 = .ok (.iload 4, 2) ∧ 130 + 2 = 132 := ⟨by decide +kernel, rfl⟩
theorem iX6_askOf_132 : decode cX6_askOf 132 = .ok (.if_icmp .ge 8, 3) ∧ 132 + 3 = 135 := ⟨by decide +kernel, rfl⟩
theorem iX6_askOf_135 : decode cX6_askOf 135 = .ok (.iload 8, 2) ∧ 135 + 2 = 137 := ⟨by decide +kernel, rfl⟩
theorem iX6_askOf_137 : decode cX6_askOf 137 = .ok (.goto 5, 3) ∧ 137 + 3 = 140 := ⟨by decide +kernel, rfl⟩
theorem iX6_askOf_140 : decode cX6_askOf 140 = .ok (.iload 4, 2) ∧ 140 + 2 = 142 := ⟨by decide +kernel, rfl⟩
theorem iX6_askOf_142 : decode cX6_askOf 142 = .ok (.istore 4, 2) ∧ 142 + 2 = 144 := ⟨by decide +kernel, rfl⟩
theorem iX6_askOf_144 : decode cX6_askOf 144 = .ok (.iinc 5 1, 3) ∧ 144 + 3 = 147 := ⟨by decide +kernel, rfl⟩
theorem iX6_askOf_147 : decode cX6_askOf 147 = .ok (.goto (-132), 3) ∧ 147 + 3 = 150 := ⟨by decide +kernel, rfl⟩
theorem iX6_askOf_150 : decode cX6_askOf 150 = .ok (.iload_n 3, 1) ∧ 150 + 1 = 151 := ⟨by decide +kernel, rfl⟩
theorem iX6_askOf_151 : decode cX6_askOf 151 = .ok (.ireturn, 1) ∧ 151 + 1 = 152 := ⟨by decide +kernel, rfl⟩
theorem iX6_draw_0 : decode cX6_draw 0 = .ok (.aload_n 0, 1) ∧ 0 + 1 = 1 := ⟨by decide +kernel, rfl⟩
theorem iX6_draw_1 : decode cX6_draw 1 = .ok (.ldc2_w 257, 3) ∧ 1 + 3 = 4 := ⟨by decide +kernel, rfl⟩
theorem iX6_draw_4 : decode cX6_draw 4 = .ok (.aload_n 0, 1) ∧ 4 + 1 = 5 := ⟨by decide +kernel, rfl⟩
theorem iX6_draw_5 : decode cX6_draw 5 = .ok (.getfield 259, 3) ∧ 5 + 3 = 8 := ⟨by decide +kernel, rfl⟩
theorem iX6_draw_8 : decode cX6_draw 8 = .ok (.lmul, 1) ∧ 8 + 1 = 9 := ⟨by decide +kernel, rfl⟩
theorem iX6_draw_9 : decode cX6_draw 9 = .ok (.ldc2_w 263, 3) ∧ 9 + 3 = 12 := ⟨by decide +kernel, rfl⟩
theorem iX6_draw_12 : decode cX6_draw 12 = .ok (.ladd, 1) ∧ 12 + 1 = 13 := ⟨by decide +kernel, rfl⟩
theorem iX6_draw_13 : decode cX6_draw 13 = .ok (.ldc2_w 265, 3) ∧ 13 + 3 = 16 := ⟨by decide +kernel, rfl⟩
theorem iX6_draw_16 : decode cX6_draw 16 = .ok (.land, 1) ∧ 16 + 1 = 17 := ⟨by decide +kernel, rfl⟩
theorem iX6_draw_17 : decode cX6_draw 17 = .ok (.putfield 259, 3) ∧ 17 + 3 = 20 := ⟨by decide +kernel, rfl⟩
theorem iX6_draw_20 : decode cX6_draw 20 = .ok (.aload_n 0, 1) ∧ 20 + 1 = 21 := ⟨by decide +kernel, rfl⟩
theorem iX6_draw_21 : decode cX6_draw 21 = .ok (.getfield 259, 3) ∧ 21 + 3 = 24 := ⟨by decide +kernel, rfl⟩
theorem iX6_draw_24 : decode cX6_draw 24 = .ok (.ldc2_w 267, 3) ∧ 24 + 3 = 27 := ⟨by decide +kernel, rfl⟩
theorem iX6_draw_27 : decode cX6_draw 27 = .ok (.ldiv, 1) ∧ 27 + 1 = 28 := ⟨by decide +kernel, rfl⟩
theorem iX6_draw_28 : decode cX6_draw 28 = .ok (.iload_n 1, 1) ∧ 28 + 1 = 29 := ⟨by decide +kernel, rfl⟩
theorem iX6_draw_29 : decode cX6_draw 29 = .ok (.i2l, 1) ∧ 29 + 1 = 30 := ⟨by decide +kernel, rfl⟩
theorem iX6_draw_30 : decode cX6_draw 30 = .ok (.lrem, 1) ∧ 30 + 1 = 31 := ⟨by decide +kernel, rfl⟩
theorem iX6_draw_31 : decode cX6_draw 31 = .ok (.l2i, 1) ∧ 31 + 1 = 32 := ⟨by decide +kernel, rfl⟩
theorem iX6_draw_32 : decode cX6_draw 32 = .ok (.ireturn, 1) ∧ 32 + 1 = 33 := ⟨by decide +kernel, rfl⟩
theorem iX6_ofSet_0 : decode cX6_ofSet 0 = .ok (.iconst 0, 1) ∧ 0 + 1 = 1 := ⟨by decide +kernel, rfl⟩
theorem iX6_ofSet_1 : decode cX6_ofSet 1 = .ok (.istore_n 2, 1) ∧ 1 + 1 = 2 := ⟨by decide +kernel, rfl⟩
theorem iX6_ofSet_2 : decode cX6_ofSet 2 = .ok (.iload_n 1, 1) ∧ 2 + 1 = 3 := ⟨by decide +kernel, rfl⟩
theorem iX6_ofSet_3 : decode cX6_ofSet 3 = .ok (.istore_n 3, 1) ∧ 3 + 1 = 4 := ⟨by decide +kernel, rfl⟩
theorem iX6_ofSet_4 : decode cX6_ofSet 4 = .ok (.iload_n 0, 1) ∧ 4 + 1 = 5 := ⟨by decide +kernel, rfl⟩
theorem iX6_ofSet_5 : decode cX6_ofSet 5 = .ok (.iload_n 2, 1) ∧ 5 + 1 = 6 := ⟨by decide +kernel, rfl⟩
theorem iX6_ofSet_6 : decode cX6_ofSet 6 = .ok (.invokestatic 92, 3) ∧ 6 + 3 = 9 := ⟨by decide +kernel, rfl⟩
theorem iX6_ofSet_9 : decode cX6_ofSet 9 = .ok (.ifCond .eq 7, 3) ∧ 9 + 3 = 12 := ⟨by decide +kernel, rfl⟩
theorem iX6_ofSet_12 : decode cX6_ofSet 12 = .ok (.iload_n 3, 1) ∧ 12 + 1 = 13 := ⟨by decide +kernel, rfl⟩
theorem iX6_ofSet_13 : decode cX6_ofSet 13 = .ok (.ifCond .le 25, 3) ∧ 13 + 3 = 16 := ⟨by decide +kernel, rfl⟩
theorem iX6_ofSet_16 : decode cX6_ofSet 16 = .ok (.iload_n 3, 1) ∧ 16 + 1 = 17 := ⟨by decide +kernel, rfl⟩
theorem iX6_ofSet_17 : decode cX6_ofSet 17 = .ok (.iload_n 0, 1) ∧ 17 + 1 = 18 := ⟨by decide +kernel, rfl⟩
theorem iX6_ofSet_18 : decode cX6_ofSet 18 = .ok (.iload_n 2, 1) ∧ 18 + 1 = 19 := ⟨by decide +kernel, rfl⟩
theorem iX6_ofSet_19 : decode cX6_ofSet 19 = .ok (.invokestatic 92, 3) ∧ 19 + 3 = 22 := ⟨by decide +kernel, rfl⟩
theorem iX6_ofSet_22 : decode cX6_ofSet 22 = .ok (.ifCond .eq 7, 3) ∧ 22 + 3 = 25 := ⟨by decide +kernel, rfl⟩
theorem iX6_ofSet_25 : decode cX6_ofSet 25 = .ok (.iconst 1, 1) ∧ 25 + 1 = 26 := ⟨by decide +kernel, rfl⟩
theorem iX6_ofSet_26 : decode cX6_ofSet 26 = .ok (.goto 4, 3) ∧ 26 + 3 = 29 := ⟨by decide +kernel, rfl⟩
theorem iX6_ofSet_29 : decode cX6_ofSet 29 = .ok (.iconst 0, 1) ∧ 29 + 1 = 30 := ⟨by decide +kernel, rfl⟩
theorem iX6_ofSet_30 : decode cX6_ofSet 30 = .ok (.isub, 1) ∧ 30 + 1 = 31 := ⟨by decide +kernel, rfl⟩
theorem iX6_ofSet_31 : decode cX6_ofSet 31 = .ok (.istore_n 3, 1) ∧ 31 + 1 = 32 := ⟨by decide +kernel, rfl⟩
theorem iX6_ofSet_32 : decode cX6_ofSet 32 = .ok (.iinc 2 1, 3) ∧ 32 + 3 = 35 := ⟨by decide +kernel, rfl⟩
theorem iX6_ofSet_35 : decode cX6_ofSet 35 = .ok (.goto (-31), 3) ∧ 35 + 3 = 38 := ⟨by decide +kernel, rfl⟩
theorem iX6_ofSet_38 : decode cX6_ofSet 38 = .ok (.iload_n 2, 1) ∧ 38 + 1 = 39 := ⟨by decide +kernel, rfl⟩
theorem iX6_ofSet_39 : decode cX6_ofSet 39 = .ok (.ireturn, 1) ∧ 39 + 1 = 40 := ⟨by decide +kernel, rfl⟩
theorem iX6_watchedFree_0 : decode cX6_watchedFree 0 = .ok (.iconst 0, 1) ∧ 0 + 1 = 1 := ⟨by decide +kernel, rfl⟩
theorem iX6_watchedFree_1 : decode cX6_watchedFree 1 = .ok (.istore_n 1, 1) ∧ 1 + 1 = 2 := ⟨by decide +kernel, rfl⟩
theorem iX6_watchedFree_2 : decode cX6_watchedFree 2 = .ok (.iconst 0, 1) ∧ 2 + 1 = 3 := ⟨by decide +kernel, rfl⟩
theorem iX6_watchedFree_3 : decode cX6_watchedFree 3 = .ok (.istore_n 2, 1) ∧ 3 + 1 = 4 := ⟨by decide +kernel, rfl⟩
theorem iX6_watchedFree_4 : decode cX6_watchedFree 4 = .ok (.iload_n 2, 1) ∧ 4 + 1 = 5 := ⟨by decide +kernel, rfl⟩
theorem iX6_watchedFree_5 : decode cX6_watchedFree 5 = .ok (.aload_n 0, 1) ∧ 5 + 1 = 6 := ⟨by decide +kernel, rfl⟩
theorem iX6_watchedFree_6 : decode cX6_watchedFree 6 = .ok (.getfield 119, 3) ∧ 6 + 3 = 9 := ⟨by decide +kernel, rfl⟩
theorem iX6_watchedFree_9 : decode cX6_watchedFree 9 = .ok (.if_icmp .ge 17, 3) ∧ 9 + 3 = 12 := ⟨by decide +kernel, rfl⟩
theorem iX6_watchedFree_12 : decode cX6_watchedFree 12 = .ok (.iload_n 1, 1) ∧ 12 + 1 = 13 := ⟨by decide +kernel, rfl⟩
theorem iX6_watchedFree_13 : decode cX6_watchedFree 13 = .ok (.aload_n 0, 1) ∧ 13 + 1 = 14 := ⟨by decide +kernel, rfl⟩
theorem iX6_watchedFree_14 : decode cX6_watchedFree 14 = .ok (.iload_n 2, 1) ∧ 14 + 1 = 15 := ⟨by decide +kernel, rfl⟩
theorem iX6_watchedFree_15 : decode cX6_watchedFree 15 = .ok (.invokevirtual 148, 3) ∧ 15 + 3 = 18 := ⟨by decide +kernel, rfl⟩
theorem iX6_watchedFree_18 : decode cX6_watchedFree 18 = .ok (.ior, 1) ∧ 18 + 1 = 19 := ⟨by decide +kernel, rfl⟩
theorem iX6_watchedFree_19 : decode cX6_watchedFree 19 = .ok (.istore_n 1, 1) ∧ 19 + 1 = 20 := ⟨by decide +kernel, rfl⟩
theorem iX6_watchedFree_20 : decode cX6_watchedFree 20 = .ok (.iinc 2 1, 3) ∧ 20 + 3 = 23 := ⟨by decide +kernel, rfl⟩
theorem iX6_watchedFree_23 : decode cX6_watchedFree 23 = .ok (.goto (-19), 3) ∧ 23 + 3 = 26 := ⟨by decide +kernel, rfl⟩
theorem iX6_watchedFree_26 : decode cX6_watchedFree 26 = .ok (.iload_n 1, 1) ∧ 26 + 1 = 27 := ⟨by decide +kernel, rfl⟩
theorem iX6_watchedFree_27 : decode cX6_watchedFree 27 = .ok (.aload_n 0, 1) ∧ 27 + 1 = 28 := ⟨by decide +kernel, rfl⟩
theorem iX6_watchedFree_28 : decode cX6_watchedFree 28 = .ok (.invokevirtual 151, 3) ∧ 28 + 3 = 31 := ⟨by decide +kernel, rfl⟩
theorem iX6_watchedFree_31 : decode cX6_watchedFree 31 = .ok (.iconst (-1), 1) ∧ 31 + 1 = 32 := ⟨by decide +kernel, rfl⟩
theorem iX6_watchedFree_32 : decode cX6_watchedFree 32 = .ok (.ixor, 1) ∧ 32 + 1 = 33 := ⟨by decide +kernel, rfl⟩
theorem iX6_watchedFree_33 : decode cX6_watchedFree 33 = .ok (.iand, 1) ∧ 33 + 1 = 34 := ⟨by decide +kernel, rfl⟩
theorem iX6_watchedFree_34 : decode cX6_watchedFree 34 = .ok (.invokestatic 185, 3) ∧ 34 + 3 = 37 := ⟨by decide +kernel, rfl⟩
theorem iX6_watchedFree_37 : decode cX6_watchedFree 37 = .ok (.ireturn, 1) ∧ 37 + 1 = 38 := ⟨by decide +kernel, rfl⟩
theorem iX6_walksNow_0 : decode cX6_walksNow 0 = .ok (.iconst 0, 1) ∧ 0 + 1 = 1 := ⟨by decide +kernel, rfl⟩
theorem iX6_walksNow_1 : decode cX6_walksNow 1 = .ok (.istore 4, 2) ∧ 1 + 2 = 3 := ⟨by decide +kernel, rfl⟩
theorem iX6_walksNow_3 : decode cX6_walksNow 3 = .ok (.iload 4, 2) ∧ 3 + 2 = 5 := ⟨by decide +kernel, rfl⟩
theorem iX6_walksNow_5 : decode cX6_walksNow 5 = .ok (.iconst 4, 1) ∧ 5 + 1 = 6 := ⟨by decide +kernel, rfl⟩
theorem iX6_walksNow_6 : decode cX6_walksNow 6 = .ok (.if_icmp .ge 23, 3) ∧ 6 + 3 = 9 := ⟨by decide +kernel, rfl⟩
theorem iX6_walksNow_9 : decode cX6_walksNow 9 = .ok (.aload_n 0, 1) ∧ 9 + 1 = 10 := ⟨by decide +kernel, rfl⟩
theorem iX6_walksNow_10 : decode cX6_walksNow 10 = .ok (.getfield 47, 3) ∧ 10 + 3 = 13 := ⟨by decide +kernel, rfl⟩
theorem iX6_walksNow_13 : decode cX6_walksNow 13 = .ok (.iload 4, 2) ∧ 13 + 2 = 15 := ⟨by decide +kernel, rfl⟩
theorem iX6_walksNow_15 : decode cX6_walksNow 15 = .ok (.aload_n 0, 1) ∧ 15 + 1 = 16 := ⟨by decide +kernel, rfl⟩
theorem iX6_walksNow_16 : decode cX6_walksNow 16 = .ok (.getfield 13, 3) ∧ 16 + 3 = 19 := ⟨by decide +kernel, rfl⟩
theorem iX6_walksNow_19 : decode cX6_walksNow 19 = .ok (.iload 4, 2) ∧ 19 + 2 = 21 := ⟨by decide +kernel, rfl⟩
theorem iX6_walksNow_21 : decode cX6_walksNow 21 = .ok (.iaload, 1) ∧ 21 + 1 = 22 := ⟨by decide +kernel, rfl⟩
theorem iX6_walksNow_22 : decode cX6_walksNow 22 = .ok (.iastore, 1) ∧ 22 + 1 = 23 := ⟨by decide +kernel, rfl⟩
theorem iX6_walksNow_23 : decode cX6_walksNow 23 = .ok (.iinc 4 1, 3) ∧ 23 + 3 = 26 := ⟨by decide +kernel, rfl⟩
theorem iX6_walksNow_26 : decode cX6_walksNow 26 = .ok (.goto (-23), 3) ∧ 26 + 3 = 29 := ⟨by decide +kernel, rfl⟩
theorem iX6_walksNow_29 : decode cX6_walksNow 29 = .ok (.aload_n 0, 1) ∧ 29 + 1 = 30 := ⟨by decide +kernel, rfl⟩
theorem iX6_walksNow_30 : decode cX6_walksNow 30 = .ok (.iload_n 2, 1) ∧ 30 + 1 = 31 := ⟨by decide +kernel, rfl⟩
theorem iX6_walksNow_31 : decode cX6_walksNow 31 = .ok (.i2l, 1) ∧ 31 + 1 = 32 := ⟨by decide +kernel, rfl⟩
theorem iX6_walksNow_32 : decode cX6_walksNow 32 = .ok (.putfield 259, 3) ∧ 32 + 3 = 35 := ⟨by decide +kernel, rfl⟩
theorem iX6_walksNow_35 : decode cX6_walksNow 35 = .ok (.iconst 0, 1) ∧ 35 + 1 = 36 := ⟨by decide +kernel, rfl⟩
theorem iX6_walksNow_36 : decode cX6_walksNow 36 = .ok (.istore 4, 2) ∧ 36 + 2 = 38 := ⟨by decide +kernel, rfl⟩
theorem iX6_walksNow_38 : decode cX6_walksNow 38 = .ok (.iconst 0, 1) ∧ 38 + 1 = 39 := ⟨by decide +kernel, rfl⟩
theorem iX6_walksNow_39 : decode cX6_walksNow 39 = .ok (.istore 5, 2) ∧ 39 + 2 = 41 := ⟨by decide +kernel, rfl⟩
theorem iX6_walksNow_41 : decode cX6_walksNow 41 = .ok (.iload 5, 2) ∧ 41 + 2 = 43 := ⟨by decide +kernel, rfl⟩
theorem iX6_walksNow_43 : decode cX6_walksNow 43 = .ok (.iload_n 1, 1) ∧ 43 + 1 = 44 := ⟨by decide +kernel, rfl⟩
theorem iX6_walksNow_44 : decode cX6_walksNow 44 = .ok (.if_icmp .ge 56, 3) ∧ 44 + 3 = 47 := ⟨by decide +kernel, rfl⟩
theorem iX6_walksNow_47 : decode cX6_walksNow 47 = .ok (.aload_n 0, 1) ∧ 47 + 1 = 48 := ⟨by decide +kernel, rfl⟩
theorem iX6_walksNow_48 : decode cX6_walksNow 48 = .ok (.aload_n 0, 1) ∧ 48 + 1 = 49 := ⟨by decide +kernel, rfl⟩
theorem iX6_walksNow_49 : decode cX6_walksNow 49 = .ok (.getfield 119, 3) ∧ 49 + 3 = 52 := ⟨by decide +kernel, rfl⟩
theorem iX6_walksNow_52 : decode cX6_walksNow 52 = .ok (.invokevirtual 269, 3) ∧ 52 + 3 = 55 := ⟨by decide +kernel, rfl⟩
theorem iX6_walksNow_55 : decode cX6_walksNow 55 = .ok (.istore 6, 2) ∧ 55 + 2 = 57 := ⟨by decide +kernel, rfl⟩
theorem iX6_walksNow_57 : decode cX6_walksNow 57 = .ok (.aload_n 0, 1) ∧ 57 + 1 = 58 := ⟨by decide +kernel, rfl⟩
theorem iX6_walksNow_58 : decode cX6_walksNow 58 = .ok (.iload 6, 2) ∧ 58 + 2 = 60 := ⟨by decide +kernel, rfl⟩
theorem iX6_walksNow_60 : decode cX6_walksNow 60 = .ok (.invokevirtual 154, 3) ∧ 60 + 3 = 63 := ⟨by decide +kernel, rfl⟩
theorem iX6_walksNow_63 : decode cX6_walksNow 63 = .ok (.istore 7, 2) ∧ 63 + 2 = 65 := ⟨by decide +kernel, rfl⟩
theorem iX6_walksNow_65 : decode cX6_walksNow 65 = .ok (.iload 7, 2) ∧ 65 + 2 = 67 := ⟨by decide +kernel, rfl⟩
theorem iX6_walksNow_67 : decode cX6_walksNow 67 = .ok (.ifCond .eq 27, 3) ∧ 67 + 3 = 70 := ⟨by decide +kernel, rfl⟩
theorem iX6_walksNow_70 : decode cX6_walksNow 70 = .ok (.aload_n 0, 1) ∧ 70 + 1 = 71 := ⟨by decide +kernel, rfl⟩
theorem iX6_walksNow_71 : decode cX6_walksNow 71 = .ok (.getfield 13, 3) ∧ 71 + 3 = 74 := ⟨by decide +kernel, rfl⟩
theorem iX6_walksNow_74 : decode cX6_walksNow 74 = .ok (.iload 6, 2) ∧ 74 + 2 = 76 := ⟨by decide +kernel, rfl⟩
theorem iX6_walksNow_76 : decode cX6_walksNow 76 = .ok (.iload 7, 2) ∧ 76 + 2 = 78 := ⟨by decide +kernel, rfl⟩
theorem iX6_walksNow_78 : decode cX6_walksNow 78 = .ok (.aload_n 0, 1) ∧ 78 + 1 = 79 := ⟨by decide +kernel, rfl⟩
theorem iX6_walksNow_79 : decode cX6_walksNow 79 = .ok (.iload 7, 2) ∧ 79 + 2 = 81 := ⟨by decide +kernel, rfl⟩
theorem iX6_walksNow_81 : decode cX6_walksNow 81 = .ok (.invokestatic 185, 3) ∧ 81 + 3 = 84 := ⟨by decide +kernel, rfl⟩
theorem iX6_walksNow_84 : decode cX6_walksNow 84 = .ok (.invokevirtual 269, 3) ∧ 84 + 3 = 87 := ⟨by decide +kernel, rfl⟩
theorem iX6_walksNow_87 : decode cX6_walksNow 87 = .ok (.invokestatic 272, 3) ∧ 87 + 3 = 90 := ⟨by decide +kernel, rfl⟩
theorem iX6_walksNow_90 : decode cX6_walksNow 90 = .ok (.iastore, 1) ∧ 90 + 1 = 91 := ⟨by decide +kernel, rfl⟩
theorem iX6_walksNow_91 : decode cX6_walksNow 91 = .ok (.iinc 4 1, 3) ∧ 91 + 3 = 94 := ⟨by decide +kernel, rfl⟩
theorem iX6_walksNow_94 : decode cX6_walksNow 94 = .ok (.iinc 5 1, 3) ∧ 94 + 3 = 97 := ⟨by decide +kernel, rfl⟩
theorem iX6_walksNow_97 : decode cX6_walksNow 97 = .ok (.goto (-56), 3) ∧ 97 + 3 = 100 := ⟨by decide +kernel, rfl⟩
theorem iX6_walksNow_100 : decode cX6_walksNow 100 = .ok (.iload_n 3, 1) ∧ 100 + 1 = 101 := ⟨by decide +kernel, rfl⟩
theorem iX6_walksNow_101 : decode cX6_walksNow 101 = .ok (.ifCond .ne 8, 3) ∧ 101 + 3 = 104 := ⟨by decide +kernel, rfl⟩
theorem iX6_walksNow_104 : decode cX6_walksNow 104 = .ok (.iload 4, 2) ∧ 104 + 2 = 106 := ⟨by decide +kernel, rfl⟩
theorem iX6_walksNow_106 : decode cX6_walksNow 106 = .ok (.goto 20, 3) ∧ 106 + 3 = 109 := ⟨by decide +kernel, rfl⟩
theorem iX6_walksNow_109 : decode cX6_walksNow 109 = .ok (.iload_n 3, 1) ∧ 109 + 1 = 110 := ⟨by decide +kernel, rfl⟩
theorem iX6_walksNow_110 : decode cX6_walksNow 110 = .ok (.iconst 1, 1) ∧ 110 + 1 = 111 := ⟨by decide +kernel, rfl⟩
theorem iX6_walksNow_111 : decode cX6_walksNow 111 = .ok (.if_icmp .ne 10, 3) ∧ 111 + 3 = 114 := ⟨by decide +kernel, rfl⟩
theorem iX6_walksNow_114 : decode cX6_walksNow 114 = .ok (.aload_n 0, 1) ∧ 114 + 1 = 115 := ⟨by decide +kernel, rfl⟩
theorem iX6_walksNow_115 : decode cX6_walksNow 115 = .ok (.invokevirtual 275, 3) ∧ 115 + 3 = 118 := ⟨by decide +kernel, rfl⟩
theorem iX6_walksNow_118 : decode cX6_walksNow 118 = .ok (.goto 8, 3) ∧ 118 + 3 = 121 := ⟨by decide +kernel, rfl⟩
theorem iX6_walksNow_121 : decode cX6_walksNow 121 = .ok (.aload_n 0, 1) ∧ 121 + 1 = 122 := ⟨by decide +kernel, rfl⟩
theorem iX6_walksNow_122 : decode cX6_walksNow 122 = .ok (.getfield 259, 3) ∧ 122 + 3 = 125 := ⟨by decide +kernel, rfl⟩
theorem iX6_walksNow_125 : decode cX6_walksNow 125 = .ok (.l2i, 1) ∧ 125 + 1 = 126 := ⟨by decide +kernel, rfl⟩
theorem iX6_walksNow_126 : decode cX6_walksNow 126 = .ok (.istore 5, 2) ∧ 126 + 2 = 128 := ⟨by decide +kernel, rfl⟩
theorem iX6_walksNow_128 : decode cX6_walksNow 128 = .ok (.iconst 0, 1) ∧ 128 + 1 = 129 := ⟨by decide +kernel, rfl⟩
theorem iX6_walksNow_129 : decode cX6_walksNow 129 = .ok (.istore 6, 2) ∧ 129 + 2 = 131 := ⟨by decide +kernel, rfl⟩
theorem iX6_walksNow_131 : decode cX6_walksNow 131 = .ok (.iload 6, 2) ∧ 131 + 2 = 133 := ⟨by decide +kernel, rfl⟩
theorem iX6_walksNow_133 : decode cX6_walksNow 133 = .ok (.iconst 4, 1) ∧ 133 + 1 = 134 := ⟨by decide +kernel, rfl⟩
theorem iX6_walksNow_134 : decode cX6_walksNow 134 = .ok (.if_icmp .ge 23, 3) ∧ 134 + 3 = 137 := ⟨by decide +kernel, rfl⟩
theorem iX6_walksNow_137 : decode cX6_walksNow 137 = .ok (.aload_n 0, 1) ∧ 137 + 1 = 138 := ⟨by decide +kernel, rfl⟩
theorem iX6_walksNow_138 : decode cX6_walksNow 138 = .ok (.getfield 13, 3) ∧ 138 + 3 = 141 := ⟨by decide +kernel, rfl⟩
theorem iX6_walksNow_141 : decode cX6_walksNow 141 = .ok (.iload 6, 2) ∧ 141 + 2 = 143 := ⟨by decide +kernel, rfl⟩
theorem iX6_walksNow_143 : decode cX6_walksNow 143 = .ok (.aload_n 0, 1) ∧ 143 + 1 = 144 := ⟨by decide +kernel, rfl⟩
theorem iX6_walksNow_144 : decode cX6_walksNow 144 = .ok (.getfield 47, 3) ∧ 144 + 3 = 147 := ⟨by decide +kernel, rfl⟩
theorem iX6_walksNow_147 : decode cX6_walksNow 147 = .ok (.iload 6, 2) ∧ 147 + 2 = 149 := ⟨by decide +kernel, rfl⟩
theorem iX6_walksNow_149 : decode cX6_walksNow 149 = .ok (.iaload, 1) ∧ 149 + 1 = 150 := ⟨by decide +kernel, rfl⟩
theorem iX6_walksNow_150 : decode cX6_walksNow 150 = .ok (.iastore, 1) ∧ 150 + 1 = 151 := ⟨by decide +kernel, rfl⟩
theorem iX6_walksNow_151 : decode cX6_walksNow 151 = .ok (.iinc 6 1, 3) ∧ 151 + 3 = 154 := ⟨by decide +kernel, rfl⟩
theorem iX6_walksNow_154 : decode cX6_walksNow 154 = .ok (.goto (-23), 3) ∧ 154 + 3 = 157 := ⟨by decide +kernel, rfl⟩
theorem iX6_walksNow_157 : decode cX6_walksNow 157 = .ok (.iload 5, 2) ∧ 157 + 2 = 159 := ⟨by decide +kernel, rfl⟩
theorem iX6_walksNow_159 : decode cX6_walksNow 159 = .ok (.ireturn, 1) ∧ 159 + 1 = 160 := ⟨by decide +kernel, rfl⟩
theorem iX6_walks_0 : decode cX6_walks 0 = .ok (.iload_n 1, 1) ∧ 0 + 1 = 1 := ⟨by decide +kernel, rfl⟩
theorem iX6_walks_1 : decode cX6_walks 1 = .ok (.iconst 1, 1) ∧ 1 + 1 = 2 := ⟨by decide +kernel, rfl⟩
theorem iX6_walks_2 : decode cX6_walks 2 = .ok (.bipush 60, 2) ∧ 2 + 2 = 4 := ⟨by decide +kernel, rfl⟩
theorem iX6_walks_4 : decode cX6_walks 4 = .ok (.invokestatic 68, 3) ∧ 4 + 3 = 7 := ⟨by decide +kernel, rfl⟩
theorem iX6_walks_7 : decode cX6_walks 7 = .ok (.ifCond .eq 16, 3) ∧ 7 + 3 = 10 := ⟨by decide +kernel, rfl⟩
theorem iX6_walks_10 : decode cX6_walks 10 = .ok (.iload_n 2, 1) ∧ 10 + 1 = 11 := ⟨by decide +kernel, rfl⟩
theorem iX6_walks_11 : decode cX6_walks 11 = .ok (.ifCond .lt 12, 3) ∧ 11 + 3 = 14 := ⟨by decide +kernel, rfl⟩
theorem iX6_walks_14 : decode cX6_walks 14 = .ok (.iload_n 3, 1) ∧ 14 + 1 = 15 := ⟨by decide +kernel, rfl⟩
theorem iX6_walks_15 : decode cX6_walks 15 = .ok (.iconst 0, 1) ∧ 15 + 1 = 16 := ⟨by decide +kernel, rfl⟩
theorem iX6_walks_16 : decode cX6_walks 16 = .ok (.iconst 2, 1) ∧ 16 + 1 = 17 := ⟨by decide +kernel, rfl⟩
theorem iX6_walks_17 : decode cX6_walks 17 = .ok (.invokestatic 68, 3) ∧ 17 + 3 = 20 := ⟨by decide +kernel, rfl⟩
theorem iX6_walks_20 : decode cX6_walks 20 = .ok (.ifCond .ne 6, 3) ∧ 20 + 3 = 23 := ⟨by decide +kernel, rfl⟩
theorem iX6_walks_23 : decode cX6_walks 23 = .ok (.bipush (-102), 2) ∧ 23 + 2 = 25 := ⟨by decide +kernel, rfl⟩
theorem iX6_walks_25 : decode cX6_walks 25 = .ok (.ireturn, 1) ∧ 25 + 1 = 26 := ⟨by decide +kernel, rfl⟩
theorem iX6_walks_26 : decode cX6_walks 26 = .ok (.aload_n 0, 1) ∧ 26 + 1 = 27 := ⟨by decide +kernel, rfl⟩
theorem iX6_walks_27 : decode cX6_walks 27 = .ok (.getfield 119, 3) ∧ 27 + 3 = 30 := ⟨by decide +kernel, rfl⟩
theorem iX6_walks_30 : decode cX6_walks 30 = .ok (.ifCond .ne 8, 3) ∧ 30 + 3 = 33 := ⟨by decide +kernel, rfl⟩
theorem iX6_walks_33 : decode cX6_walks 33 = .ok (.bipush (-103), 2) ∧ 33 + 2 = 35 := ⟨by decide +kernel, rfl⟩
theorem iX6_walks_35 : decode cX6_walks 35 = .ok (.goto 10, 3) ∧ 35 + 3 = 38 := ⟨by decide +kernel, rfl⟩
theorem iX6_walks_38 : decode cX6_walks 38 = .ok (.aload_n 0, 1) ∧ 38 + 1 = 39 := ⟨by decide +kernel, rfl⟩
theorem iX6_walks_39 : decode cX6_walks 39 = .ok (.iload_n 1, 1) ∧ 39 + 1 = 40 := ⟨by decide +kernel, rfl⟩
theorem iX6_walks_40 : decode cX6_walks 40 = .ok (.iload_n 2, 1) ∧ 40 + 1 = 41 := ⟨by decide +kernel, rfl⟩
theorem iX6_walks_41 : decode cX6_walks 41 = .ok (.iload_n 3, 1) ∧ 41 + 1 = 42 := ⟨by decide +kernel, rfl⟩
theorem iX6_walks_42 : decode cX6_walks 42 = .ok (.invokevirtual 278, 3) ∧ 42 + 3 = 45 := ⟨by decide +kernel, rfl⟩
theorem iX6_walks_45 : decode cX6_walks 45 = .ok (.ireturn, 1) ∧ 45 + 1 = 46 := ⟨by decide +kernel, rfl⟩
theorem iX6_image_0 : decode cX6_image 0 = .ok (.aload_n 0, 1) ∧ 0 + 1 = 1 := ⟨by decide +kernel, rfl⟩
theorem iX6_image_1 : decode cX6_image 1 = .ok (.getfield 119, 3) ∧ 1 + 3 = 4 := ⟨by decide +kernel, rfl⟩
theorem iX6_image_4 : decode cX6_image 4 = .ok (.ifCond .ne 6, 3) ∧ 4 + 3 = 7 := ⟨by decide +kernel, rfl⟩
theorem iX6_image_7 : decode cX6_image 7 = .ok (.bipush (-103), 2) ∧ 7 + 2 = 9 := ⟨by decide +kernel, rfl⟩
theorem iX6_image_9 : decode cX6_image 9 = .ok (.ireturn, 1) ∧ 9 + 1 = 10 := ⟨by decide +kernel, rfl⟩
theorem iX6_image_10 : decode cX6_image 10 = .ok (.aload_n 0, 1) ∧ 10 + 1 = 11 := ⟨by decide +kernel, rfl⟩
theorem iX6_image_11 : decode cX6_image 11 = .ok (.iconst 1, 1) ∧ 11 + 1 = 12 := ⟨by decide +kernel, rfl⟩
theorem iX6_image_12 : decode cX6_image 12 = .ok (.putfield 281, 3) ∧ 12 + 3 = 15 := ⟨by decide +kernel, rfl⟩
theorem iX6_image_15 : decode cX6_image 15 = .ok (.aload_n 0, 1) ∧ 15 + 1 = 16 := ⟨by decide +kernel, rfl⟩
theorem iX6_image_16 : decode cX6_image 16 = .ok (.aload_n 0, 1) ∧ 16 + 1 = 17 := ⟨by decide +kernel, rfl⟩
theorem iX6_image_17 : decode cX6_image 17 = .ok (.getfield 125, 3) ∧ 17 + 3 = 20 := ⟨by decide +kernel, rfl⟩
theorem iX6_image_20 : decode cX6_image 20 = .ok (.putfield 284, 3) ∧ 20 + 3 = 23 := ⟨by decide +kernel, rfl⟩
theorem iX6_image_23 : decode cX6_image 23 = .ok (.aload_n 0, 1) ∧ 23 + 1 = 24 := ⟨by decide +kernel, rfl⟩
theorem iX6_image_24 : decode cX6_image 24 = .ok (.aload_n 0, 1) ∧ 24 + 1 = 25 := ⟨by decide +kernel, rfl⟩
theorem iX6_image_25 : decode cX6_image 25 = .ok (.getfield 116, 3) ∧ 25 + 3 = 28 := ⟨by decide +kernel, rfl⟩
theorem iX6_image_28 : decode cX6_image 28 = .ok (.putfield 287, 3) ∧ 28 + 3 = 31 := ⟨by decide +kernel, rfl⟩
theorem iX6_image_31 : decode cX6_image 31 = .ok (.aload_n 0, 1) ∧ 31 + 1 = 32 := ⟨by decide +kernel, rfl⟩
theorem iX6_image_32 : decode cX6_image 32 = .ok (.aload_n 0, 1) ∧ 32 + 1 = 33 := ⟨by decide +kernel, rfl⟩
theorem iX6_image_33 : decode cX6_image 33 = .ok (.getfield 122, 3) ∧ 33 + 3 = 36 := ⟨by decide +kernel, rfl⟩
theorem iX6_image_36 : decode cX6_image 36 = .ok (.putfield 290, 3) ∧ 36 + 3 = 39 := ⟨by decide +kernel, rfl⟩
theorem iX6_image_39 : decode cX6_image 39 = .ok (.aload_n 0, 1) ∧ 39 + 1 = 40 := ⟨by decide +kernel, rfl⟩
theorem iX6_image_40 : decode cX6_image 40 = .ok (.aload_n 0, 1) ∧ 40 + 1 = 41 := ⟨by decide +kernel, rfl⟩
theorem iX6_image_41 : decode cX6_image 41 = .ok (.getfield 128, 3) ∧ 41 + 3 = 44 := ⟨by decide +kernel, rfl⟩
theorem iX6_image_44 : decode cX6_image 44 = .ok (.putfield 293, 3) ∧ 44 + 3 = 47 := ⟨by decide +kernel, rfl⟩
theorem iX6_image_47 : decode cX6_image 47 = .ok (.iconst 0, 1) ∧ 47 + 1 = 48 := ⟨by decide +kernel, rfl⟩
theorem iX6_image_48 : decode cX6_image 48 = .ok (.istore_n 1, 1) ∧ 48 + 1 = 49 := ⟨by decide +kernel, rfl⟩
theorem iX6_image_49 : decode cX6_image 49 = .ok (.iload_n 1, 1) ∧ 49 + 1 = 50 := ⟨by decide +kernel, rfl⟩
theorem iX6_image_50 : decode cX6_image 50 = .ok (.iconst 4, 1) ∧ 50 + 1 = 51 := ⟨by decide +kernel, rfl⟩
theorem iX6_image_51 : decode cX6_image 51 = .ok (.if_icmp .ge 33, 3) ∧ 51 + 3 = 54 := ⟨by decide +kernel, rfl⟩
theorem iX6_image_54 : decode cX6_image 54 = .ok (.aload_n 0, 1) ∧ 54 + 1 = 55 := ⟨by decide +kernel, rfl⟩
theorem iX6_image_55 : decode cX6_image 55 = .ok (.getfield 50, 3) ∧ 55 + 3 = 58 := ⟨by decide +kernel, rfl⟩
theorem iX6_image_58 : decode cX6_image 58 = .ok (.iload_n 1, 1) ∧ 58 + 1 = 59 := ⟨by decide +kernel, rfl⟩
theorem iX6_image_59 : decode cX6_image 59 = .ok (.aload_n 0, 1) ∧ 59 + 1 = 60 := ⟨by decide +kernel, rfl⟩
theorem iX6_image_60 : decode cX6_image 60 = .ok (.getfield 7, 3) ∧ 60 + 3 = 63 := ⟨by decide +kernel, rfl⟩
theorem iX6_image_63 : decode cX6_image 63 = .ok (.iload_n 1, 1) ∧ 63 + 1 = 64 := ⟨by decide +kernel, rfl⟩
theorem iX6_image_64 : decode cX6_image 64 = .ok (.iaload, 1) ∧ 64 + 1 = 65 := ⟨by decide +kernel, rfl⟩
theorem iX6_image_65 : decode cX6_image 65 = .ok (.iastore, 1) ∧ 65 + 1 = 66 := ⟨by decide +kernel, rfl⟩
theorem iX6_image_66 : decode cX6_image 66 = .ok (.aload_n 0, 1) ∧ 66 + 1 = 67 := ⟨by decide +kernel, rfl⟩
theorem iX6_image_67 : decode cX6_image 67 = .ok (.getfield 53, 3) ∧ 67 + 3 = 70 := ⟨by decide +kernel, rfl⟩
theorem iX6_image_70 : decode cX6_image 70 = .ok (.iload_n 1, 1) ∧ 70 + 1 = 71 := ⟨by decide +kernel, rfl⟩
theorem iX6_image_71 : decode cX6_image 71 = .ok (.aload_n 0, 1) ∧ 71 + 1 = 72 := ⟨by decide +kernel, rfl⟩
theorem iX6_image_72 : decode cX6_image 72 = .ok (.getfield 13, 3) ∧ 72 + 3 = 75 := ⟨by decide +kernel, rfl⟩
theorem iX6_image_75 : decode cX6_image 75 = .ok (.iload_n 1, 1) ∧ 75 + 1 = 76 := ⟨by decide +kernel, rfl⟩
theorem iX6_image_76 : decode cX6_image 76 = .ok (.iaload, 1) ∧ 76 + 1 = 77 := ⟨by decide +kernel, rfl⟩
theorem iX6_image_77 : decode cX6_image 77 = .ok (.iastore, 1) ∧ 77 + 1 = 78 := ⟨by decide +kernel, rfl⟩
theorem iX6_image_78 : decode cX6_image 78 = .ok (.iinc 1 1, 3) ∧ 78 + 3 = 81 := ⟨by decide +kernel, rfl⟩
theorem iX6_image_81 : decode cX6_image 81 = .ok (.goto (-32), 3) ∧ 81 + 3 = 84 := ⟨by decide +kernel, rfl⟩
theorem iX6_image_84 : decode cX6_image 84 = .ok (.iconst 0, 1) ∧ 84 + 1 = 85 := ⟨by decide +kernel, rfl⟩
theorem iX6_image_85 : decode cX6_image 85 = .ok (.istore_n 1, 1) ∧ 85 + 1 = 86 := ⟨by decide +kernel, rfl⟩
theorem iX6_image_86 : decode cX6_image 86 = .ok (.iload_n 1, 1) ∧ 86 + 1 = 87 := ⟨by decide +kernel, rfl⟩
theorem iX6_image_87 : decode cX6_image 87 = .ok (.bipush 6, 2) ∧ 87 + 2 = 89 := ⟨by decide +kernel, rfl⟩
theorem iX6_image_89 : decode cX6_image 89 = .ok (.if_icmp .ge 57, 3) ∧ 89 + 3 = 92 := ⟨by decide +kernel, rfl⟩
theorem iX6_image_92 : decode cX6_image 92 = .ok (.aload_n 0, 1) ∧ 92 + 1 = 93 := ⟨by decide +kernel, rfl⟩
theorem iX6_image_93 : decode cX6_image 93 = .ok (.getfield 56, 3) ∧ 93 + 3 = 96 := ⟨by decide +kernel, rfl⟩
theorem iX6_image_96 : decode cX6_image 96 = .ok (.iload_n 1, 1) ∧ 96 + 1 = 97 := ⟨by decide +kernel, rfl⟩
theorem iX6_image_97 : decode cX6_image 97 = .ok (.aload_n 0, 1) ∧ 97 + 1 = 98 := ⟨by decide +kernel, rfl⟩
theorem iX6_image_98 : decode cX6_image 98 = .ok (.getfield 16, 3) ∧ 98 + 3 = 101 := ⟨by decide +kernel, rfl⟩
theorem iX6_image_101 : decode cX6_image 101 = .ok (.iload_n 1, 1) ∧ 101 + 1 = 102 := ⟨by decide +kernel, rfl⟩
theorem iX6_image_102 : decode cX6_image 102 = .ok (.iaload, 1) ∧ 102 + 1 = 103 := ⟨by decide +kernel, rfl⟩
theorem iX6_image_103 : decode cX6_image 103 = .ok (.iastore, 1) ∧ 103 + 1 = 104 := ⟨by decide +kernel, rfl⟩
theorem iX6_image_104 : decode cX6_image 104 = .ok (.aload_n 0, 1) ∧ 104 + 1 = 105 := ⟨by decide +kernel, rfl⟩
theorem iX6_image_105 : decode cX6_image 105 = .ok (.getfield 59, 3) ∧ 105 + 3 = 108 := ⟨by decide +kernel, rfl⟩
theorem iX6_image_108 : decode cX6_image 108 = .ok (.iload_n 1, 1) ∧ 108 + 1 = 109 := ⟨by decide +kernel, rfl⟩
theorem iX6_image_109 : decode cX6_image 109 = .ok (.aload_n 0, 1) ∧ 109 + 1 = 110 := ⟨by decide +kernel, rfl⟩
theorem iX6_image_110 : decode cX6_image 110 = .ok (.getfield 19, 3) ∧ 110 + 3 = 113 := ⟨by decide +kernel, rfl⟩
theorem iX6_image_113 : decode cX6_image 113 = .ok (.iload_n 1, 1) ∧ 113 + 1 = 114 := ⟨by decide +kernel, rfl⟩
theorem iX6_image_114 : decode cX6_image 114 = .ok (.iaload, 1) ∧ 114 + 1 = 115 := ⟨by decide +kernel, rfl⟩
theorem iX6_image_115 : decode cX6_image 115 = .ok (.iastore, 1) ∧ 115 + 1 = 116 := ⟨by decide +kernel, rfl⟩
theorem iX6_image_116 : decode cX6_image 116 = .ok (.aload_n 0, 1) ∧ 116 + 1 = 117 := ⟨by decide +kernel, rfl⟩
theorem iX6_image_117 : decode cX6_image 117 = .ok (.getfield 62, 3) ∧ 117 + 3 = 120 := ⟨by decide +kernel, rfl⟩
theorem iX6_image_120 : decode cX6_image 120 = .ok (.iload_n 1, 1) ∧ 120 + 1 = 121 := ⟨by decide +kernel, rfl⟩
theorem iX6_image_121 : decode cX6_image 121 = .ok (.aload_n 0, 1) ∧ 121 + 1 = 122 := ⟨by decide +kernel, rfl⟩
theorem iX6_image_122 : decode cX6_image 122 = .ok (.getfield 22, 3) ∧ 122 + 3 = 125 := ⟨by decide +kernel, rfl⟩
theorem iX6_image_125 : decode cX6_image 125 = .ok (.iload_n 1, 1) ∧ 125 + 1 = 126 := ⟨by decide +kernel, rfl⟩
theorem iX6_image_126 : decode cX6_image 126 = .ok (.iaload, 1) ∧ 126 + 1 = 127 := ⟨by decide +kernel, rfl⟩
theorem iX6_image_127 : decode cX6_image 127 = .ok (.iastore, 1) ∧ 127 + 1 = 128 := ⟨by decide +kernel, rfl⟩
theorem iX6_image_128 : decode cX6_image 128 = .ok (.aload_n 0, 1) ∧ 128 + 1 = 129 := ⟨by decide +kernel, rfl⟩
theorem iX6_image_129 : decode cX6_image 129 = .ok (.getfield 65, 3) ∧ 129 + 3 = 132 := ⟨by decide +kernel, rfl⟩
theorem iX6_image_132 : decode cX6_image 132 = .ok (.iload_n 1, 1) ∧ 132 + 1 = 133 := ⟨by decide +kernel, rfl⟩
theorem iX6_image_133 : decode cX6_image 133 = .ok (.aload_n 0, 1) ∧ 133 + 1 = 134 := ⟨by decide +kernel, rfl⟩
theorem iX6_image_134 : decode cX6_image 134 = .ok (.getfield 25, 3) ∧ 134 + 3 = 137 := ⟨by decide +kernel, rfl⟩
theorem iX6_image_137 : decode cX6_image 137 = .ok (.iload_n 1, 1) ∧ 137 + 1 = 138 := ⟨by decide +kernel, rfl⟩
theorem iX6_image_138 : decode cX6_image 138 = .ok (.iaload, 1) ∧ 138 + 1 = 139 := ⟨by decide +kernel, rfl⟩
theorem iX6_image_139 : decode cX6_image 139 = .ok (.iastore, 1) ∧ 139 + 1 = 140 := ⟨by decide +kernel, rfl⟩
theorem iX6_image_140 : decode cX6_image 140 = .ok (.iinc 1 1, 3) ∧ 140 + 3 = 143 := ⟨by decide +kernel, rfl⟩
theorem iX6_image_143 : decode cX6_image 143 = .ok (.goto (-57), 3) ∧ 143 + 3 = 146 := ⟨by decide +kernel, rfl⟩
theorem iX6_image_146 : decode cX6_image 146 = .ok (.aload_n 0, 1) ∧ 146 + 1 = 147 := ⟨by decide +kernel, rfl⟩
theorem iX6_image_147 : decode cX6_image 147 = .ok (.getfield 122, 3) ∧ 147 + 3 = 150 := ⟨by decide +kernel, rfl⟩
theorem iX6_image_150 : decode cX6_image 150 = .ok (.ireturn, 1) ∧ 150 + 1 = 151 := ⟨by decide +kernel, rfl⟩
theorem iX6_restore_0 : decode cX6_restore 0 = .ok (.aload_n 0, 1) ∧ 0 + 1 = 1 := ⟨by decide +kernel, rfl⟩
theorem iX6_restore_1 : decode cX6_restore 1 = .ok (.getfield 281, 3) ∧ 1 + 3 = 4 := ⟨by decide +kernel, rfl⟩
theorem iX6_restore_4 : decode cX6_restore 4 = .ok (.ifCond .eq 14, 3) ∧ 4 + 3 = 7 := ⟨by decide +kernel, rfl⟩
theorem iX6_restore_7 : decode cX6_restore 7 = .ok (.aload_n 0, 1) ∧ 7 + 1 = 8 := ⟨by decide +kernel, rfl⟩
theorem iX6_restore_8 : decode cX6_restore 8 = .ok (.getfield 284, 3) ∧ 8 + 3 = 11 := ⟨by decide +kernel, rfl⟩
theorem iX6_restore_11 : decode cX6_restore 11 = .ok (.aload_n 0, 1) ∧ 11 + 1 = 12 := ⟨by decide +kernel, rfl⟩
theorem iX6_restore_12 : decode cX6_restore 12 = .ok (.getfield 125, 3) ∧ 12 + 3 = 15 := ⟨by decide +kernel, rfl⟩
theorem iX6_restore_15 : decode cX6_restore 15 = .ok (.if_icmp .eq 6, 3) ∧ 15 + 3 = 18 := ⟨by decide +kernel, rfl⟩
theorem iX6_restore_18 : decode cX6_restore 18 = .ok (.bipush (-103), 2) ∧ 18 + 2 = 20 := ⟨by decide +kernel, rfl⟩
theorem iX6_restore_20 : decode cX6_restore 20 = .ok (.ireturn, 1) ∧ 20 + 1 = 21 := ⟨by decide +kernel, rfl⟩
theorem iX6_restore_21 : decode cX6_restore 21 = .ok (.aload_n 0, 1) ∧ 21 + 1 = 22 := ⟨by decide +kernel, rfl⟩
theorem iX6_restore_22 : decode cX6_restore 22 = .ok (.aload_n 0, 1) ∧ 22 + 1 = 23 := ⟨by decide +kernel, rfl⟩
theorem iX6_restore_23 : decode cX6_restore 23 = .ok (.getfield 287, 3) ∧ 23 + 3 = 26 := ⟨by decide +kernel, rfl⟩
theorem iX6_restore_26 : decode cX6_restore 26 = .ok (.putfield 116, 3) ∧ 26 + 3 = 29 := ⟨by decide +kernel, rfl⟩
theorem iX6_restore_29 : decode cX6_restore 29 = .ok (.aload_n 0, 1) ∧ 29 + 1 = 30 := ⟨by decide +kernel, rfl⟩
theorem iX6_restore_30 : decode cX6_restore 30 = .ok (.aload_n 0, 1) ∧ 30 + 1 = 31 := ⟨by decide +kernel, rfl⟩
theorem iX6_restore_31 : decode cX6_restore 31 = .ok (.getfield 290, 3) ∧ 31 + 3 = 34 := ⟨by decide +kernel, rfl⟩
theorem iX6_restore_34 : decode cX6_restore 34 = .ok (.putfield 122, 3) ∧ 34 + 3 = 37 := ⟨by decide +kernel, rfl⟩
theorem iX6_restore_37 : decode cX6_restore 37 = .ok (.aload_n 0, 1) ∧ 37 + 1 = 38 := ⟨by decide +kernel, rfl⟩
theorem iX6_restore_38 : decode cX6_restore 38 = .ok (.aload_n 0, 1) ∧ 38 + 1 = 39 := ⟨by decide +kernel, rfl⟩
theorem iX6_restore_39 : decode cX6_restore 39 = .ok (.getfield 293, 3) ∧ 39 + 3 = 42 := ⟨by decide +kernel, rfl⟩
theorem iX6_restore_42 : decode cX6_restore 42 = .ok (.putfield 128, 3) ∧ 42 + 3 = 45 := ⟨by decide +kernel, rfl⟩
theorem iX6_restore_45 : decode cX6_restore 45 = .ok (.iconst 0, 1) ∧ 45 + 1 = 46 := ⟨by decide +kernel, rfl⟩
theorem iX6_restore_46 : decode cX6_restore 46 = .ok (.istore_n 1, 1) ∧ 46 + 1 = 47 := ⟨by decide +kernel, rfl⟩
theorem iX6_restore_47 : decode cX6_restore 47 = .ok (.iload_n 1, 1) ∧ 47 + 1 = 48 := ⟨by decide +kernel, rfl⟩
theorem iX6_restore_48 : decode cX6_restore 48 = .ok (.iconst 4, 1) ∧ 48 + 1 = 49 := ⟨by decide +kernel, rfl⟩
theorem iX6_restore_49 : decode cX6_restore 49 = .ok (.if_icmp .ge 33, 3) ∧ 49 + 3 = 52 := ⟨by decide +kernel, rfl⟩
theorem iX6_restore_52 : decode cX6_restore 52 = .ok (.aload_n 0, 1) ∧ 52 + 1 = 53 := ⟨by decide +kernel, rfl⟩
theorem iX6_restore_53 : decode cX6_restore 53 = .ok (.getfield 7, 3) ∧ 53 + 3 = 56 := ⟨by decide +kernel, rfl⟩
theorem iX6_restore_56 : decode cX6_restore 56 = .ok (.iload_n 1, 1) ∧ 56 + 1 = 57 := ⟨by decide +kernel, rfl⟩
theorem iX6_restore_57 : decode cX6_restore 57 = .ok (.aload_n 0, 1) ∧ 57 + 1 = 58 := ⟨by decide +kernel, rfl⟩
theorem iX6_restore_58 : decode cX6_restore 58 = .ok (.getfield 50, 3) ∧ 58 + 3 = 61 := ⟨by decide +kernel, rfl⟩
theorem iX6_restore_61 : decode cX6_restore 61 = .ok (.iload_n 1, 1) ∧ 61 + 1 = 62 := ⟨by decide +kernel, rfl⟩
theorem iX6_restore_62 : decode cX6_restore 62 = .ok (.iaload, 1) ∧ 62 + 1 = 63 := ⟨by decide +kernel, rfl⟩
theorem iX6_restore_63 : decode cX6_restore 63 = .ok (.iastore, 1) ∧ 63 + 1 = 64 := ⟨by decide +kernel, rfl⟩
theorem iX6_restore_64 : decode cX6_restore 64 = .ok (.aload_n 0, 1) ∧ 64 + 1 = 65 := ⟨by decide +kernel, rfl⟩
theorem iX6_restore_65 : decode cX6_restore 65 = .ok (.getfield 13, 3) ∧ 65 + 3 = 68 := ⟨by decide +kernel, rfl⟩
theorem iX6_restore_68 : decode cX6_restore 68 = .ok (.iload_n 1, 1) ∧ 68 + 1 = 69 := ⟨by decide +kernel, rfl⟩
theorem iX6_restore_69 : decode cX6_restore 69 = .ok (.aload_n 0, 1) ∧ 69 + 1 = 70 := ⟨by decide +kernel, rfl⟩
theorem iX6_restore_70 : decode cX6_restore 70 = .ok (.getfield 53, 3) ∧ 70 + 3 = 73 := ⟨by decide +kernel, rfl⟩
theorem iX6_restore_73 : decode cX6_restore 73 = .ok (.iload_n 1, 1) ∧ 73 + 1 = 74 := ⟨by decide +kernel, rfl⟩
theorem iX6_restore_74 : decode cX6_restore 74 = .ok (.iaload, 1) ∧ 74 + 1 = 75 := ⟨by decide +kernel, rfl⟩
theorem iX6_restore_75 : decode cX6_restore 75 = .ok (.iastore, 1) ∧ 75 + 1 = 76 := ⟨by decide +kernel, rfl⟩
theorem iX6_restore_76 : decode cX6_restore 76 = .ok (.iinc 1 1, 3) ∧ 76 + 3 = 79 := ⟨by decide +kernel, rfl⟩
theorem iX6_restore_79 : decode cX6_restore 79 = .ok (.goto (-32), 3) ∧ 79 + 3 = 82 := ⟨by decide +kernel, rfl⟩
theorem iX6_restore_82 : decode cX6_restore 82 = .ok (.iconst 0, 1) ∧ 82 + 1 = 83 := ⟨by decide +kernel, rfl⟩
theorem iX6_restore_83 : decode cX6_restore 83 = .ok (.istore_n 1, 1) ∧ 83 + 1 = 84 := ⟨by decide +kernel, rfl⟩
theorem iX6_restore_84 : decode cX6_restore 84 = .ok (.iload_n 1, 1) ∧ 84 + 1 = 85 := ⟨by decide +kernel, rfl⟩
theorem iX6_restore_85 : decode cX6_restore 85 = .ok (.bipush 6, 2) ∧ 85 + 2 = 87 := ⟨by decide +kernel, rfl⟩
theorem iX6_restore_87 : decode cX6_restore 87 = .ok (.if_icmp .ge 57, 3) ∧ 87 + 3 = 90 := ⟨by decide +kernel, rfl⟩
theorem iX6_restore_90 : decode cX6_restore 90 = .ok (.aload_n 0, 1) ∧ 90 + 1 = 91 := ⟨by decide +kernel, rfl⟩
theorem iX6_restore_91 : decode cX6_restore 91 = .ok (.getfield 16, 3) ∧ 91 + 3 = 94 := ⟨by decide +kernel, rfl⟩
theorem iX6_restore_94 : decode cX6_restore 94 = .ok (.iload_n 1, 1) ∧ 94 + 1 = 95 := ⟨by decide +kernel, rfl⟩
theorem iX6_restore_95 : decode cX6_restore 95 = .ok (.aload_n 0, 1) ∧ 95 + 1 = 96 := ⟨by decide +kernel, rfl⟩
theorem iX6_restore_96 : decode cX6_restore 96 = .ok (.getfield 56, 3) ∧ 96 + 3 = 99 := ⟨by decide +kernel, rfl⟩
theorem iX6_restore_99 : decode cX6_restore 99 = .ok (.iload_n 1, 1) ∧ 99 + 1 = 100 := ⟨by decide +kernel, rfl⟩
theorem iX6_restore_100 : decode cX6_restore 100 = .ok (.iaload, 1) ∧ 100 + 1 = 101 := ⟨by decide +kernel, rfl⟩
theorem iX6_restore_101 : decode cX6_restore 101 = .ok (.iastore, 1) ∧ 101 + 1 = 102 := ⟨by decide +kernel, rfl⟩
theorem iX6_restore_102 : decode cX6_restore 102 = .ok (.aload_n 0, 1) ∧ 102 + 1 = 103 := ⟨by decide +kernel, rfl⟩
theorem iX6_restore_103 : decode cX6_restore 103 = .ok (.getfield 19, 3) ∧ 103 + 3 = 106 := ⟨by decide +kernel, rfl⟩
theorem iX6_restore_106 : decode cX6_restore 106 = .ok (.iload_n 1, 1) ∧ 106 + 1 = 107 := ⟨by decide +kernel, rfl⟩
theorem iX6_restore_107 : decode cX6_restore 107 = .ok (.aload_n 0, 1) ∧ 107 + 1 = 108 := ⟨by decide +kernel, rfl⟩
theorem iX6_restore_108 : decode cX6_restore 108 = .ok (.getfield 59, 3) ∧ 108 + 3 = 111 := ⟨by decide +kernel, rfl⟩
theorem iX6_restore_111 : decode cX6_restore 111 = .ok (.iload_n 1, 1) ∧ 111 + 1 = 112 := ⟨by decide +kernel, rfl⟩
theorem iX6_restore_112 : decode cX6_restore 112 = .ok (.iaload, 1) ∧ 112 + 1 = 113 := ⟨by decide +kernel, rfl⟩
theorem iX6_restore_113 : decode cX6_restore 113 = .ok (.iastore, 1) ∧ 113 + 1 = 114 := ⟨by decide +kernel, rfl⟩
theorem iX6_restore_114 : decode cX6_restore 114 = .ok (.aload_n 0, 1) ∧ 114 + 1 = 115 := ⟨by decide +kernel, rfl⟩
theorem iX6_restore_115 : decode cX6_restore 115 = .ok (.getfield 22, 3) ∧ 115 + 3 = 118 := ⟨by decide +kernel, rfl⟩
theorem iX6_restore_118 : decode cX6_restore 118 = .ok (.iload_n 1, 1) ∧ 118 + 1 = 119 := ⟨by decide +kernel, rfl⟩
theorem iX6_restore_119 : decode cX6_restore 119 = .ok (.aload_n 0, 1) ∧ 119 + 1 = 120 := ⟨by decide +kernel, rfl⟩
theorem iX6_restore_120 : decode cX6_restore 120 = .ok (.getfield 62, 3) ∧ 120 + 3 = 123 := ⟨by decide +kernel, rfl⟩
theorem iX6_restore_123 : decode cX6_restore 123 = .ok (.iload_n 1, 1) ∧ 123 + 1 = 124 := ⟨by decide +kernel, rfl⟩
theorem iX6_restore_124 : decode cX6_restore 124 = .ok (.iaload, 1) ∧ 124 + 1 = 125 := ⟨by decide +kernel, rfl⟩
theorem iX6_restore_125 : decode cX6_restore 125 = .ok (.iastore, 1) ∧ 125 + 1 = 126 := ⟨by decide +kernel, rfl⟩
theorem iX6_restore_126 : decode cX6_restore 126 = .ok (.aload_n 0, 1) ∧ 126 + 1 = 127 := ⟨by decide +kernel, rfl⟩
theorem iX6_restore_127 : decode cX6_restore 127 = .ok (.getfield 25, 3) ∧ 127 + 3 = 130 := ⟨by decide +kernel, rfl⟩
theorem iX6_restore_130 : decode cX6_restore 130 = .ok (.iload_n 1, 1) ∧ 130 + 1 = 131 := ⟨by decide +kernel, rfl⟩
theorem iX6_restore_131 : decode cX6_restore 131 = .ok (.aload_n 0, 1) ∧ 131 + 1 = 132 := ⟨by decide +kernel, rfl⟩
theorem iX6_restore_132 : decode cX6_restore 132 = .ok (.getfield 65, 3) ∧ 132 + 3 = 135 := ⟨by decide +kernel, rfl⟩
theorem iX6_restore_135 : decode cX6_restore 135 = .ok (.iload_n 1, 1) ∧ 135 + 1 = 136 := ⟨by decide +kernel, rfl⟩
theorem iX6_restore_136 : decode cX6_restore 136 = .ok (.iaload, 1) ∧ 136 + 1 = 137 := ⟨by decide +kernel, rfl⟩
theorem iX6_restore_137 : decode cX6_restore 137 = .ok (.iastore, 1) ∧ 137 + 1 = 138 := ⟨by decide +kernel, rfl⟩
theorem iX6_restore_138 : decode cX6_restore 138 = .ok (.iinc 1 1, 3) ∧ 138 + 3 = 141 := ⟨by decide +kernel, rfl⟩
theorem iX6_restore_141 : decode cX6_restore 141 = .ok (.goto (-57), 3) ∧ 141 + 3 = 144 := ⟨by decide +kernel, rfl⟩
theorem iX6_restore_144 : decode cX6_restore 144 = .ok (.aload_n 0, 1) ∧ 144 + 1 = 145 := ⟨by decide +kernel, rfl⟩
theorem iX6_restore_145 : decode cX6_restore 145 = .ok (.getfield 122, 3) ∧ 145 + 3 = 148 := ⟨by decide +kernel, rfl⟩
theorem iX6_restore_148 : decode cX6_restore 148 = .ok (.ireturn, 1) ∧ 148 + 1 = 149 := ⟨by decide +kernel, rfl⟩
theorem iX6_howMany_0 : decode cX6_howMany 0 = .ok (.iload_n 1, 1) ∧ 0 + 1 = 1 := ⟨by decide +kernel, rfl⟩
theorem iX6_howMany_1 : decode cX6_howMany 1 = .ok (.tableswitch 99 0 8 #[51, 56, 61, 69, 74, 79, 84, 89, 94], 51) ∧ 1 + 51 = 52 := ⟨by decide +kernel, rfl⟩
theorem iX6_howMany_52 : decode cX6_howMany 52 = .ok (.aload_n 0, 1) ∧ 52 + 1 = 53 := ⟨by decide +kernel, rfl⟩
theorem iX6_howMany_53 : decode cX6_howMany 53 = .ok (.getfield 110, 3) ∧ 53 + 3 = 56 := ⟨by decide +kernel, rfl⟩
theorem iX6_howMany_56 : decode cX6_howMany 56 = .ok (.ireturn, 1) ∧ 56 + 1 = 57 := ⟨by decide +kernel, rfl⟩
theorem iX6_howMany_57 : decode cX6_howMany 57 = .ok (.aload_n 0, 1) ∧ 57 + 1 = 58 := ⟨by decide +kernel, rfl⟩
theorem iX6_howMany_58 : decode cX6_howMany 58 = .ok (.getfield 113, 3) ∧ 58 + 3 = 61 := ⟨by decide +kernel, rfl⟩
theorem iX6_howMany_61 : decode cX6_howMany 61 = .ok (.ireturn, 1) ∧ 61 + 1 = 62 := ⟨by decide +kernel, rfl⟩
theorem iX6_howMany_62 : decode cX6_howMany 62 = .ok (.aload_n 0, 1) ∧ 62 + 1 = 63 := ⟨by decide +kernel, rfl⟩
theorem iX6_howMany_63 : decode cX6_howMany 63 = .ok (.getfield 116, 3) ∧ 63 + 3 = 66 := ⟨by decide +kernel, rfl⟩
theorem iX6_howMany_66 : decode cX6_howMany 66 = .ok (.invokestatic 185, 3) ∧ 66 + 3 = 69 := ⟨by decide +kernel, rfl⟩
theorem iX6_howMany_69 : decode cX6_howMany 69 = .ok (.ireturn, 1) ∧ 69 + 1 = 70 := ⟨by decide +kernel, rfl⟩
theorem iX6_howMany_70 : decode cX6_howMany 70 = .ok (.aload_n 0, 1) ∧ 70 + 1 = 71 := ⟨by decide +kernel, rfl⟩
theorem iX6_howMany_71 : decode cX6_howMany 71 = .ok (.getfield 119, 3) ∧ 71 + 3 = 74 := ⟨by decide +kernel, rfl⟩
theorem iX6_howMany_74 : decode cX6_howMany 74 = .ok (.ireturn, 1) ∧ 74 + 1 = 75 := ⟨by decide +kernel, rfl⟩
theorem iX6_howMany_75 : decode cX6_howMany 75 = .ok (.aload_n 0, 1) ∧ 75 + 1 = 76 := ⟨by decide +kernel, rfl⟩
theorem iX6_howMany_76 : decode cX6_howMany 76 = .ok (.getfield 122, 3) ∧ 76 + 3 = 79 := ⟨by decide +kernel, rfl⟩
theorem iX6_howMany_79 : decode cX6_howMany 79 = .ok (.ireturn, 1) ∧ 79 + 1 = 80 := ⟨by decide +kernel, rfl⟩
theorem iX6_howMany_80 : decode cX6_howMany 80 = .ok (.aload_n 0, 1) ∧ 80 + 1 = 81 := ⟨by decide +kernel, rfl⟩
theorem iX6_howMany_81 : decode cX6_howMany 81 = .ok (.invokevirtual 275, 3) ∧ 81 + 3 = 84 := ⟨by decide +kernel, rfl⟩
theorem iX6_howMany_84 : decode cX6_howMany 84 = .ok (.ireturn, 1) ∧ 84 + 1 = 85 := ⟨by decide +kernel, rfl⟩
theorem iX6_howMany_85 : decode cX6_howMany 85 = .ok (.aload_n 0, 1) ∧ 85 + 1 = 86 := ⟨by decide +kernel, rfl⟩
theorem iX6_howMany_86 : decode cX6_howMany 86 = .ok (.getfield 128, 3) ∧ 86 + 3 = 89 := ⟨by decide +kernel, rfl⟩
theorem iX6_howMany_89 : decode cX6_howMany 89 = .ok (.ireturn, 1) ∧ 89 + 1 = 90 := ⟨by decide +kernel, rfl⟩
theorem iX6_howMany_90 : decode cX6_howMany 90 = .ok (.aload_n 0, 1) ∧ 90 + 1 = 91 := ⟨by decide +kernel, rfl⟩
theorem iX6_howMany_91 : decode cX6_howMany 91 = .ok (.getfield 72, 3) ∧ 91 + 3 = 94 := ⟨by decide +kernel, rfl⟩
theorem iX6_howMany_94 : decode cX6_howMany 94 = .ok (.ireturn, 1) ∧ 94 + 1 = 95 := ⟨by decide +kernel, rfl⟩
theorem iX6_howMany_95 : decode cX6_howMany 95 = .ok (.aload_n 0, 1) ∧ 95 + 1 = 96 := ⟨by decide +kernel, rfl⟩
theorem iX6_howMany_96 : decode cX6_howMany 96 = .ok (.getfield 125, 3) ∧ 96 + 3 = 99 := ⟨by decide +kernel, rfl⟩
theorem iX6_howMany_99 : decode cX6_howMany 99 = .ok (.ireturn, 1) ∧ 99 + 1 = 100 := ⟨by decide +kernel, rfl⟩
theorem iX6_howMany_100 : decode cX6_howMany 100 = .ok (.bipush (-102), 2) ∧ 100 + 2 = 102 := ⟨by decide +kernel, rfl⟩
theorem iX6_howMany_102 : decode cX6_howMany 102 = .ok (.ireturn, 1) ∧ 102 + 1 = 103 := ⟨by decide +kernel, rfl⟩
theorem iX6_count_0 : decode cX6_count 0 = .ok (.aload_n 0, 1) ∧ 0 + 1 = 1 := ⟨by decide +kernel, rfl⟩
theorem iX6_count_1 : decode cX6_count 1 = .ok (.iload_n 1, 1) ∧ 1 + 1 = 2 := ⟨by decide +kernel, rfl⟩
theorem iX6_count_2 : decode cX6_count 2 = .ok (.invokevirtual 296, 3) ∧ 2 + 3 = 5 := ⟨by decide +kernel, rfl⟩
theorem iX6_count_5 : decode cX6_count 5 = .ok (.ireturn, 1) ∧ 5 + 1 = 6 := ⟨by decide +kernel, rfl⟩
theorem iX6_mix_0 : decode cX6_mix 0 = .ok (.aload_n 0, 1) ∧ 0 + 1 = 1 := ⟨by decide +kernel, rfl⟩
theorem iX6_mix_1 : decode cX6_mix 1 = .ok (.ldc2_w 299, 3) ∧ 1 + 3 = 4 := ⟨by decide +kernel, rfl⟩
theorem iX6_mix_4 : decode cX6_mix 4 = .ok (.aload_n 0, 1) ∧ 4 + 1 = 5 := ⟨by decide +kernel, rfl⟩
theorem iX6_mix_5 : decode cX6_mix 5 = .ok (.getfield 301, 3) ∧ 5 + 3 = 8 := ⟨by decide +kernel, rfl⟩
theorem iX6_mix_8 : decode cX6_mix 8 = .ok (.lmul, 1) ∧ 8 + 1 = 9 := ⟨by decide +kernel, rfl⟩
theorem iX6_mix_9 : decode cX6_mix 9 = .ok (.lload_n 1, 1) ∧ 9 + 1 = 10 := ⟨by decide +kernel, rfl⟩
theorem iX6_mix_10 : decode cX6_mix 10 = .ok (.ladd, 1) ∧ 10 + 1 = 11 := ⟨by decide +kernel, rfl⟩
theorem iX6_mix_11 : decode cX6_mix 11 = .ok (.putfield 301, 3) ∧ 11 + 3 = 14 := ⟨by decide +kernel, rfl⟩
theorem iX6_mix_14 : decode cX6_mix 14 = .ok (.return_, 1) ∧ 14 + 1 = 15 := ⟨by decide +kernel, rfl⟩
theorem iX6_mixBoard_0 : decode cX6_mixBoard 0 = .ok (.iconst 0, 1) ∧ 0 + 1 = 1 := ⟨by decide +kernel, rfl⟩
theorem iX6_mixBoard_1 : decode cX6_mixBoard 1 = .ok (.istore_n 1, 1) ∧ 1 + 1 = 2 := ⟨by decide +kernel, rfl⟩
theorem iX6_mixBoard_2 : decode cX6_mixBoard 2 = .ok (.iload_n 1, 1) ∧ 2 + 1 = 3 := ⟨by decide +kernel, rfl⟩
theorem iX6_mixBoard_3 : decode cX6_mixBoard 3 = .ok (.iconst 4, 1) ∧ 3 + 1 = 4 := ⟨by decide +kernel, rfl⟩
theorem iX6_mixBoard_4 : decode cX6_mixBoard 4 = .ok (.if_icmp .gt 81, 3) ∧ 4 + 3 = 7 := ⟨by decide +kernel, rfl⟩
theorem iX6_mixBoard_7 : decode cX6_mixBoard 7 = .ok (.iconst 0, 1) ∧ 7 + 1 = 8 := ⟨by decide +kernel, rfl⟩
theorem iX6_mixBoard_8 : decode cX6_mixBoard 8 = .ok (.istore_n 2, 1) ∧ 8 + 1 = 9 := ⟨by decide +kernel, rfl⟩
theorem iX6_mixBoard_9 : decode cX6_mixBoard 9 = .ok (.iload_n 2, 1) ∧ 9 + 1 = 10 := ⟨by decide +kernel, rfl⟩
theorem iX6_mixBoard_10 : decode cX6_mixBoard 10 = .ok (.iconst 2, 1) ∧ 10 + 1 = 11 := ⟨by decide +kernel, rfl⟩
theorem iX6_mixBoard_11 : decode cX6_mixBoard 11 = .ok (.if_icmp .ge 20, 3) ∧ 11 + 3 = 14 := ⟨by decide +kernel, rfl⟩
theorem iX6_mixBoard_14 : decode cX6_mixBoard 14 = .ok (.aload_n 0, 1) ∧ 14 + 1 = 15 := ⟨by decide +kernel, rfl⟩
theorem iX6_mixBoard_15 : decode cX6_mixBoard 15 = .ok (.aload_n 0, 1) ∧ 15 + 1 = 16 := ⟨by decide +kernel, rfl⟩
theorem iX6_mixBoard_16 : decode cX6_mixBoard 16 = .ok (.iload_n 1, 1) ∧ 16 + 1 = 17 := ⟨by decide +kernel, rfl⟩
theorem iX6_mixBoard_17 : decode cX6_mixBoard 17 = .ok (.iload_n 2, 1) ∧ 17 + 1 = 18 := ⟨by decide +kernel, rfl⟩
theorem iX6_mixBoard_18 : decode cX6_mixBoard 18 = .ok (.invokevirtual 228, 3) ∧ 18 + 3 = 21 := ⟨by decide +kernel, rfl⟩
theorem iX6_mixBoard_21 : decode cX6_mixBoard 21 = .ok (.i2l, 1) ∧ 21 + 1 = 22 := ⟨by decide +kernel, rfl⟩
theorem iX6_mixBoard_22 : decode cX6_mixBoard 22 = .ok (.invokevirtual 304, 3) ∧ 22 + 3 = 25 := ⟨by decide +kernel, rfl⟩
theorem iX6_mixBoard_25 : decode cX6_mixBoard 25 = .ok (.iinc 2 1, 3) ∧ 25 + 3 = 28 := ⟨by decide +kernel, rfl⟩
theorem iX6_mixBoard_28 : decode cX6_mixBoard 28 = .ok (.goto (-19), 3) ∧ 28 + 3 = 31 := ⟨by decide +kernel, rfl⟩
theorem iX6_mixBoard_31 : decode cX6_mixBoard 31 = .ok (.iconst 0, 1) ∧ 31 + 1 = 32 := ⟨by decide +kernel, rfl⟩
theorem iX6_mixBoard_32 : decode cX6_mixBoard 32 = .ok (.istore_n 2, 1) ∧ 32 + 1 = 33 := ⟨by decide +kernel, rfl⟩
theorem iX6_mixBoard_33 : decode cX6_mixBoard 33 = .ok (.iload_n 2, 1) ∧ 33 + 1 = 34 := ⟨by decide +kernel, rfl⟩
theorem iX6_mixBoard_34 : decode cX6_mixBoard 34 = .ok (.iconst 2, 1) ∧ 34 + 1 = 35 := ⟨by decide +kernel, rfl⟩
theorem iX6_mixBoard_35 : decode cX6_mixBoard 35 = .ok (.if_icmp .ge 20, 3) ∧ 35 + 3 = 38 := ⟨by decide +kernel, rfl⟩
theorem iX6_mixBoard_38 : decode cX6_mixBoard 38 = .ok (.aload_n 0, 1) ∧ 38 + 1 = 39 := ⟨by decide +kernel, rfl⟩
theorem iX6_mixBoard_39 : decode cX6_mixBoard 39 = .ok (.aload_n 0, 1) ∧ 39 + 1 = 40 := ⟨by decide +kernel, rfl⟩
theorem iX6_mixBoard_40 : decode cX6_mixBoard 40 = .ok (.iload_n 1, 1) ∧ 40 + 1 = 41 := ⟨by decide +kernel, rfl⟩
theorem iX6_mixBoard_41 : decode cX6_mixBoard 41 = .ok (.iload_n 2, 1) ∧ 41 + 1 = 42 := ⟨by decide +kernel, rfl⟩
theorem iX6_mixBoard_42 : decode cX6_mixBoard 42 = .ok (.invokevirtual 234, 3) ∧ 42 + 3 = 45 := ⟨by decide +kernel, rfl⟩
theorem iX6_mixBoard_45 : decode cX6_mixBoard 45 = .ok (.i2l, 1) ∧ 45 + 1 = 46 := ⟨by decide +kernel, rfl⟩
theorem iX6_mixBoard_46 : decode cX6_mixBoard 46 = .ok (.invokevirtual 304, 3) ∧ 46 + 3 = 49 := ⟨by decide +kernel, rfl⟩
theorem iX6_mixBoard_49 : decode cX6_mixBoard 49 = .ok (.iinc 2 1, 3) ∧ 49 + 3 = 52 := ⟨by decide +kernel, rfl⟩
theorem iX6_mixBoard_52 : decode cX6_mixBoard 52 = .ok (.goto (-19), 3) ∧ 52 + 3 = 55 := ⟨by decide +kernel, rfl⟩
theorem iX6_mixBoard_55 : decode cX6_mixBoard 55 = .ok (.iconst 0, 1) ∧ 55 + 1 = 56 := ⟨by decide +kernel, rfl⟩
theorem iX6_mixBoard_56 : decode cX6_mixBoard 56 = .ok (.istore_n 2, 1) ∧ 56 + 1 = 57 := ⟨by decide +kernel, rfl⟩
theorem iX6_mixBoard_57 : decode cX6_mixBoard 57 = .ok (.iload_n 2, 1) ∧ 57 + 1 = 58 := ⟨by decide +kernel, rfl⟩
theorem iX6_mixBoard_58 : decode cX6_mixBoard 58 = .ok (.iconst 2, 1) ∧ 58 + 1 = 59 := ⟨by decide +kernel, rfl⟩
theorem iX6_mixBoard_59 : decode cX6_mixBoard 59 = .ok (.if_icmp .ge 20, 3) ∧ 59 + 3 = 62 := ⟨by decide +kernel, rfl⟩
theorem iX6_mixBoard_62 : decode cX6_mixBoard 62 = .ok (.aload_n 0, 1) ∧ 62 + 1 = 63 := ⟨by decide +kernel, rfl⟩
theorem iX6_mixBoard_63 : decode cX6_mixBoard 63 = .ok (.aload_n 0, 1) ∧ 63 + 1 = 64 := ⟨by decide +kernel, rfl⟩
theorem iX6_mixBoard_64 : decode cX6_mixBoard 64 = .ok (.iload_n 1, 1) ∧ 64 + 1 = 65 := ⟨by decide +kernel, rfl⟩
theorem iX6_mixBoard_65 : decode cX6_mixBoard 65 = .ok (.iload_n 2, 1) ∧ 65 + 1 = 66 := ⟨by decide +kernel, rfl⟩
theorem iX6_mixBoard_66 : decode cX6_mixBoard 66 = .ok (.invokevirtual 246, 3) ∧ 66 + 3 = 69 := ⟨by decide +kernel, rfl⟩
theorem iX6_mixBoard_69 : decode cX6_mixBoard 69 = .ok (.i2l, 1) ∧ 69 + 1 = 70 := ⟨by decide +kernel, rfl⟩
theorem iX6_mixBoard_70 : decode cX6_mixBoard 70 = .ok (.invokevirtual 304, 3) ∧ 70 + 3 = 73 := ⟨by decide +kernel, rfl⟩
theorem iX6_mixBoard_73 : decode cX6_mixBoard 73 = .ok (.iinc 2 1, 3) ∧ 73 + 3 = 76 := ⟨by decide +kernel, rfl⟩
theorem iX6_mixBoard_76 : decode cX6_mixBoard 76 = .ok (.goto (-19), 3) ∧ 76 + 3 = 79 := ⟨by decide +kernel, rfl⟩
theorem iX6_mixBoard_79 : decode cX6_mixBoard 79 = .ok (.iinc 1 1, 3) ∧ 79 + 3 = 82 := ⟨by decide +kernel, rfl⟩
theorem iX6_mixBoard_82 : decode cX6_mixBoard 82 = .ok (.goto (-80), 3) ∧ 82 + 3 = 85 := ⟨by decide +kernel, rfl⟩
theorem iX6_mixBoard_85 : decode cX6_mixBoard 85 = .ok (.aload_n 0, 1) ∧ 85 + 1 = 86 := ⟨by decide +kernel, rfl⟩
theorem iX6_mixBoard_86 : decode cX6_mixBoard 86 = .ok (.getfield 119, 3) ∧ 86 + 3 = 89 := ⟨by decide +kernel, rfl⟩
theorem iX6_mixBoard_89 : decode cX6_mixBoard 89 = .ok (.iconst 1, 1) ∧ 89 + 1 = 90 := ⟨by decide +kernel, rfl⟩
theorem iX6_mixBoard_90 : decode cX6_mixBoard 90 = .ok (.if_icmp .le 14, 3) ∧ 90 + 3 = 93 := ⟨by decide +kernel, rfl⟩
theorem iX6_mixBoard_93 : decode cX6_mixBoard 93 = .ok (.aload_n 0, 1) ∧ 93 + 1 = 94 := ⟨by decide +kernel, rfl⟩
theorem iX6_mixBoard_94 : decode cX6_mixBoard 94 = .ok (.aload_n 0, 1) ∧ 94 + 1 = 95 := ⟨by decide +kernel, rfl⟩
theorem iX6_mixBoard_95 : decode cX6_mixBoard 95 = .ok (.iconst 0, 1) ∧ 95 + 1 = 96 := ⟨by decide +kernel, rfl⟩
theorem iX6_mixBoard_96 : decode cX6_mixBoard 96 = .ok (.iconst 1, 1) ∧ 96 + 1 = 97 := ⟨by decide +kernel, rfl⟩
theorem iX6_mixBoard_97 : decode cX6_mixBoard 97 = .ok (.invokevirtual 209, 3) ∧ 97 + 3 = 100 := ⟨by decide +kernel, rfl⟩
theorem iX6_mixBoard_100 : decode cX6_mixBoard 100 = .ok (.i2l, 1) ∧ 100 + 1 = 101 := ⟨by decide +kernel, rfl⟩
theorem iX6_mixBoard_101 : decode cX6_mixBoard 101 = .ok (.invokevirtual 304, 3) ∧ 101 + 3 = 104 := ⟨by decide +kernel, rfl⟩
theorem iX6_mixBoard_104 : decode cX6_mixBoard 104 = .ok (.return_, 1) ∧ 104 + 1 = 105 := ⟨by decide +kernel, rfl⟩
theorem iX6_digest_0 : decode cX6_digest 0 = .ok (.aload_n 0, 1) ∧ 0 + 1 = 1 := ⟨by decide +kernel, rfl⟩
theorem iX6_digest_1 : decode cX6_digest 1 = .ok (.ldc2_w 308, 3) ∧ 1 + 3 = 4 := ⟨by decide +kernel, rfl⟩
theorem iX6_digest_4 : decode cX6_digest 4 = .ok (.putfield 301, 3) ∧ 4 + 3 = 7 := ⟨by decide +kernel, rfl⟩
theorem iX6_digest_7 : decode cX6_digest 7 = .ok (.iconst 0, 1) ∧ 7 + 1 = 8 := ⟨by decide +kernel, rfl⟩
theorem iX6_digest_8 : decode cX6_digest 8 = .ok (.istore_n 1, 1) ∧ 8 + 1 = 9 := ⟨by decide +kernel, rfl⟩
theorem iX6_digest_9 : decode cX6_digest 9 = .ok (.iload_n 1, 1) ∧ 9 + 1 = 10 := ⟨by decide +kernel, rfl⟩
theorem iX6_digest_10 : decode cX6_digest 10 = .ok (.aload_n 0, 1) ∧ 10 + 1 = 11 := ⟨by decide +kernel, rfl⟩
theorem iX6_digest_11 : decode cX6_digest 11 = .ok (.getfield 119, 3) ∧ 11 + 3 = 14 := ⟨by decide +kernel, rfl⟩
theorem iX6_digest_14 : decode cX6_digest 14 = .ok (.if_icmp .ge 57, 3) ∧ 14 + 3 = 17 := ⟨by decide +kernel, rfl⟩
theorem iX6_digest_17 : decode cX6_digest 17 = .ok (.iconst 0, 1) ∧ 17 + 1 = 18 := ⟨by decide +kernel, rfl⟩
theorem iX6_digest_18 : decode cX6_digest 18 = .ok (.istore_n 2, 1) ∧ 18 + 1 = 19 := ⟨by decide +kernel, rfl⟩
theorem iX6_digest_19 : decode cX6_digest 19 = .ok (.iload_n 2, 1) ∧ 19 + 1 = 20 := ⟨by decide +kernel, rfl⟩
theorem iX6_digest_20 : decode cX6_digest 20 = .ok (.bipush 8, 2) ∧ 20 + 2 = 22 := ⟨by decide +kernel, rfl⟩
theorem iX6_digest_22 : decode cX6_digest 22 = .ok (.if_icmp .ge 20, 3) ∧ 22 + 3 = 25 := ⟨by decide +kernel, rfl⟩
theorem iX6_digest_25 : decode cX6_digest 25 = .ok (.aload_n 0, 1) ∧ 25 + 1 = 26 := ⟨by decide +kernel, rfl⟩
theorem iX6_digest_26 : decode cX6_digest 26 = .ok (.aload_n 0, 1) ∧ 26 + 1 = 27 := ⟨by decide +kernel, rfl⟩
theorem iX6_digest_27 : decode cX6_digest 27 = .ok (.iload_n 1, 1) ∧ 27 + 1 = 28 := ⟨by decide +kernel, rfl⟩
theorem iX6_digest_28 : decode cX6_digest 28 = .ok (.iload_n 2, 1) ∧ 28 + 1 = 29 := ⟨by decide +kernel, rfl⟩
theorem iX6_digest_29 : decode cX6_digest 29 = .ok (.invokevirtual 170, 3) ∧ 29 + 3 = 32 := ⟨by decide +kernel, rfl⟩
theorem iX6_digest_32 : decode cX6_digest 32 = .ok (.i2l, 1) ∧ 32 + 1 = 33 := ⟨by decide +kernel, rfl⟩
theorem iX6_digest_33 : decode cX6_digest 33 = .ok (.invokevirtual 304, 3) ∧ 33 + 3 = 36 := ⟨by decide +kernel, rfl⟩
theorem iX6_digest_36 : decode cX6_digest 36 = .ok (.iinc 2 1, 3) ∧ 36 + 3 = 39 := ⟨by decide +kernel, rfl⟩
theorem iX6_digest_39 : decode cX6_digest 39 = .ok (.goto (-20), 3) ∧ 39 + 3 = 42 := ⟨by decide +kernel, rfl⟩
theorem iX6_digest_42 : decode cX6_digest 42 = .ok (.aload_n 0, 1) ∧ 42 + 1 = 43 := ⟨by decide +kernel, rfl⟩
theorem iX6_digest_43 : decode cX6_digest 43 = .ok (.aload_n 0, 1) ∧ 43 + 1 = 44 := ⟨by decide +kernel, rfl⟩
theorem iX6_digest_44 : decode cX6_digest 44 = .ok (.iload_n 1, 1) ∧ 44 + 1 = 45 := ⟨by decide +kernel, rfl⟩
theorem iX6_digest_45 : decode cX6_digest 45 = .ok (.iconst 0, 1) ∧ 45 + 1 = 46 := ⟨by decide +kernel, rfl⟩
theorem iX6_digest_46 : decode cX6_digest 46 = .ok (.invokevirtual 310, 3) ∧ 46 + 3 = 49 := ⟨by decide +kernel, rfl⟩
theorem iX6_digest_49 : decode cX6_digest 49 = .ok (.i2l, 1) ∧ 49 + 1 = 50 := ⟨by decide +kernel, rfl⟩
theorem iX6_digest_50 : decode cX6_digest 50 = .ok (.invokevirtual 304, 3) ∧ 50 + 3 = 53 := ⟨by decide +kernel, rfl⟩
theorem iX6_digest_53 : decode cX6_digest 53 = .ok (.aload_n 0, 1) ∧ 53 + 1 = 54 := ⟨by decide +kernel, rfl⟩
theorem iX6_digest_54 : decode cX6_digest 54 = .ok (.aload_n 0, 1) ∧ 54 + 1 = 55 := ⟨by decide +kernel, rfl⟩
theorem iX6_digest_55 : decode cX6_digest 55 = .ok (.iload_n 1, 1) ∧ 55 + 1 = 56 := ⟨by decide +kernel, rfl⟩
theorem iX6_digest_56 : decode cX6_digest 56 = .ok (.iconst 3, 1) ∧ 56 + 1 = 57 := ⟨by decide +kernel, rfl⟩
theorem iX6_digest_57 : decode cX6_digest 57 = .ok (.iconst 3, 1) ∧ 57 + 1 = 58 := ⟨by decide +kernel, rfl⟩
theorem iX6_digest_58 : decode cX6_digest 58 = .ok (.invokevirtual 313, 3) ∧ 58 + 3 = 61 := ⟨by decide +kernel, rfl⟩
theorem iX6_digest_61 : decode cX6_digest 61 = .ok (.i2l, 1) ∧ 61 + 1 = 62 := ⟨by decide +kernel, rfl⟩
theorem iX6_digest_62 : decode cX6_digest 62 = .ok (.invokevirtual 304, 3) ∧ 62 + 3 = 65 := ⟨by decide +kernel, rfl⟩
theorem iX6_digest_65 : decode cX6_digest 65 = .ok (.iinc 1 1, 3) ∧ 65 + 3 = 68 := ⟨by decide +kernel, rfl⟩
theorem iX6_digest_68 : decode cX6_digest 68 = .ok (.goto (-59), 3) ∧ 68 + 3 = 71 := ⟨by decide +kernel, rfl⟩
theorem iX6_digest_71 : decode cX6_digest 71 = .ok (.iconst 0, 1) ∧ 71 + 1 = 72 := ⟨by decide +kernel, rfl⟩
theorem iX6_digest_72 : decode cX6_digest 72 = .ok (.istore_n 1, 1) ∧ 72 + 1 = 73 := ⟨by decide +kernel, rfl⟩
theorem iX6_digest_73 : decode cX6_digest 73 = .ok (.iload_n 1, 1) ∧ 73 + 1 = 74 := ⟨by decide +kernel, rfl⟩
theorem iX6_digest_74 : decode cX6_digest 74 = .ok (.aload_n 0, 1) ∧ 74 + 1 = 75 := ⟨by decide +kernel, rfl⟩
theorem iX6_digest_75 : decode cX6_digest 75 = .ok (.invokevirtual 131, 3) ∧ 75 + 3 = 78 := ⟨by decide +kernel, rfl⟩
theorem iX6_digest_78 : decode cX6_digest 78 = .ok (.if_icmp .ge 33, 3) ∧ 78 + 3 = 81 := ⟨by decide +kernel, rfl⟩
theorem iX6_digest_81 : decode cX6_digest 81 = .ok (.iconst 0, 1) ∧ 81 + 1 = 82 := ⟨by decide +kernel, rfl⟩
theorem iX6_digest_82 : decode cX6_digest 82 = .ok (.istore_n 2, 1) ∧ 82 + 1 = 83 := ⟨by decide +kernel, rfl⟩
theorem iX6_digest_83 : decode cX6_digest 83 = .ok (.iload_n 2, 1) ∧ 83 + 1 = 84 := ⟨by decide +kernel, rfl⟩
theorem iX6_digest_84 : decode cX6_digest 84 = .ok (.iconst 3, 1) ∧ 84 + 1 = 85 := ⟨by decide +kernel, rfl⟩
theorem iX6_digest_85 : decode cX6_digest 85 = .ok (.if_icmp .ge 20, 3) ∧ 85 + 3 = 88 := ⟨by decide +kernel, rfl⟩
theorem iX6_digest_88 : decode cX6_digest 88 = .ok (.aload_n 0, 1) ∧ 88 + 1 = 89 := ⟨by decide +kernel, rfl⟩
theorem iX6_digest_89 : decode cX6_digest 89 = .ok (.aload_n 0, 1) ∧ 89 + 1 = 90 := ⟨by decide +kernel, rfl⟩
theorem iX6_digest_90 : decode cX6_digest 90 = .ok (.iload_n 1, 1) ∧ 90 + 1 = 91 := ⟨by decide +kernel, rfl⟩
theorem iX6_digest_91 : decode cX6_digest 91 = .ok (.iload_n 2, 1) ∧ 91 + 1 = 92 := ⟨by decide +kernel, rfl⟩
theorem iX6_digest_92 : decode cX6_digest 92 = .ok (.invokevirtual 182, 3) ∧ 92 + 3 = 95 := ⟨by decide +kernel, rfl⟩
theorem iX6_digest_95 : decode cX6_digest 95 = .ok (.i2l, 1) ∧ 95 + 1 = 96 := ⟨by decide +kernel, rfl⟩
theorem iX6_digest_96 : decode cX6_digest 96 = .ok (.invokevirtual 304, 3) ∧ 96 + 3 = 99 := ⟨by decide +kernel, rfl⟩
theorem iX6_digest_99 : decode cX6_digest 99 = .ok (.iinc 2 1, 3) ∧ 99 + 3 = 102 := ⟨by decide +kernel, rfl⟩
theorem iX6_digest_102 : decode cX6_digest 102 = .ok (.goto (-19), 3) ∧ 102 + 3 = 105 := ⟨by decide +kernel, rfl⟩
theorem iX6_digest_105 : decode cX6_digest 105 = .ok (.iinc 1 1, 3) ∧ 105 + 3 = 108 := ⟨by decide +kernel, rfl⟩
theorem iX6_digest_108 : decode cX6_digest 108 = .ok (.goto (-35), 3) ∧ 108 + 3 = 111 := ⟨by decide +kernel, rfl⟩
theorem iX6_digest_111 : decode cX6_digest 111 = .ok (.aload_n 0, 1) ∧ 111 + 1 = 112 := ⟨by decide +kernel, rfl⟩
theorem iX6_digest_112 : decode cX6_digest 112 = .ok (.getfield 119, 3) ∧ 112 + 3 = 115 := ⟨by decide +kernel, rfl⟩
theorem iX6_digest_115 : decode cX6_digest 115 = .ok (.ifCond .le 7, 3) ∧ 115 + 3 = 118 := ⟨by decide +kernel, rfl⟩
theorem iX6_digest_118 : decode cX6_digest 118 = .ok (.aload_n 0, 1) ∧ 118 + 1 = 119 := ⟨by decide +kernel, rfl⟩
theorem iX6_digest_119 : decode cX6_digest 119 = .ok (.invokevirtual 316, 3) ∧ 119 + 3 = 122 := ⟨by decide +kernel, rfl⟩
theorem iX6_digest_122 : decode cX6_digest 122 = .ok (.iconst 0, 1) ∧ 122 + 1 = 123 := ⟨by decide +kernel, rfl⟩
theorem iX6_digest_123 : decode cX6_digest 123 = .ok (.istore_n 1, 1) ∧ 123 + 1 = 124 := ⟨by decide +kernel, rfl⟩
theorem iX6_digest_124 : decode cX6_digest 124 = .ok (.iload_n 1, 1) ∧ 124 + 1 = 125 := ⟨by decide +kernel, rfl⟩
theorem iX6_digest_125 : decode cX6_digest 125 = .ok (.aload_n 0, 1) ∧ 125 + 1 = 126 := ⟨by decide +kernel, rfl⟩
theorem iX6_digest_126 : decode cX6_digest 126 = .ok (.getfield 72, 3) ∧ 126 + 3 = 129 := ⟨by decide +kernel, rfl⟩
theorem iX6_digest_129 : decode cX6_digest 129 = .ok (.if_icmp .ge 20, 3) ∧ 129 + 3 = 132 := ⟨by decide +kernel, rfl⟩
theorem iX6_digest_132 : decode cX6_digest 132 = .ok (.aload_n 0, 1) ∧ 132 + 1 = 133 := ⟨by decide +kernel, rfl⟩
theorem iX6_digest_133 : decode cX6_digest 133 = .ok (.aload_n 0, 1) ∧ 133 + 1 = 134 := ⟨by decide +kernel, rfl⟩
theorem iX6_digest_134 : decode cX6_digest 134 = .ok (.getfield 28, 3) ∧ 134 + 3 = 137 := ⟨by decide +kernel, rfl⟩
theorem iX6_digest_137 : decode cX6_digest 137 = .ok (.iload_n 1, 1) ∧ 137 + 1 = 138 := ⟨by decide +kernel, rfl⟩
theorem iX6_digest_138 : decode cX6_digest 138 = .ok (.baload, 1) ∧ 138 + 1 = 139 := ⟨by decide +kernel, rfl⟩
theorem iX6_digest_139 : decode cX6_digest 139 = .ok (.i2l, 1) ∧ 139 + 1 = 140 := ⟨by decide +kernel, rfl⟩
theorem iX6_digest_140 : decode cX6_digest 140 = .ok (.invokevirtual 304, 3) ∧ 140 + 3 = 143 := ⟨by decide +kernel, rfl⟩
theorem iX6_digest_143 : decode cX6_digest 143 = .ok (.iinc 1 1, 3) ∧ 143 + 3 = 146 := ⟨by decide +kernel, rfl⟩
theorem iX6_digest_146 : decode cX6_digest 146 = .ok (.goto (-22), 3) ∧ 146 + 3 = 149 := ⟨by decide +kernel, rfl⟩
theorem iX6_digest_149 : decode cX6_digest 149 = .ok (.iconst 0, 1) ∧ 149 + 1 = 150 := ⟨by decide +kernel, rfl⟩
theorem iX6_digest_150 : decode cX6_digest 150 = .ok (.istore_n 1, 1) ∧ 150 + 1 = 151 := ⟨by decide +kernel, rfl⟩
theorem iX6_digest_151 : decode cX6_digest 151 = .ok (.iload_n 1, 1) ∧ 151 + 1 = 152 := ⟨by decide +kernel, rfl⟩
theorem iX6_digest_152 : decode cX6_digest 152 = .ok (.bipush 9, 2) ∧ 152 + 2 = 154 := ⟨by decide +kernel, rfl⟩
theorem iX6_digest_154 : decode cX6_digest 154 = .ok (.if_icmp .ge 19, 3) ∧ 154 + 3 = 157 := ⟨by decide +kernel, rfl⟩
theorem iX6_digest_157 : decode cX6_digest 157 = .ok (.aload_n 0, 1) ∧ 157 + 1 = 158 := ⟨by decide +kernel, rfl⟩
theorem iX6_digest_158 : decode cX6_digest 158 = .ok (.aload_n 0, 1) ∧ 158 + 1 = 159 := ⟨by decide +kernel, rfl⟩
theorem iX6_digest_159 : decode cX6_digest 159 = .ok (.iload_n 1, 1) ∧ 159 + 1 = 160 := ⟨by decide +kernel, rfl⟩
theorem iX6_digest_160 : decode cX6_digest 160 = .ok (.invokevirtual 296, 3) ∧ 160 + 3 = 163 := ⟨by decide +kernel, rfl⟩
theorem iX6_digest_163 : decode cX6_digest 163 = .ok (.i2l, 1) ∧ 163 + 1 = 164 := ⟨by decide +kernel, rfl⟩
theorem iX6_digest_164 : decode cX6_digest 164 = .ok (.invokevirtual 304, 3) ∧ 164 + 3 = 167 := ⟨by decide +kernel, rfl⟩
theorem iX6_digest_167 : decode cX6_digest 167 = .ok (.iinc 1 1, 3) ∧ 167 + 3 = 170 := ⟨by decide +kernel, rfl⟩
theorem iX6_digest_170 : decode cX6_digest 170 = .ok (.goto (-19), 3) ∧ 170 + 3 = 173 := ⟨by decide +kernel, rfl⟩
theorem iX6_digest_173 : decode cX6_digest 173 = .ok (.aload_n 0, 1) ∧ 173 + 1 = 174 := ⟨by decide +kernel, rfl⟩
theorem iX6_digest_174 : decode cX6_digest 174 = .ok (.getfield 301, 3) ∧ 174 + 3 = 177 := ⟨by decide +kernel, rfl⟩
theorem iX6_digest_177 : decode cX6_digest 177 = .ok (.lreturn, 1) ∧ 177 + 1 = 178 := ⟨by decide +kernel, rfl⟩
theorem iJ11_isValidCodePoint_0 : decode cJ11_isValidCodePoint_9a6ad 0 = .ok (.iload_n 0, 1) ∧ 0 + 1 = 1 := ⟨by decide +kernel, rfl⟩
theorem iJ11_isValidCodePoint_1 : decode cJ11_isValidCodePoint_9a6ad 1 = .ok (.bipush 16, 2) ∧ 1 + 2 = 3 := ⟨by decide +kernel, rfl⟩
theorem iJ11_isValidCodePoint_3 : decode cJ11_isValidCodePoint_9a6ad 3 = .ok (.iushr, 1) ∧ 3 + 1 = 4 := ⟨by decide +kernel, rfl⟩
theorem iJ11_isValidCodePoint_4 : decode cJ11_isValidCodePoint_9a6ad 4 = .ok (.istore_n 1, 1) ∧ 4 + 1 = 5 := ⟨by decide +kernel, rfl⟩
theorem iJ11_isValidCodePoint_5 : decode cJ11_isValidCodePoint_9a6ad 5 = .ok (.iload_n 1, 1) ∧ 5 + 1 = 6 := ⟨by decide +kernel, rfl⟩
theorem iJ11_isValidCodePoint_6 : decode cJ11_isValidCodePoint_9a6ad 6 = .ok (.bipush 17, 2) ∧ 6 + 2 = 8 := ⟨by decide +kernel, rfl⟩
theorem iJ11_isValidCodePoint_8 : decode cJ11_isValidCodePoint_9a6ad 8 = .ok (.if_icmp .ge 7, 3) ∧ 8 + 3 = 11 := ⟨by decide +kernel, rfl⟩
theorem iJ11_isValidCodePoint_11 : decode cJ11_isValidCodePoint_9a6ad 11 = .ok (.iconst 1, 1) ∧ 11 + 1 = 12 := ⟨by decide +kernel, rfl⟩
theorem iJ11_isValidCodePoint_12 : decode cJ11_isValidCodePoint_9a6ad 12 = .ok (.goto 4, 3) ∧ 12 + 3 = 15 := ⟨by decide +kernel, rfl⟩
theorem iJ11_isValidCodePoint_15 : decode cJ11_isValidCodePoint_9a6ad 15 = .ok (.iconst 0, 1) ∧ 15 + 1 = 16 := ⟨by decide +kernel, rfl⟩
theorem iJ11_isValidCodePoint_16 : decode cJ11_isValidCodePoint_9a6ad 16 = .ok (.ireturn, 1) ∧ 16 + 1 = 17 := ⟨by decide +kernel, rfl⟩
theorem iJ11_highSurrogate_0 : decode cJ11_highSurrogate_5068e 0 = .ok (.iload_n 0, 1) ∧ 0 + 1 = 1 := ⟨by decide +kernel, rfl⟩
theorem iJ11_highSurrogate_1 : decode cJ11_highSurrogate_5068e 1 = .ok (.bipush 10, 2) ∧ 1 + 2 = 3 := ⟨by decide +kernel, rfl⟩
theorem iJ11_highSurrogate_3 : decode cJ11_highSurrogate_5068e 3 = .ok (.iushr, 1) ∧ 3 + 1 = 4 := ⟨by decide +kernel, rfl⟩
theorem iJ11_highSurrogate_4 : decode cJ11_highSurrogate_5068e 4 = .ok (.ldc 110, 2) ∧ 4 + 2 = 6 := ⟨by decide +kernel, rfl⟩
theorem iJ11_highSurrogate_6 : decode cJ11_highSurrogate_5068e 6 = .ok (.iadd, 1) ∧ 6 + 1 = 7 := ⟨by decide +kernel, rfl⟩
theorem iJ11_highSurrogate_7 : decode cJ11_highSurrogate_5068e 7 = .ok (.i2c, 1) ∧ 7 + 1 = 8 := ⟨by decide +kernel, rfl⟩
theorem iJ11_highSurrogate_8 : decode cJ11_highSurrogate_5068e 8 = .ok (.ireturn, 1) ∧ 8 + 1 = 9 := ⟨by decide +kernel, rfl⟩
theorem iJ11_lowSurrogate_0 : decode cJ11_lowSurrogate_5068e 0 = .ok (.iload_n 0, 1) ∧ 0 + 1 = 1 := ⟨by decide +kernel, rfl⟩
theorem iJ11_lowSurrogate_1 : decode cJ11_lowSurrogate_5068e 1 = .ok (.sipush 1023, 3) ∧ 1 + 3 = 4 := ⟨by decide +kernel, rfl⟩
theorem iJ11_lowSurrogate_4 : decode cJ11_lowSurrogate_5068e 4 = .ok (.iand, 1) ∧ 4 + 1 = 5 := ⟨by decide +kernel, rfl⟩
theorem iJ11_lowSurrogate_5 : decode cJ11_lowSurrogate_5068e 5 = .ok (.ldc 76, 2) ∧ 5 + 2 = 7 := ⟨by decide +kernel, rfl⟩
theorem iJ11_lowSurrogate_7 : decode cJ11_lowSurrogate_5068e 7 = .ok (.iadd, 1) ∧ 7 + 1 = 8 := ⟨by decide +kernel, rfl⟩
theorem iJ11_lowSurrogate_8 : decode cJ11_lowSurrogate_5068e 8 = .ok (.i2c, 1) ∧ 8 + 1 = 9 := ⟨by decide +kernel, rfl⟩
theorem iJ11_lowSurrogate_9 : decode cJ11_lowSurrogate_5068e 9 = .ok (.ireturn, 1) ∧ 9 + 1 = 10 := ⟨by decide +kernel, rfl⟩
theorem iJ6_bitCount_0 : decode cJ6_bitCount_0f7a4 0 = .ok (.iload_n 0, 1) ∧ 0 + 1 = 1 := ⟨by decide +kernel, rfl⟩
theorem iJ6_bitCount_1 : decode cJ6_bitCount_0f7a4 1 = .ok (.iload_n 0, 1) ∧ 1 + 1 = 2 := ⟨by decide +kernel, rfl⟩
theorem iJ6_bitCount_2 : decode cJ6_bitCount_0f7a4 2 = .ok (.iconst 1, 1) ∧ 2 + 1 = 3 := ⟨by decide +kernel, rfl⟩
theorem iJ6_bitCount_3 : decode cJ6_bitCount_0f7a4 3 = .ok (.iushr, 1) ∧ 3 + 1 = 4 := ⟨by decide +kernel, rfl⟩
theorem iJ6_bitCount_4 : decode cJ6_bitCount_0f7a4 4 = .ok (.ldc_w 265, 3) ∧ 4 + 3 = 7 := ⟨by decide +kernel, rfl⟩
theorem iJ6_bitCount_7 : decode cJ6_bitCount_0f7a4 7 = .ok (.iand, 1) ∧ 7 + 1 = 8 := ⟨by decide +kernel, rfl⟩
theorem iJ6_bitCount_8 : decode cJ6_bitCount_0f7a4 8 = .ok (.isub, 1) ∧ 8 + 1 = 9 := ⟨by decide +kernel, rfl⟩
theorem iJ6_bitCount_9 : decode cJ6_bitCount_0f7a4 9 = .ok (.istore_n 0, 1) ∧ 9 + 1 = 10 := ⟨by decide +kernel, rfl⟩
theorem iJ6_bitCount_10 : decode cJ6_bitCount_0f7a4 10 = .ok (.iload_n 0, 1) ∧ 10 + 1 = 11 := ⟨by decide +kernel, rfl⟩
theorem iJ6_bitCount_11 : decode cJ6_bitCount_0f7a4 11 = .ok (.ldc_w 266, 3) ∧ 11 + 3 = 14 := ⟨by decide +kernel, rfl⟩
theorem iJ6_bitCount_14 : decode cJ6_bitCount_0f7a4 14 = .ok (.iand, 1) ∧ 14 + 1 = 15 := ⟨by decide +kernel, rfl⟩
theorem iJ6_bitCount_15 : decode cJ6_bitCount_0f7a4 15 = .ok (.iload_n 0, 1) ∧ 15 + 1 = 16 := ⟨by decide +kernel, rfl⟩
theorem iJ6_bitCount_16 : decode cJ6_bitCount_0f7a4 16 = .ok (.iconst 2, 1) ∧ 16 + 1 = 17 := ⟨by decide +kernel, rfl⟩
theorem iJ6_bitCount_17 : decode cJ6_bitCount_0f7a4 17 = .ok (.iushr, 1) ∧ 17 + 1 = 18 := ⟨by decide +kernel, rfl⟩
theorem iJ6_bitCount_18 : decode cJ6_bitCount_0f7a4 18 = .ok (.ldc_w 266, 3) ∧ 18 + 3 = 21 := ⟨by decide +kernel, rfl⟩
theorem iJ6_bitCount_21 : decode cJ6_bitCount_0f7a4 21 = .ok (.iand, 1) ∧ 21 + 1 = 22 := ⟨by decide +kernel, rfl⟩
theorem iJ6_bitCount_22 : decode cJ6_bitCount_0f7a4 22 = .ok (.iadd, 1) ∧ 22 + 1 = 23 := ⟨by decide +kernel, rfl⟩
theorem iJ6_bitCount_23 : decode cJ6_bitCount_0f7a4 23 = .ok (.istore_n 0, 1) ∧ 23 + 1 = 24 := ⟨by decide +kernel, rfl⟩
theorem iJ6_bitCount_24 : decode cJ6_bitCount_0f7a4 24 = .ok (.iload_n 0, 1) ∧ 24 + 1 = 25 := ⟨by decide +kernel, rfl⟩
theorem iJ6_bitCount_25 : decode cJ6_bitCount_0f7a4 25 = .ok (.iload_n 0, 1) ∧ 25 + 1 = 26 := ⟨by decide +kernel, rfl⟩
theorem iJ6_bitCount_26 : decode cJ6_bitCount_0f7a4 26 = .ok (.iconst 4, 1) ∧ 26 + 1 = 27 := ⟨by decide +kernel, rfl⟩
theorem iJ6_bitCount_27 : decode cJ6_bitCount_0f7a4 27 = .ok (.iushr, 1) ∧ 27 + 1 = 28 := ⟨by decide +kernel, rfl⟩
theorem iJ6_bitCount_28 : decode cJ6_bitCount_0f7a4 28 = .ok (.iadd, 1) ∧ 28 + 1 = 29 := ⟨by decide +kernel, rfl⟩
theorem iJ6_bitCount_29 : decode cJ6_bitCount_0f7a4 29 = .ok (.ldc_w 267, 3) ∧ 29 + 3 = 32 := ⟨by decide +kernel, rfl⟩
theorem iJ6_bitCount_32 : decode cJ6_bitCount_0f7a4 32 = .ok (.iand, 1) ∧ 32 + 1 = 33 := ⟨by decide +kernel, rfl⟩
theorem iJ6_bitCount_33 : decode cJ6_bitCount_0f7a4 33 = .ok (.istore_n 0, 1) ∧ 33 + 1 = 34 := ⟨by decide +kernel, rfl⟩
theorem iJ6_bitCount_34 : decode cJ6_bitCount_0f7a4 34 = .ok (.iload_n 0, 1) ∧ 34 + 1 = 35 := ⟨by decide +kernel, rfl⟩
theorem iJ6_bitCount_35 : decode cJ6_bitCount_0f7a4 35 = .ok (.iload_n 0, 1) ∧ 35 + 1 = 36 := ⟨by decide +kernel, rfl⟩
theorem iJ6_bitCount_36 : decode cJ6_bitCount_0f7a4 36 = .ok (.bipush 8, 2) ∧ 36 + 2 = 38 := ⟨by decide +kernel, rfl⟩
theorem iJ6_bitCount_38 : decode cJ6_bitCount_0f7a4 38 = .ok (.iushr, 1) ∧ 38 + 1 = 39 := ⟨by decide +kernel, rfl⟩
theorem iJ6_bitCount_39 : decode cJ6_bitCount_0f7a4 39 = .ok (.iadd, 1) ∧ 39 + 1 = 40 := ⟨by decide +kernel, rfl⟩
theorem iJ6_bitCount_40 : decode cJ6_bitCount_0f7a4 40 = .ok (.istore_n 0, 1) ∧ 40 + 1 = 41 := ⟨by decide +kernel, rfl⟩
theorem iJ6_bitCount_41 : decode cJ6_bitCount_0f7a4 41 = .ok (.iload_n 0, 1) ∧ 41 + 1 = 42 := ⟨by decide +kernel, rfl⟩
theorem iJ6_bitCount_42 : decode cJ6_bitCount_0f7a4 42 = .ok (.iload_n 0, 1) ∧ 42 + 1 = 43 := ⟨by decide +kernel, rfl⟩
theorem iJ6_bitCount_43 : decode cJ6_bitCount_0f7a4 43 = .ok (.bipush 16, 2) ∧ 43 + 2 = 45 := ⟨by decide +kernel, rfl⟩
theorem iJ6_bitCount_45 : decode cJ6_bitCount_0f7a4 45 = .ok (.iushr, 1) ∧ 45 + 1 = 46 := ⟨by decide +kernel, rfl⟩
theorem iJ6_bitCount_46 : decode cJ6_bitCount_0f7a4 46 = .ok (.iadd, 1) ∧ 46 + 1 = 47 := ⟨by decide +kernel, rfl⟩
theorem iJ6_bitCount_47 : decode cJ6_bitCount_0f7a4 47 = .ok (.istore_n 0, 1) ∧ 47 + 1 = 48 := ⟨by decide +kernel, rfl⟩
theorem iJ6_bitCount_48 : decode cJ6_bitCount_0f7a4 48 = .ok (.iload_n 0, 1) ∧ 48 + 1 = 49 := ⟨by decide +kernel, rfl⟩
theorem iJ6_bitCount_49 : decode cJ6_bitCount_0f7a4 49 = .ok (.bipush 63, 2) ∧ 49 + 2 = 51 := ⟨by decide +kernel, rfl⟩
theorem iJ6_bitCount_51 : decode cJ6_bitCount_0f7a4 51 = .ok (.iand, 1) ∧ 51 + 1 = 52 := ⟨by decide +kernel, rfl⟩
theorem iJ6_bitCount_52 : decode cJ6_bitCount_0f7a4 52 = .ok (.ireturn, 1) ∧ 52 + 1 = 53 := ⟨by decide +kernel, rfl⟩
theorem iJ0_length_0 : decode cJ0_length_8abf5 0 = .ok (.aload_n 0, 1) ∧ 0 + 1 = 1 := ⟨by decide +kernel, rfl⟩
theorem iJ0_length_1 : decode cJ0_length_8abf5 1 = .ok (.getfield 9, 3) ∧ 1 + 3 = 4 := ⟨by decide +kernel, rfl⟩
theorem iJ0_length_4 : decode cJ0_length_8abf5 4 = .ok (.arraylength, 1) ∧ 4 + 1 = 5 := ⟨by decide +kernel, rfl⟩
theorem iJ0_length_5 : decode cJ0_length_8abf5 5 = .ok (.aload_n 0, 1) ∧ 5 + 1 = 6 := ⟨by decide +kernel, rfl⟩
theorem iJ0_length_6 : decode cJ0_length_8abf5 6 = .ok (.invokevirtual 335, 3) ∧ 6 + 3 = 9 := ⟨by decide +kernel, rfl⟩
theorem iJ0_length_9 : decode cJ0_length_8abf5 9 = .ok (.ishr, 1) ∧ 9 + 1 = 10 := ⟨by decide +kernel, rfl⟩
theorem iJ0_length_10 : decode cJ0_length_8abf5 10 = .ok (.ireturn, 1) ∧ 10 + 1 = 11 := ⟨by decide +kernel, rfl⟩
theorem iJ0_indexOf1_0 : decode cJ0_indexOf_0f7a4 0 = .ok (.aload_n 0, 1) ∧ 0 + 1 = 1 := ⟨by decide +kernel, rfl⟩
theorem iJ0_indexOf1_1 : decode cJ0_indexOf_0f7a4 1 = .ok (.iload_n 1, 1) ∧ 1 + 1 = 2 := ⟨by decide +kernel, rfl⟩
theorem iJ0_indexOf1_2 : decode cJ0_indexOf_0f7a4 2 = .ok (.iconst 0, 1) ∧ 2 + 1 = 3 := ⟨by decide +kernel, rfl⟩
theorem iJ0_indexOf1_3 : decode cJ0_indexOf_0f7a4 3 = .ok (.invokevirtual 633, 3) ∧ 3 + 3 = 6 := ⟨by decide +kernel, rfl⟩
theorem iJ0_indexOf1_6 : decode cJ0_indexOf_0f7a4 6 = .ok (.ireturn, 1) ∧ 6 + 1 = 7 := ⟨by decide +kernel, rfl⟩
theorem iJ0_indexOf2_0 : decode cJ0_indexOf_7cf53 0 = .ok (.aload_n 0, 1) ∧ 0 + 1 = 1 := ⟨by decide +kernel, rfl⟩
theorem iJ0_indexOf2_1 : decode cJ0_indexOf_7cf53 1 = .ok (.invokevirtual 492, 3) ∧ 1 + 3 = 4 := ⟨by decide +kernel, rfl⟩
theorem iJ0_indexOf2_4 : decode cJ0_indexOf_7cf53 4 = .ok (.ifCond .eq 19, 3) ∧ 4 + 3 = 7 := ⟨by decide +kernel, rfl⟩
theorem iJ0_indexOf2_7 : decode cJ0_indexOf_7cf53 7 = .ok (.aload_n 0, 1) ∧ 7 + 1 = 8 := ⟨by decide +kernel, rfl⟩
theorem iJ0_indexOf2_8 : decode cJ0_indexOf_7cf53 8 = .ok (.getfield 9, 3) ∧ 8 + 3 = 11 := ⟨by decide +kernel, rfl⟩
theorem iJ0_indexOf2_11 : decode cJ0_indexOf_7cf53 11 = .ok (.iload_n 1, 1) ∧ 11 + 1 = 12 := ⟨by decide +kernel, rfl⟩
theorem iJ0_indexOf2_12 : decode cJ0_indexOf_7cf53 12 = .ok (.iload_n 2, 1) ∧ 12 + 1 = 13 := ⟨by decide +kernel, rfl⟩
theorem iJ0_indexOf2_13 : decode cJ0_indexOf_7cf53 13 = .ok (.aload_n 0, 1) ∧ 13 + 1 = 14 := ⟨by decide +kernel, rfl⟩
theorem iJ0_indexOf2_14 : decode cJ0_indexOf_7cf53 14 = .ok (.invokevirtual 505, 3) ∧ 14 + 3 = 17 := ⟨by decide +kernel, rfl⟩
theorem iJ0_indexOf2_17 : decode cJ0_indexOf_7cf53 17 = .ok (.invokestatic 637, 3) ∧ 17 + 3 = 20 := ⟨by decide +kernel, rfl⟩
theorem iJ0_indexOf2_20 : decode cJ0_indexOf_7cf53 20 = .ok (.goto 16, 3) ∧ 20 + 3 = 23 := ⟨by decide +kernel, rfl⟩
theorem iJ0_indexOf2_23 : decode cJ0_indexOf_7cf53 23 = .ok (.aload_n 0, 1) ∧ 23 + 1 = 24 := ⟨by decide +kernel, rfl⟩
theorem iJ0_indexOf2_24 : decode cJ0_indexOf_7cf53 24 = .ok (.getfield 9, 3) ∧ 24 + 3 = 27 := ⟨by decide +kernel, rfl⟩
theorem iJ0_indexOf2_27 : decode cJ0_indexOf_7cf53 27 = .ok (.iload_n 1, 1) ∧ 27 + 1 = 28 := ⟨by decide +kernel, rfl⟩
theorem iJ0_indexOf2_28 : decode cJ0_indexOf_7cf53 28 = .ok (.iload_n 2, 1) ∧ 28 + 1 = 29 := ⟨by decide +kernel, rfl⟩
theorem iJ0_indexOf2_29 : decode cJ0_indexOf_7cf53 29 = .ok (.aload_n 0, 1) ∧ 29 + 1 = 30 := ⟨by decide +kernel, rfl⟩
theorem iJ0_indexOf2_30 : decode cJ0_indexOf_7cf53 30 = .ok (.invokevirtual 505, 3) ∧ 30 + 3 = 33 := ⟨by decide +kernel, rfl⟩
theorem iJ0_indexOf2_33 : decode cJ0_indexOf_7cf53 33 = .ok (.invokestatic 640, 3) ∧ 33 + 3 = 36 := ⟨by decide +kernel, rfl⟩
theorem iJ0_indexOf2_36 : decode cJ0_indexOf_7cf53 36 = .ok (.ireturn, 1) ∧ 36 + 1 = 37 := ⟨by decide +kernel, rfl⟩
theorem iJ0_coder_0 : decode cJ0_coder_7d493 0 = .ok (.getstatic 38, 3) ∧ 0 + 3 = 3 := ⟨by decide +kernel, rfl⟩
theorem iJ0_coder_3 : decode cJ0_coder_7d493 3 = .ok (.ifCond .eq 10, 3) ∧ 3 + 3 = 6 := ⟨by decide +kernel, rfl⟩
theorem iJ0_coder_6 : decode cJ0_coder_7d493 6 = .ok (.aload_n 0, 1) ∧ 6 + 1 = 7 := ⟨by decide +kernel, rfl⟩
theorem iJ0_coder_7 : decode cJ0_coder_7d493 7 = .ok (.getfield 15, 3) ∧ 7 + 3 = 10 := ⟨by decide +kernel, rfl⟩
theorem iJ0_coder_10 : decode cJ0_coder_7d493 10 = .ok (.goto 4, 3) ∧ 10 + 3 = 13 := ⟨by decide +kernel, rfl⟩
theorem iJ0_coder_13 : decode cJ0_coder_7d493 13 = .ok (.iconst 1, 1) ∧ 13 + 1 = 14 := ⟨by decide +kernel, rfl⟩
theorem iJ0_coder_14 : decode cJ0_coder_7d493 14 = .ok (.ireturn, 1) ∧ 14 + 1 = 15 := ⟨by decide +kernel, rfl⟩
theorem iJ0_isLatin1_0 : decode cJ0_isLatin1_aae02 0 = .ok (.getstatic 38, 3) ∧ 0 + 3 = 3 := ⟨by decide +kernel, rfl⟩
theorem iJ0_isLatin1_3 : decode cJ0_isLatin1_aae02 3 = .ok (.ifCond .eq 14, 3) ∧ 3 + 3 = 6 := ⟨by decide +kernel, rfl⟩
theorem iJ0_isLatin1_6 : decode cJ0_isLatin1_aae02 6 = .ok (.aload_n 0, 1) ∧ 6 + 1 = 7 := ⟨by decide +kernel, rfl⟩
theorem iJ0_isLatin1_7 : decode cJ0_isLatin1_aae02 7 = .ok (.getfield 15, 3) ∧ 7 + 3 = 10 := ⟨by decide +kernel, rfl⟩
theorem iJ0_isLatin1_10 : decode cJ0_isLatin1_aae02 10 = .ok (.ifCond .ne 7, 3) ∧ 10 + 3 = 13 := ⟨by decide +kernel, rfl⟩
theorem iJ0_isLatin1_13 : decode cJ0_isLatin1_aae02 13 = .ok (.iconst 1, 1) ∧ 13 + 1 = 14 := ⟨by decide +kernel, rfl⟩
theorem iJ0_isLatin1_14 : decode cJ0_isLatin1_aae02 14 = .ok (.goto 4, 3) ∧ 14 + 3 = 17 := ⟨by decide +kernel, rfl⟩
theorem iJ0_isLatin1_17 : decode cJ0_isLatin1_aae02 17 = .ok (.iconst 0, 1) ∧ 17 + 1 = 18 := ⟨by decide +kernel, rfl⟩
theorem iJ0_isLatin1_18 : decode cJ0_isLatin1_aae02 18 = .ok (.ireturn, 1) ∧ 18 + 1 = 19 := ⟨by decide +kernel, rfl⟩
theorem iJ0_checkBoundsBeginEnd_0 : decode cJ0_checkBoundsBeginEnd_23922 0 = .ok (.iload_n 0, 1) ∧ 0 + 1 = 1 := ⟨by decide +kernel, rfl⟩
theorem iJ0_checkBoundsBeginEnd_1 : decode cJ0_checkBoundsBeginEnd_23922 1 = .ok (.iload_n 1, 1) ∧ 1 + 1 = 2 := ⟨by decide +kernel, rfl⟩
theorem iJ0_checkBoundsBeginEnd_2 : decode cJ0_checkBoundsBeginEnd_23922 2 = .ok (.iload_n 2, 1) ∧ 2 + 1 = 3 := ⟨by decide +kernel, rfl⟩
theorem iJ0_checkBoundsBeginEnd_3 : decode cJ0_checkBoundsBeginEnd_23922 3 = .ok (.getstatic 1053, 3) ∧ 3 + 3 = 6 := ⟨by decide +kernel, rfl⟩
theorem iJ0_checkBoundsBeginEnd_6 : decode cJ0_checkBoundsBeginEnd_23922 6 = .ok (.invokestatic 1062, 3) ∧ 6 + 3 = 9 := ⟨by decide +kernel, rfl⟩
theorem iJ0_checkBoundsBeginEnd_9 : decode cJ0_checkBoundsBeginEnd_23922 9 = .ok (.pop, 1) ∧ 9 + 1 = 10 := ⟨by decide +kernel, rfl⟩
theorem iJ0_checkBoundsBeginEnd_10 : decode cJ0_checkBoundsBeginEnd_23922 10 = .ok (.return_, 1) ∧ 10 + 1 = 11 := ⟨by decide +kernel, rfl⟩
theorem iJ1_canEncode_0 : decode cJ1_canEncode_9a6ad 0 = .ok (.iload_n 0, 1) ∧ 0 + 1 = 1 := ⟨by decide +kernel, rfl⟩
theorem iJ1_canEncode_1 : decode cJ1_canEncode_9a6ad 1 = .ok (.ifCond .lt 14, 3) ∧ 1 + 3 = 4 := ⟨by decide +kernel, rfl⟩
theorem iJ1_canEncode_4 : decode cJ1_canEncode_9a6ad 4 = .ok (.iload_n 0, 1) ∧ 4 + 1 = 5 := ⟨by decide +kernel, rfl⟩
theorem iJ1_canEncode_5 : decode cJ1_canEncode_9a6ad 5 = .ok (.sipush 255, 3) ∧ 5 + 3 = 8 := ⟨by decide +kernel, rfl⟩
theorem iJ1_canEncode_8 : decode cJ1_canEncode_9a6ad 8 = .ok (.if_icmp .gt 7, 3) ∧ 8 + 3 = 11 := ⟨by decide +kernel, rfl⟩
theorem iJ1_canEncode_11 : decode cJ1_canEncode_9a6ad 11 = .ok (.iconst 1, 1) ∧ 11 + 1 = 12 := ⟨by decide +kernel, rfl⟩
theorem iJ1_canEncode_12 : decode cJ1_canEncode_9a6ad 12 = .ok (.goto 4, 3) ∧ 12 + 3 = 15 := ⟨by decide +kernel, rfl⟩
theorem iJ1_canEncode_15 : decode cJ1_canEncode_9a6ad 15 = .ok (.iconst 0, 1) ∧ 15 + 1 = 16 := ⟨by decide +kernel, rfl⟩
theorem iJ1_canEncode_16 : decode cJ1_canEncode_9a6ad 16 = .ok (.ireturn, 1) ∧ 16 + 1 = 17 := ⟨by decide +kernel, rfl⟩
theorem iJ1_indexOf_0 : decode cJ1_indexOf_4cfef 0 = .ok (.iload_n 1, 1) ∧ 0 + 1 = 1 := ⟨by decide +kernel, rfl⟩
theorem iJ1_indexOf_1 : decode cJ1_indexOf_4cfef 1 = .ok (.invokestatic 88, 3) ∧ 1 + 3 = 4 := ⟨by decide +kernel, rfl⟩
theorem iJ1_indexOf_4 : decode cJ1_indexOf_4cfef 4 = .ok (.ifCond .ne 5, 3) ∧ 4 + 3 = 7 := ⟨by decide +kernel, rfl⟩
theorem iJ1_indexOf_7 : decode cJ1_indexOf_4cfef 7 = .ok (.iconst (-1), 1) ∧ 7 + 1 = 8 := ⟨by decide +kernel, rfl⟩
theorem iJ1_indexOf_8 : decode cJ1_indexOf_4cfef 8 = .ok (.ireturn, 1) ∧ 8 + 1 = 9 := ⟨by decide +kernel, rfl⟩
theorem iJ1_indexOf_9 : decode cJ1_indexOf_4cfef 9 = .ok (.iload_n 2, 1) ∧ 9 + 1 = 10 := ⟨by decide +kernel, rfl⟩
theorem iJ1_indexOf_10 : decode cJ1_indexOf_4cfef 10 = .ok (.iconst 0, 1) ∧ 10 + 1 = 11 := ⟨by decide +kernel, rfl⟩
theorem iJ1_indexOf_11 : decode cJ1_indexOf_4cfef 11 = .ok (.invokestatic 92, 3) ∧ 11 + 3 = 14 := ⟨by decide +kernel, rfl⟩
theorem iJ1_indexOf_14 : decode cJ1_indexOf_4cfef 14 = .ok (.istore_n 2, 1) ∧ 14 + 1 = 15 := ⟨by decide +kernel, rfl⟩
theorem iJ1_indexOf_15 : decode cJ1_indexOf_4cfef 15 = .ok (.iload_n 3, 1) ∧ 15 + 1 = 16 := ⟨by decide +kernel, rfl⟩
theorem iJ1_indexOf_16 : decode cJ1_indexOf_4cfef 16 = .ok (.aload_n 0, 1) ∧ 16 + 1 = 17 := ⟨by decide +kernel, rfl⟩
theorem iJ1_indexOf_17 : decode cJ1_indexOf_4cfef 17 = .ok (.arraylength, 1) ∧ 17 + 1 = 18 := ⟨by decide +kernel, rfl⟩
theorem iJ1_indexOf_18 : decode cJ1_indexOf_4cfef 18 = .ok (.invokestatic 38, 3) ∧ 18 + 3 = 21 := ⟨by decide +kernel, rfl⟩
theorem iJ1_indexOf_21 : decode cJ1_indexOf_4cfef 21 = .ok (.istore_n 3, 1) ∧ 21 + 1 = 22 := ⟨by decide +kernel, rfl⟩
theorem iJ1_indexOf_22 : decode cJ1_indexOf_4cfef 22 = .ok (.iload_n 2, 1) ∧ 22 + 1 = 23 := ⟨by decide +kernel, rfl⟩
theorem iJ1_indexOf_23 : decode cJ1_indexOf_4cfef 23 = .ok (.iload_n 3, 1) ∧ 23 + 1 = 24 := ⟨by decide +kernel, rfl⟩
theorem iJ1_indexOf_24 : decode cJ1_indexOf_4cfef 24 = .ok (.if_icmp .lt 5, 3) ∧ 24 + 3 = 27 := ⟨by decide +kernel, rfl⟩
theorem iJ1_indexOf_27 : decode cJ1_indexOf_4cfef 27 = .ok (.iconst (-1), 1) ∧ 27 + 1 = 28 := ⟨by decide +kernel, rfl⟩
theorem iJ1_indexOf_28 : decode cJ1_indexOf_4cfef 28 = .ok (.ireturn, 1) ∧ 28 + 1 = 29 := ⟨by decide +kernel, rfl⟩
theorem iJ1_indexOf_29 : decode cJ1_indexOf_4cfef 29 = .ok (.aload_n 0, 1) ∧ 29 + 1 = 30 := ⟨by decide +kernel, rfl⟩
theorem iJ1_indexOf_30 : decode cJ1_indexOf_4cfef 30 = .ok (.iload_n 1, 1) ∧ 30 + 1 = 31 := ⟨by decide +kernel, rfl⟩
theorem iJ1_indexOf_31 : decode cJ1_indexOf_4cfef 31 = .ok (.iload_n 2, 1) ∧ 31 + 1 = 32 := ⟨by decide +kernel, rfl⟩
theorem iJ1_indexOf_32 : decode cJ1_indexOf_4cfef 32 = .ok (.iload_n 3, 1) ∧ 32 + 1 = 33 := ⟨by decide +kernel, rfl⟩
theorem iJ1_indexOf_33 : decode cJ1_indexOf_4cfef 33 = .ok (.invokestatic 95, 3) ∧ 33 + 3 = 36 := ⟨by decide +kernel, rfl⟩
theorem iJ1_indexOf_36 : decode cJ1_indexOf_4cfef 36 = .ok (.ireturn, 1) ∧ 36 + 1 = 37 := ⟨by decide +kernel, rfl⟩
theorem iJ1_indexOfChar_0 : decode cJ1_indexOfChar_4cfef 0 = .ok (.iload_n 1, 1) ∧ 0 + 1 = 1 := ⟨by decide +kernel, rfl⟩
theorem iJ1_indexOfChar_1 : decode cJ1_indexOfChar_4cfef 1 = .ok (.i2b, 1) ∧ 1 + 1 = 2 := ⟨by decide +kernel, rfl⟩
theorem iJ1_indexOfChar_2 : decode cJ1_indexOfChar_4cfef 2 = .ok (.istore 4, 2) ∧ 2 + 2 = 4 := ⟨by decide +kernel, rfl⟩
theorem iJ1_indexOfChar_4 : decode cJ1_indexOfChar_4cfef 4 = .ok (.iload_n 2, 1) ∧ 4 + 1 = 5 := ⟨by decide +kernel, rfl⟩
theorem iJ1_indexOfChar_5 : decode cJ1_indexOfChar_4cfef 5 = .ok (.istore 5, 2) ∧ 5 + 2 = 7 := ⟨by decide +kernel, rfl⟩
theorem iJ1_indexOfChar_7 : decode cJ1_indexOfChar_4cfef 7 = .ok (.iload 5, 2) ∧ 7 + 2 = 9 := ⟨by decide +kernel, rfl⟩
theorem iJ1_indexOfChar_9 : decode cJ1_indexOfChar_4cfef 9 = .ok (.iload_n 3, 1) ∧ 9 + 1 = 10 := ⟨by decide +kernel, rfl⟩
theorem iJ1_indexOfChar_10 : decode cJ1_indexOfChar_4cfef 10 = .ok (.if_icmp .ge 21, 3) ∧ 10 + 3 = 13 := ⟨by decide +kernel, rfl⟩
theorem iJ1_indexOfChar_13 : decode cJ1_indexOfChar_4cfef 13 = .ok (.aload_n 0, 1) ∧ 13 + 1 = 14 := ⟨by decide +kernel, rfl⟩
theorem iJ1_indexOfChar_14 : decode cJ1_indexOfChar_4cfef 14 = .ok (.iload 5, 2) ∧ 14 + 2 = 16 := ⟨by decide +kernel, rfl⟩
theorem iJ1_indexOfChar_16 : decode cJ1_indexOfChar_4cfef 16 = .ok (.baload, 1) ∧ 16 + 1 = 17 := ⟨by decide +kernel, rfl⟩
theorem iJ1_indexOfChar_17 : decode cJ1_indexOfChar_4cfef 17 = .ok (.iload 4, 2) ∧ 17 + 2 = 19 := ⟨by decide +kernel, rfl⟩
theorem iJ1_indexOfChar_19 : decode cJ1_indexOfChar_4cfef 19 = .ok (.if_icmp .ne 6, 3) ∧ 19 + 3 = 22 := ⟨by decide +kernel, rfl⟩
theorem iJ1_indexOfChar_22 : decode cJ1_indexOfChar_4cfef 22 = .ok (.iload 5, 2) ∧ 22 + 2 = 24 := ⟨by decide +kernel, rfl⟩
theorem iJ1_indexOfChar_24 : decode cJ1_indexOfChar_4cfef 24 = .ok (.ireturn, 1) ∧ 24 + 1 = 25 := ⟨by decide +kernel, rfl⟩
theorem iJ1_indexOfChar_25 : decode cJ1_indexOfChar_4cfef 25 = .ok (.iinc 5 1, 3) ∧ 25 + 3 = 28 := ⟨by decide +kernel, rfl⟩
theorem iJ1_indexOfChar_28 : decode cJ1_indexOfChar_4cfef 28 = .ok (.goto (-21), 3) ∧ 28 + 3 = 31 := ⟨by decide +kernel, rfl⟩
theorem iJ1_indexOfChar_31 : decode cJ1_indexOfChar_4cfef 31 = .ok (.iconst (-1), 1) ∧ 31 + 1 = 32 := ⟨by decide +kernel, rfl⟩
theorem iJ1_indexOfChar_32 : decode cJ1_indexOfChar_4cfef 32 = .ok (.ireturn, 1) ∧ 32 + 1 = 33 := ⟨by decide +kernel, rfl⟩
theorem iJ2_getChar_0 : decode cJ2_getChar_3b067 0 = .ok (.getstatic 44, 3) ∧ 0 + 3 = 3 := ⟨by decide +kernel, rfl⟩
theorem iJ2_getChar_3 : decode cJ2_getChar_3b067 3 = .ok (.ifCond .ne 25, 3) ∧ 3 + 3 = 6 := ⟨by decide +kernel, rfl⟩
theorem iJ2_getChar_6 : decode cJ2_getChar_3b067 6 = .ok (.iload_n 1, 1) ∧ 6 + 1 = 7 := ⟨by decide +kernel, rfl⟩
theorem iJ2_getChar_7 : decode cJ2_getChar_3b067 7 = .ok (.ifCond .lt 11, 3) ∧ 7 + 3 = 10 := ⟨by decide +kernel, rfl⟩
theorem iJ2_getChar_10 : decode cJ2_getChar_3b067 10 = .ok (.iload_n 1, 1) ∧ 10 + 1 = 11 := ⟨by decide +kernel, rfl⟩
theorem iJ2_getChar_11 : decode cJ2_getChar_3b067 11 = .ok (.aload_n 0, 1) ∧ 11 + 1 = 12 := ⟨by decide +kernel, rfl⟩
theorem iJ2_getChar_12 : decode cJ2_getChar_3b067 12 = .ok (.invokestatic 48, 3) ∧ 12 + 3 = 15 := ⟨by decide +kernel, rfl⟩
theorem iJ2_getChar_15 : decode cJ2_getChar_3b067 15 = .ok (.if_icmp .lt 13, 3) ∧ 15 + 3 = 18 := ⟨by decide +kernel, rfl⟩
theorem iJ2_getChar_18 : decode cJ2_getChar_3b067 18 = .ok (.new 52, 3) ∧ 18 + 3 = 21 := ⟨by decide +kernel, rfl⟩
theorem iJ2_getChar_21 : decode cJ2_getChar_3b067 21 = .ok (.dup, 1) ∧ 21 + 1 = 22 := ⟨by decide +kernel, rfl⟩
theorem iJ2_getChar_22 : decode cJ2_getChar_3b067 22 = .ok (.ldc 54, 2) ∧ 22 + 2 = 24 := ⟨by decide +kernel, rfl⟩
theorem iJ2_getChar_24 : decode cJ2_getChar_3b067 24 = .ok (.invokespecial 56, 3) ∧ 24 + 3 = 27 := ⟨by decide +kernel, rfl⟩
theorem iJ2_getChar_27 : decode cJ2_getChar_3b067 27 = .ok (.athrow, 1) ∧ 27 + 1 = 28 := ⟨by decide +kernel, rfl⟩
theorem iJ2_getChar_28 : decode cJ2_getChar_3b067 28 = .ok (.iload_n 1, 1) ∧ 28 + 1 = 29 := ⟨by decide +kernel, rfl⟩
theorem iJ2_getChar_29 : decode cJ2_getChar_3b067 29 = .ok (.iconst 1, 1) ∧ 29 + 1 = 30 := ⟨by decide +kernel, rfl⟩
theorem iJ2_getChar_30 : decode cJ2_getChar_3b067 30 = .ok (.ishl, 1) ∧ 30 + 1 = 31 := ⟨by decide +kernel, rfl⟩
theorem iJ2_getChar_31 : decode cJ2_getChar_3b067 31 = .ok (.istore_n 1, 1) ∧ 31 + 1 = 32 := ⟨by decide +kernel, rfl⟩
theorem iJ2_getChar_32 : decode cJ2_getChar_3b067 32 = .ok (.aload_n 0, 1) ∧ 32 + 1 = 33 := ⟨by decide +kernel, rfl⟩
theorem iJ2_getChar_33 : decode cJ2_getChar_3b067 33 = .ok (.iload_n 1, 1) ∧ 33 + 1 = 34 := ⟨by decide +kernel, rfl⟩
theorem iJ2_getChar_34 : decode cJ2_getChar_3b067 34 = .ok (.iinc 1 1, 3) ∧ 34 + 3 = 37 := ⟨by decide +kernel, rfl⟩
theorem iJ2_getChar_37 : decode cJ2_getChar_3b067 37 = .ok (.baload, 1) ∧ 37 + 1 = 38 := ⟨by decide +kernel, rfl⟩
theorem iJ2_getChar_38 : decode cJ2_getChar_3b067 38 = .ok (.sipush 255, 3) ∧ 38 + 3 = 41 := ⟨by decide +kernel, rfl⟩
theorem iJ2_getChar_41 : decode cJ2_getChar_3b067 41 = .ok (.iand, 1) ∧ 41 + 1 = 42 := ⟨by decide +kernel, rfl⟩
theorem iJ2_getChar_42 : decode cJ2_getChar_3b067 42 = .ok (.getstatic 59, 3) ∧ 42 + 3 = 45 := ⟨by decide +kernel, rfl⟩
theorem iJ2_getChar_45 : decode cJ2_getChar_3b067 45 = .ok (.ishl, 1) ∧ 45 + 1 = 46 := ⟨by decide +kernel, rfl⟩
theorem iJ2_getChar_46 : decode cJ2_getChar_3b067 46 = .ok (.aload_n 0, 1) ∧ 46 + 1 = 47 := ⟨by decide +kernel, rfl⟩
theorem iJ2_getChar_47 : decode cJ2_getChar_3b067 47 = .ok (.iload_n 1, 1) ∧ 47 + 1 = 48 := ⟨by decide +kernel, rfl⟩
theorem iJ2_getChar_48 : decode cJ2_getChar_3b067 48 = .ok (.baload, 1) ∧ 48 + 1 = 49 := ⟨by decide +kernel, rfl⟩
theorem iJ2_getChar_49 : decode cJ2_getChar_3b067 49 = .ok (.sipush 255, 3) ∧ 49 + 3 = 52 := ⟨by decide +kernel, rfl⟩
theorem iJ2_getChar_52 : decode cJ2_getChar_3b067 52 = .ok (.iand, 1) ∧ 52 + 1 = 53 := ⟨by decide +kernel, rfl⟩
theorem iJ2_getChar_53 : decode cJ2_getChar_3b067 53 = .ok (.getstatic 63, 3) ∧ 53 + 3 = 56 := ⟨by decide +kernel, rfl⟩
theorem iJ2_getChar_56 : decode cJ2_getChar_3b067 56 = .ok (.ishl, 1) ∧ 56 + 1 = 57 := ⟨by decide +kernel, rfl⟩
theorem iJ2_getChar_57 : decode cJ2_getChar_3b067 57 = .ok (.ior, 1) ∧ 57 + 1 = 58 := ⟨by decide +kernel, rfl⟩
theorem iJ2_getChar_58 : decode cJ2_getChar_3b067 58 = .ok (.i2c, 1) ∧ 58 + 1 = 59 := ⟨by decide +kernel, rfl⟩
theorem iJ2_getChar_59 : decode cJ2_getChar_3b067 59 = .ok (.ireturn, 1) ∧ 59 + 1 = 60 := ⟨by decide +kernel, rfl⟩
theorem iJ2_length_0 : decode cJ2_length_9d52b 0 = .ok (.aload_n 0, 1) ∧ 0 + 1 = 1 := ⟨by decide +kernel, rfl⟩
theorem iJ2_length_1 : decode cJ2_length_9d52b 1 = .ok (.arraylength, 1) ∧ 1 + 1 = 2 := ⟨by decide +kernel, rfl⟩
theorem iJ2_length_2 : decode cJ2_length_9d52b 2 = .ok (.iconst 1, 1) ∧ 2 + 1 = 3 := ⟨by decide +kernel, rfl⟩
theorem iJ2_length_3 : decode cJ2_length_9d52b 3 = .ok (.ishr, 1) ∧ 3 + 1 = 4 := ⟨by decide +kernel, rfl⟩
theorem iJ2_length_4 : decode cJ2_length_9d52b 4 = .ok (.ireturn, 1) ∧ 4 + 1 = 5 := ⟨by decide +kernel, rfl⟩
theorem iJ2_indexOf_0 : decode cJ2_indexOf_4cfef 0 = .ok (.iload_n 2, 1) ∧ 0 + 1 = 1 := ⟨by decide +kernel, rfl⟩
theorem iJ2_indexOf_1 : decode cJ2_indexOf_4cfef 1 = .ok (.iconst 0, 1) ∧ 1 + 1 = 2 := ⟨by decide +kernel, rfl⟩
theorem iJ2_indexOf_2 : decode cJ2_indexOf_4cfef 2 = .ok (.invokestatic 224, 3) ∧ 2 + 3 = 5 := ⟨by decide +kernel, rfl⟩
theorem iJ2_indexOf_5 : decode cJ2_indexOf_4cfef 5 = .ok (.istore_n 2, 1) ∧ 5 + 1 = 6 := ⟨by decide +kernel, rfl⟩
theorem iJ2_indexOf_6 : decode cJ2_indexOf_4cfef 6 = .ok (.iload_n 3, 1) ∧ 6 + 1 = 7 := ⟨by decide +kernel, rfl⟩
theorem iJ2_indexOf_7 : decode cJ2_indexOf_4cfef 7 = .ok (.aload_n 0, 1) ∧ 7 + 1 = 8 := ⟨by decide +kernel, rfl⟩
theorem iJ2_indexOf_8 : decode cJ2_indexOf_4cfef 8 = .ok (.arraylength, 1) ∧ 8 + 1 = 9 := ⟨by decide +kernel, rfl⟩
theorem iJ2_indexOf_9 : decode cJ2_indexOf_4cfef 9 = .ok (.iconst 1, 1) ∧ 9 + 1 = 10 := ⟨by decide +kernel, rfl⟩
theorem iJ2_indexOf_10 : decode cJ2_indexOf_4cfef 10 = .ok (.ishr, 1) ∧ 10 + 1 = 11 := ⟨by decide +kernel, rfl⟩
theorem iJ2_indexOf_11 : decode cJ2_indexOf_4cfef 11 = .ok (.invokestatic 183, 3) ∧ 11 + 3 = 14 := ⟨by decide +kernel, rfl⟩
theorem iJ2_indexOf_14 : decode cJ2_indexOf_4cfef 14 = .ok (.istore_n 3, 1) ∧ 14 + 1 = 15 := ⟨by decide +kernel, rfl⟩
theorem iJ2_indexOf_15 : decode cJ2_indexOf_4cfef 15 = .ok (.iload_n 2, 1) ∧ 15 + 1 = 16 := ⟨by decide +kernel, rfl⟩
theorem iJ2_indexOf_16 : decode cJ2_indexOf_4cfef 16 = .ok (.iload_n 3, 1) ∧ 16 + 1 = 17 := ⟨by decide +kernel, rfl⟩
theorem iJ2_indexOf_17 : decode cJ2_indexOf_4cfef 17 = .ok (.if_icmp .lt 5, 3) ∧ 17 + 3 = 20 := ⟨by decide +kernel, rfl⟩
theorem iJ2_indexOf_20 : decode cJ2_indexOf_4cfef 20 = .ok (.iconst (-1), 1) ∧ 20 + 1 = 21 := ⟨by decide +kernel, rfl⟩
theorem iJ2_indexOf_21 : decode cJ2_indexOf_4cfef 21 = .ok (.ireturn, 1) ∧ 21 + 1 = 22 := ⟨by decide +kernel, rfl⟩
theorem iJ2_indexOf_22 : decode cJ2_indexOf_4cfef 22 = .ok (.iload_n 1, 1) ∧ 22 + 1 = 23 := ⟨by decide +kernel, rfl⟩
theorem iJ2_indexOf_23 : decode cJ2_indexOf_4cfef 23 = .ok (.ldc 227, 2) ∧ 23 + 2 = 25 := ⟨by decide +kernel, rfl⟩
theorem iJ2_indexOf_25 : decode cJ2_indexOf_4cfef 25 = .ok (.if_icmp .ge 11, 3) ∧ 25 + 3 = 28 := ⟨by decide +kernel, rfl⟩
theorem iJ2_indexOf_28 : decode cJ2_indexOf_4cfef 28 = .ok (.aload_n 0, 1) ∧ 28 + 1 = 29 := ⟨by decide +kernel, rfl⟩
theorem iJ2_indexOf_29 : decode cJ2_indexOf_4cfef 29 = .ok (.iload_n 1, 1) ∧ 29 + 1 = 30 := ⟨by decide +kernel, rfl⟩
theorem iJ2_indexOf_30 : decode cJ2_indexOf_4cfef 30 = .ok (.iload_n 2, 1) ∧ 30 + 1 = 31 := ⟨by decide +kernel, rfl⟩
theorem iJ2_indexOf_31 : decode cJ2_indexOf_4cfef 31 = .ok (.iload_n 3, 1) ∧ 31 + 1 = 32 := ⟨by decide +kernel, rfl⟩
theorem iJ2_indexOf_32 : decode cJ2_indexOf_4cfef 32 = .ok (.invokestatic 228, 3) ∧ 32 + 3 = 35 := ⟨by decide +kernel, rfl⟩
theorem iJ2_indexOf_35 : decode cJ2_indexOf_4cfef 35 = .ok (.ireturn, 1) ∧ 35 + 1 = 36 := ⟨by decide +kernel, rfl⟩
theorem iJ2_indexOf_36 : decode cJ2_indexOf_4cfef 36 = .ok (.aload_n 0, 1) ∧ 36 + 1 = 37 := ⟨by decide +kernel, rfl⟩
theorem iJ2_indexOf_37 : decode cJ2_indexOf_4cfef 37 = .ok (.iload_n 1, 1) ∧ 37 + 1 = 38 := ⟨by decide +kernel, rfl⟩
theorem iJ2_indexOf_38 : decode cJ2_indexOf_4cfef 38 = .ok (.iload_n 2, 1) ∧ 38 + 1 = 39 := ⟨by decide +kernel, rfl⟩
theorem iJ2_indexOf_39 : decode cJ2_indexOf_4cfef 39 = .ok (.iload_n 3, 1) ∧ 39 + 1 = 40 := ⟨by decide +kernel, rfl⟩
theorem iJ2_indexOf_40 : decode cJ2_indexOf_4cfef 40 = .ok (.invokestatic 232, 3) ∧ 40 + 3 = 43 := ⟨by decide +kernel, rfl⟩
theorem iJ2_indexOf_43 : decode cJ2_indexOf_4cfef 43 = .ok (.ireturn, 1) ∧ 43 + 1 = 44 := ⟨by decide +kernel, rfl⟩
theorem iJ2_indexOfChar_0 : decode cJ2_indexOfChar_4cfef 0 = .ok (.iload_n 2, 1) ∧ 0 + 1 = 1 := ⟨by decide +kernel, rfl⟩
theorem iJ2_indexOfChar_1 : decode cJ2_indexOfChar_4cfef 1 = .ok (.iload_n 3, 1) ∧ 1 + 1 = 2 := ⟨by decide +kernel, rfl⟩
theorem iJ2_indexOfChar_2 : decode cJ2_indexOfChar_4cfef 2 = .ok (.aload_n 0, 1) ∧ 2 + 1 = 3 := ⟨by decide +kernel, rfl⟩
theorem iJ2_indexOfChar_3 : decode cJ2_indexOfChar_4cfef 3 = .ok (.invokestatic 96, 3) ∧ 3 + 3 = 6 := ⟨by decide +kernel, rfl⟩
theorem iJ2_indexOfChar_6 : decode cJ2_indexOfChar_4cfef 6 = .ok (.aload_n 0, 1) ∧ 6 + 1 = 7 := ⟨by decide +kernel, rfl⟩
theorem iJ2_indexOfChar_7 : decode cJ2_indexOfChar_4cfef 7 = .ok (.iload_n 1, 1) ∧ 7 + 1 = 8 := ⟨by decide +kernel, rfl⟩
theorem iJ2_indexOfChar_8 : decode cJ2_indexOfChar_4cfef 8 = .ok (.iload_n 2, 1) ∧ 8 + 1 = 9 := ⟨by decide +kernel, rfl⟩
theorem iJ2_indexOfChar_9 : decode cJ2_indexOfChar_4cfef 9 = .ok (.iload_n 3, 1) ∧ 9 + 1 = 10 := ⟨by decide +kernel, rfl⟩
theorem iJ2_indexOfChar_10 : decode cJ2_indexOfChar_4cfef 10 = .ok (.invokestatic 244, 3) ∧ 10 + 3 = 13 := ⟨by decide +kernel, rfl⟩
theorem iJ2_indexOfChar_13 : decode cJ2_indexOfChar_4cfef 13 = .ok (.ireturn, 1) ∧ 13 + 1 = 14 := ⟨by decide +kernel, rfl⟩
theorem iJ2_indexOfCharUnsafe_0 : decode cJ2_indexOfCharUnsafe_4cfef 0 = .ok (.iload_n 2, 1) ∧ 0 + 1 = 1 := ⟨by decide +kernel, rfl⟩
theorem iJ2_indexOfCharUnsafe_1 : decode cJ2_indexOfCharUnsafe_4cfef 1 = .ok (.istore 4, 2) ∧ 1 + 2 = 3 := ⟨by decide +kernel, rfl⟩
theorem iJ2_indexOfCharUnsafe_3 : decode cJ2_indexOfCharUnsafe_4cfef 3 = .ok (.iload 4, 2) ∧ 3 + 2 = 5 := ⟨by decide +kernel, rfl⟩
theorem iJ2_indexOfCharUnsafe_5 : decode cJ2_indexOfCharUnsafe_4cfef 5 = .ok (.iload_n 3, 1) ∧ 5 + 1 = 6 := ⟨by decide +kernel, rfl⟩
theorem iJ2_indexOfCharUnsafe_6 : decode cJ2_indexOfCharUnsafe_4cfef 6 = .ok (.if_icmp .ge 22, 3) ∧ 6 + 3 = 9 := ⟨by decide +kernel, rfl⟩
theorem iJ2_indexOfCharUnsafe_9 : decode cJ2_indexOfCharUnsafe_4cfef 9 = .ok (.aload_n 0, 1) ∧ 9 + 1 = 10 := ⟨by decide +kernel, rfl⟩
theorem iJ2_indexOfCharUnsafe_10 : decode cJ2_indexOfCharUnsafe_4cfef 10 = .ok (.iload 4, 2) ∧ 10 + 2 = 12 := ⟨by decide +kernel, rfl⟩
theorem iJ2_indexOfCharUnsafe_12 : decode cJ2_indexOfCharUnsafe_4cfef 12 = .ok (.invokestatic 71, 3) ∧ 12 + 3 = 15 := ⟨by decide +kernel, rfl⟩
theorem iJ2_indexOfCharUnsafe_15 : decode cJ2_indexOfCharUnsafe_4cfef 15 = .ok (.iload_n 1, 1) ∧ 15 + 1 = 16 := ⟨by decide +kernel, rfl⟩
theorem iJ2_indexOfCharUnsafe_16 : decode cJ2_indexOfCharUnsafe_4cfef 16 = .ok (.if_icmp .ne 6, 3) ∧ 16 + 3 = 19 := ⟨by decide +kernel, rfl⟩
theorem iJ2_indexOfCharUnsafe_19 : decode cJ2_indexOfCharUnsafe_4cfef 19 = .ok (.iload 4, 2) ∧ 19 + 2 = 21 := ⟨by decide +kernel, rfl⟩
theorem iJ2_indexOfCharUnsafe_21 : decode cJ2_indexOfCharUnsafe_4cfef 21 = .ok (.ireturn, 1) ∧ 21 + 1 = 22 := ⟨by decide +kernel, rfl⟩
theorem iJ2_indexOfCharUnsafe_22 : decode cJ2_indexOfCharUnsafe_4cfef 22 = .ok (.iinc 4 1, 3) ∧ 22 + 3 = 25 := ⟨by decide +kernel, rfl⟩
theorem iJ2_indexOfCharUnsafe_25 : decode cJ2_indexOfCharUnsafe_4cfef 25 = .ok (.goto (-22), 3) ∧ 25 + 3 = 28 := ⟨by decide +kernel, rfl⟩
theorem iJ2_indexOfCharUnsafe_28 : decode cJ2_indexOfCharUnsafe_4cfef 28 = .ok (.iconst (-1), 1) ∧ 28 + 1 = 29 := ⟨by decide +kernel, rfl⟩
theorem iJ2_indexOfCharUnsafe_29 : decode cJ2_indexOfCharUnsafe_4cfef 29 = .ok (.ireturn, 1) ∧ 29 + 1 = 30 := ⟨by decide +kernel, rfl⟩
theorem iJ2_indexOfSupplementary_0 : decode cJ2_indexOfSupplementary_4cfef 0 = .ok (.iload_n 1, 1) ∧ 0 + 1 = 1 := ⟨by decide +kernel, rfl⟩
theorem iJ2_indexOfSupplementary_1 : decode cJ2_indexOfSupplementary_4cfef 1 = .ok (.invokestatic 164, 3) ∧ 1 + 3 = 4 := ⟨by decide +kernel, rfl⟩
theorem iJ2_indexOfSupplementary_4 : decode cJ2_indexOfSupplementary_4cfef 4 = .ok (.ifCond .eq 65, 3) ∧ 4 + 3 = 7 := ⟨by decide +kernel, rfl⟩
theorem iJ2_indexOfSupplementary_7 : decode cJ2_indexOfSupplementary_4cfef 7 = .ok (.iload_n 1, 1) ∧ 7 + 1 = 8 := ⟨by decide +kernel, rfl⟩
theorem iJ2_indexOfSupplementary_8 : decode cJ2_indexOfSupplementary_4cfef 8 = .ok (.invokestatic 157, 3) ∧ 8 + 3 = 11 := ⟨by decide +kernel, rfl⟩
theorem iJ2_indexOfSupplementary_11 : decode cJ2_indexOfSupplementary_4cfef 11 = .ok (.istore 4, 2) ∧ 11 + 2 = 13 := ⟨by decide +kernel, rfl⟩
theorem iJ2_indexOfSupplementary_13 : decode cJ2_indexOfSupplementary_4cfef 13 = .ok (.iload_n 1, 1) ∧ 13 + 1 = 14 := ⟨by decide +kernel, rfl⟩
theorem iJ2_indexOfSupplementary_14 : decode cJ2_indexOfSupplementary_4cfef 14 = .ok (.invokestatic 161, 3) ∧ 14 + 3 = 17 := ⟨by decide +kernel, rfl⟩
theorem iJ2_indexOfSupplementary_17 : decode cJ2_indexOfSupplementary_4cfef 17 = .ok (.istore 5, 2) ∧ 17 + 2 = 19 := ⟨by decide +kernel, rfl⟩
theorem iJ2_indexOfSupplementary_19 : decode cJ2_indexOfSupplementary_4cfef 19 = .ok (.iload_n 2, 1) ∧ 19 + 1 = 20 := ⟨by decide +kernel, rfl⟩
theorem iJ2_indexOfSupplementary_20 : decode cJ2_indexOfSupplementary_4cfef 20 = .ok (.iload_n 3, 1) ∧ 20 + 1 = 21 := ⟨by decide +kernel, rfl⟩
theorem iJ2_indexOfSupplementary_21 : decode cJ2_indexOfSupplementary_4cfef 21 = .ok (.aload_n 0, 1) ∧ 21 + 1 = 22 := ⟨by decide +kernel, rfl⟩
theorem iJ2_indexOfSupplementary_22 : decode cJ2_indexOfSupplementary_4cfef 22 = .ok (.invokestatic 96, 3) ∧ 22 + 3 = 25 := ⟨by decide +kernel, rfl⟩
theorem iJ2_indexOfSupplementary_25 : decode cJ2_indexOfSupplementary_4cfef 25 = .ok (.iload_n 2, 1) ∧ 25 + 1 = 26 := ⟨by decide +kernel, rfl⟩
theorem iJ2_indexOfSupplementary_26 : decode cJ2_indexOfSupplementary_4cfef 26 = .ok (.istore 6, 2) ∧ 26 + 2 = 28 := ⟨by decide +kernel, rfl⟩
theorem iJ2_indexOfSupplementary_28 : decode cJ2_indexOfSupplementary_4cfef 28 = .ok (.iload 6, 2) ∧ 28 + 2 = 30 := ⟨by decide +kernel, rfl⟩
theorem iJ2_indexOfSupplementary_30 : decode cJ2_indexOfSupplementary_4cfef 30 = .ok (.iload_n 3, 1) ∧ 30 + 1 = 31 := ⟨by decide +kernel, rfl⟩
theorem iJ2_indexOfSupplementary_31 : decode cJ2_indexOfSupplementary_4cfef 31 = .ok (.iconst 1, 1) ∧ 31 + 1 = 32 := ⟨by decide +kernel, rfl⟩
theorem iJ2_indexOfSupplementary_32 : decode cJ2_indexOfSupplementary_4cfef 32 = .ok (.isub, 1) ∧ 32 + 1 = 33 := ⟨by decide +kernel, rfl⟩
theorem iJ2_indexOfSupplementary_33 : decode cJ2_indexOfSupplementary_4cfef 33 = .ok (.if_icmp .ge 36, 3) ∧ 33 + 3 = 36 := ⟨by decide +kernel, rfl⟩
theorem iJ2_indexOfSupplementary_36 : decode cJ2_indexOfSupplementary_4cfef 36 = .ok (.aload_n 0, 1) ∧ 36 + 1 = 37 := ⟨by decide +kernel, rfl⟩
theorem iJ2_indexOfSupplementary_37 : decode cJ2_indexOfSupplementary_4cfef 37 = .ok (.iload 6, 2) ∧ 37 + 2 = 39 := ⟨by decide +kernel, rfl⟩
theorem iJ2_indexOfSupplementary_39 : decode cJ2_indexOfSupplementary_4cfef 39 = .ok (.invokestatic 71, 3) ∧ 39 + 3 = 42 := ⟨by decide +kernel, rfl⟩
theorem iJ2_indexOfSupplementary_42 : decode cJ2_indexOfSupplementary_4cfef 42 = .ok (.iload 4, 2) ∧ 42 + 2 = 44 := ⟨by decide +kernel, rfl⟩
theorem iJ2_indexOfSupplementary_44 : decode cJ2_indexOfSupplementary_4cfef 44 = .ok (.if_icmp .ne 19, 3) ∧ 44 + 3 = 47 := ⟨by decide +kernel, rfl⟩
theorem iJ2_indexOfSupplementary_47 : decode cJ2_indexOfSupplementary_4cfef 47 = .ok (.aload_n 0, 1) ∧ 47 + 1 = 48 := ⟨by decide +kernel, rfl⟩
theorem iJ2_indexOfSupplementary_48 : decode cJ2_indexOfSupplementary_4cfef 48 = .ok (.iload 6, 2) ∧ 48 + 2 = 50 := ⟨by decide +kernel, rfl⟩
theorem iJ2_indexOfSupplementary_50 : decode cJ2_indexOfSupplementary_4cfef 50 = .ok (.iconst 1, 1) ∧ 50 + 1 = 51 := ⟨by decide +kernel, rfl⟩
theorem iJ2_indexOfSupplementary_51 : decode cJ2_indexOfSupplementary_4cfef 51 = .ok (.iadd, 1) ∧ 51 + 1 = 52 := ⟨by decide +kernel, rfl⟩
theorem iJ2_indexOfSupplementary_52 : decode cJ2_indexOfSupplementary_4cfef 52 = .ok (.invokestatic 71, 3) ∧ 52 + 3 = 55 := ⟨by decide +kernel, rfl⟩
theorem iJ2_indexOfSupplementary_55 : decode cJ2_indexOfSupplementary_4cfef 55 = .ok (.iload 5, 2) ∧ 55 + 2 = 57 := ⟨by decide +kernel, rfl⟩
theorem iJ2_indexOfSupplementary_57 : decode cJ2_indexOfSupplementary_4cfef 57 = .ok (.if_icmp .ne 6, 3) ∧ 57 + 3 = 60 := ⟨by decide +kernel, rfl⟩
theorem iJ2_indexOfSupplementary_60 : decode cJ2_indexOfSupplementary_4cfef 60 = .ok (.iload 6, 2) ∧ 60 + 2 = 62 := ⟨by decide +kernel, rfl⟩
theorem iJ2_indexOfSupplementary_62 : decode cJ2_indexOfSupplementary_4cfef 62 = .ok (.ireturn, 1) ∧ 62 + 1 = 63 := ⟨by decide +kernel, rfl⟩
theorem iJ2_indexOfSupplementary_63 : decode cJ2_indexOfSupplementary_4cfef 63 = .ok (.iinc 6 1, 3) ∧ 63 + 3 = 66 := ⟨by decide +kernel, rfl⟩
theorem iJ2_indexOfSupplementary_66 : decode cJ2_indexOfSupplementary_4cfef 66 = .ok (.goto (-38), 3) ∧ 66 + 3 = 69 := ⟨by decide +kernel, rfl⟩
theorem iJ2_indexOfSupplementary_69 : decode cJ2_indexOfSupplementary_4cfef 69 = .ok (.iconst (-1), 1) ∧ 69 + 1 = 70 := ⟨by decide +kernel, rfl⟩
theorem iJ2_indexOfSupplementary_70 : decode cJ2_indexOfSupplementary_4cfef 70 = .ok (.ireturn, 1) ∧ 70 + 1 = 71 := ⟨by decide +kernel, rfl⟩
theorem iJ2_checkBoundsBeginEnd_0 : decode cJ2_checkBoundsBeginEnd_d044e 0 = .ok (.iload_n 0, 1) ∧ 0 + 1 = 1 := ⟨by decide +kernel, rfl⟩
theorem iJ2_checkBoundsBeginEnd_1 : decode cJ2_checkBoundsBeginEnd_d044e 1 = .ok (.iload_n 1, 1) ∧ 1 + 1 = 2 := ⟨by decide +kernel, rfl⟩
theorem iJ2_checkBoundsBeginEnd_2 : decode cJ2_checkBoundsBeginEnd_d044e 2 = .ok (.aload_n 2, 1) ∧ 2 + 1 = 3 := ⟨by decide +kernel, rfl⟩
theorem iJ2_checkBoundsBeginEnd_3 : decode cJ2_checkBoundsBeginEnd_d044e 3 = .ok (.invokestatic 48, 3) ∧ 3 + 3 = 6 := ⟨by decide +kernel, rfl⟩
theorem iJ2_checkBoundsBeginEnd_6 : decode cJ2_checkBoundsBeginEnd_d044e 6 = .ok (.invokestatic 241, 3) ∧ 6 + 3 = 9 := ⟨by decide +kernel, rfl⟩
theorem iJ2_checkBoundsBeginEnd_9 : decode cJ2_checkBoundsBeginEnd_d044e 9 = .ok (.return_, 1) ∧ 9 + 1 = 10 := ⟨by decide +kernel, rfl⟩
theorem iJ3_checkFromToIndex_0 : decode cJ3_checkFromToIndex_8c36e 0 = .ok (.iload_n 0, 1) ∧ 0 + 1 = 1 := ⟨by decide +kernel, rfl⟩
theorem iJ3_checkFromToIndex_1 : decode cJ3_checkFromToIndex_8c36e 1 = .ok (.ifCond .lt 13, 3) ∧ 1 + 3 = 4 := ⟨by decide +kernel, rfl⟩
theorem iJ3_checkFromToIndex_4 : decode cJ3_checkFromToIndex_8c36e 4 = .ok (.iload_n 0, 1) ∧ 4 + 1 = 5 := ⟨by decide +kernel, rfl⟩
theorem iJ3_checkFromToIndex_5 : decode cJ3_checkFromToIndex_8c36e 5 = .ok (.iload_n 1, 1) ∧ 5 + 1 = 6 := ⟨by decide +kernel, rfl⟩
theorem iJ3_checkFromToIndex_6 : decode cJ3_checkFromToIndex_8c36e 6 = .ok (.if_icmp .gt 8, 3) ∧ 6 + 3 = 9 := ⟨by decide +kernel, rfl⟩
theorem iJ3_checkFromToIndex_9 : decode cJ3_checkFromToIndex_8c36e 9 = .ok (.iload_n 1, 1) ∧ 9 + 1 = 10 := ⟨by decide +kernel, rfl⟩
theorem iJ3_checkFromToIndex_10 : decode cJ3_checkFromToIndex_8c36e 10 = .ok (.iload_n 2, 1) ∧ 10 + 1 = 11 := ⟨by decide +kernel, rfl⟩
theorem iJ3_checkFromToIndex_11 : decode cJ3_checkFromToIndex_8c36e 11 = .ok (.if_icmp .le 11, 3) ∧ 11 + 3 = 14 := ⟨by decide +kernel, rfl⟩
theorem iJ3_checkFromToIndex_14 : decode cJ3_checkFromToIndex_8c36e 14 = .ok (.aload_n 3, 1) ∧ 14 + 1 = 15 := ⟨by decide +kernel, rfl⟩
theorem iJ3_checkFromToIndex_15 : decode cJ3_checkFromToIndex_8c36e 15 = .ok (.iload_n 0, 1) ∧ 15 + 1 = 16 := ⟨by decide +kernel, rfl⟩
theorem iJ3_checkFromToIndex_16 : decode cJ3_checkFromToIndex_8c36e 16 = .ok (.iload_n 1, 1) ∧ 16 + 1 = 17 := ⟨by decide +kernel, rfl⟩
theorem iJ3_checkFromToIndex_17 : decode cJ3_checkFromToIndex_8c36e 17 = .ok (.iload_n 2, 1) ∧ 17 + 1 = 18 := ⟨by decide +kernel, rfl⟩
theorem iJ3_checkFromToIndex_18 : decode cJ3_checkFromToIndex_8c36e 18 = .ok (.invokestatic 99, 3) ∧ 18 + 3 = 21 := ⟨by decide +kernel, rfl⟩
theorem iJ3_checkFromToIndex_21 : decode cJ3_checkFromToIndex_8c36e 21 = .ok (.athrow, 1) ∧ 21 + 1 = 22 := ⟨by decide +kernel, rfl⟩
theorem iJ3_checkFromToIndex_22 : decode cJ3_checkFromToIndex_8c36e 22 = .ok (.iload_n 0, 1) ∧ 22 + 1 = 23 := ⟨by decide +kernel, rfl⟩
theorem iJ3_checkFromToIndex_23 : decode cJ3_checkFromToIndex_8c36e 23 = .ok (.ireturn, 1) ∧ 23 + 1 = 24 := ⟨by decide +kernel, rfl⟩
