theorem dX12_liar_33 : decode cX12_liar 33 = .ok (.iinc 1 1, 3) := by decide +kernel
theorem dX12_liar_36 : decode cX12_liar 36 = .ok (.goto (-23), 3) := by decide +kernel
theorem dX12_liar_39 : decode cX12_liar 39 = .ok (.bipush (-3), 2) := by decide +kernel
theorem dX12_liar_41 : decode cX12_liar 41 = .ok (.ireturn, 1) := by decide +kernel
theorem dX12_seed_0 : decode cX12_seed 0 = .ok (.aload_n 0, 1) := by decide +kernel
theorem dX12_seed_1 : decode cX12_seed 1 = .ok (.iconst 3, 1) := by decide +kernel
theorem dX12_seed_2 : decode cX12_seed 2 = .ok (.iload_n 1, 1) := by decide +kernel
theorem dX12_seed_3 : decode cX12_seed 3 = .ok (.invokevirtual 118, 3) := by decide +kernel
theorem dX12_seed_6 : decode cX12_seed 6 = .ok (.ireturn, 1) := by decide +kernel
theorem dX12_byLot_0 : decode cX12_byLot 0 = .ok (.aload_n 0, 1) := by decide +kernel
theorem dX12_byLot_1 : decode cX12_byLot 1 = .ok (.getfield 9, 3) := by decide +kernel
theorem dX12_byLot_4 : decode cX12_byLot 4 = .ok (.iconst 3, 1) := by decide +kernel
theorem dX12_byLot_5 : decode cX12_byLot 5 = .ok (.aload_n 0, 1) := by decide +kernel
theorem dX12_byLot_6 : decode cX12_byLot 6 = .ok (.getfield 9, 3) := by decide +kernel
theorem dX12_byLot_9 : decode cX12_byLot 9 = .ok (.iconst 3, 1) := by decide +kernel
theorem dX12_byLot_10 : decode cX12_byLot 10 = .ok (.iaload, 1) := by decide +kernel
theorem dX12_byLot_11 : decode cX12_byLot 11 = .ok (.ldc_w 287, 3) := by decide +kernel
theorem dX12_byLot_14 : decode cX12_byLot 14 = .ok (.imul, 1) := by decide +kernel
theorem dX12_byLot_15 : decode cX12_byLot 15 = .ok (.sipush 12345, 3) := by decide +kernel
theorem dX12_byLot_18 : decode cX12_byLot 18 = .ok (.iadd, 1) := by decide +kernel
theorem dX12_byLot_19 : decode cX12_byLot 19 = .ok (.iastore, 1) := by decide +kernel
theorem dX12_byLot_20 : decode cX12_byLot 20 = .ok (.aload_n 0, 1) := by decide +kernel
theorem dX12_byLot_21 : decode cX12_byLot 21 = .ok (.aload_n 0, 1) := by decide +kernel
theorem dX12_byLot_22 : decode cX12_byLot 22 = .ok (.getfield 9, 3) := by decide +kernel
theorem dX12_byLot_25 : decode cX12_byLot 25 = .ok (.iconst 3, 1) := by decide +kernel
theorem dX12_byLot_26 : decode cX12_byLot 26 = .ok (.iaload, 1) := by decide +kernel
theorem dX12_byLot_27 : decode cX12_byLot 27 = .ok (.bipush 16, 2) := by decide +kernel
theorem dX12_byLot_29 : decode cX12_byLot 29 = .ok (.iushr, 1) := by decide +kernel
theorem dX12_byLot_30 : decode cX12_byLot 30 = .ok (.aload_n 0, 1) := by decide +kernel
theorem dX12_byLot_31 : decode cX12_byLot 31 = .ok (.getfield 9, 3) := by decide +kernel
theorem dX12_byLot_34 : decode cX12_byLot 34 = .ok (.iconst 4, 1) := by decide +kernel
theorem dX12_byLot_35 : decode cX12_byLot 35 = .ok (.iaload, 1) := by decide +kernel
theorem dX12_byLot_36 : decode cX12_byLot 36 = .ok (.iconst 1, 1) := by decide +kernel
theorem dX12_byLot_37 : decode cX12_byLot 37 = .ok (.iadd, 1) := by decide +kernel
theorem dX12_byLot_38 : decode cX12_byLot 38 = .ok (.irem, 1) := by decide +kernel
theorem dX12_byLot_39 : decode cX12_byLot 39 = .ok (.iconst 1, 1) := by decide +kernel
theorem dX12_byLot_40 : decode cX12_byLot 40 = .ok (.isub, 1) := by decide +kernel
theorem dX12_byLot_41 : decode cX12_byLot 41 = .ok (.invokevirtual 226, 3) := by decide +kernel
theorem dX12_byLot_44 : decode cX12_byLot 44 = .ok (.ireturn, 1) := by decide +kernel
theorem dX12_lot_0 : decode cX12_lot 0 = .ok (.aload_n 0, 1) := by decide +kernel
theorem dX12_lot_1 : decode cX12_lot 1 = .ok (.invokevirtual 121, 3) := by decide +kernel
theorem dX12_lot_4 : decode cX12_lot 4 = .ok (.ifCond .eq 8, 3) := by decide +kernel
theorem dX12_lot_7 : decode cX12_lot 7 = .ok (.bipush (-4), 2) := by decide +kernel
theorem dX12_lot_9 : decode cX12_lot 9 = .ok (.goto 7, 3) := by decide +kernel
theorem dX12_lot_12 : decode cX12_lot 12 = .ok (.aload_n 0, 1) := by decide +kernel
theorem dX12_lot_13 : decode cX12_lot 13 = .ok (.invokevirtual 288, 3) := by decide +kernel
theorem dX12_lot_16 : decode cX12_lot 16 = .ok (.ireturn, 1) := by decide +kernel
theorem dX12_times_0 : decode cX12_times 0 = .ok (.iload_n 1, 1) := by decide +kernel
theorem dX12_times_1 : decode cX12_times 1 = .ok (.iconst 1, 1) := by decide +kernel
theorem dX12_times_2 : decode cX12_times 2 = .ok (.bipush 40, 2) := by decide +kernel
theorem dX12_times_4 : decode cX12_times 4 = .ok (.invokestatic 61, 3) := by decide +kernel
theorem dX12_times_7 : decode cX12_times 7 = .ok (.ifCond .eq 14, 3) := by decide +kernel
theorem dX12_times_10 : decode cX12_times 10 = .ok (.iload_n 2, 1) := by decide +kernel
theorem dX12_times_11 : decode cX12_times 11 = .ok (.iconst 0, 1) := by decide +kernel
theorem dX12_times_12 : decode cX12_times 12 = .ok (.sipush 999, 3) := by decide +kernel
theorem dX12_times_15 : decode cX12_times 15 = .ok (.invokestatic 61, 3) := by decide +kernel
theorem dX12_times_18 : decode cX12_times 18 = .ok (.ifCond .ne 5, 3) := by decide +kernel
theorem dX12_times_21 : decode cX12_times 21 = .ok (.iconst (-1), 1) := by decide +kernel
theorem dX12_times_22 : decode cX12_times 22 = .ok (.ireturn, 1) := by decide +kernel
theorem dX12_times_23 : decode cX12_times 23 = .ok (.aload_n 0, 1) := by decide +kernel
theorem dX12_times_24 : decode cX12_times 24 = .ok (.invokevirtual 196, 3) := by decide +kernel
theorem dX12_times_27 : decode cX12_times 27 = .ok (.iconst 0, 1) := by decide +kernel
theorem dX12_times_28 : decode cX12_times 28 = .ok (.istore_n 3, 1) := by decide +kernel
theorem dX12_times_29 : decode cX12_times 29 = .ok (.iconst 0, 1) := by decide +kernel
theorem dX12_times_30 : decode cX12_times 30 = .ok (.istore 4, 2) := by decide +kernel
theorem dX12_times_32 : decode cX12_times 32 = .ok (.iload 4, 2) := by decide +kernel
theorem dX12_times_34 : decode cX12_times 34 = .ok (.iload_n 1, 1) := by decide +kernel
theorem dX12_times_35 : decode cX12_times 35 = .ok (.if_icmp .ge 65, 3) := by decide +kernel
theorem dX12_times_38 : decode cX12_times 38 = .ok (.iconst 0, 1) := by decide +kernel
theorem dX12_times_39 : decode cX12_times 39 = .ok (.istore 5, 2) := by decide +kernel
theorem dX12_times_41 : decode cX12_times 41 = .ok (.aload_n 0, 1) := by decide +kernel
theorem dX12_times_42 : decode cX12_times 42 = .ok (.invokevirtual 121, 3) := by decide +kernel
theorem dX12_times_45 : decode cX12_times 45 = .ok (.ifCond .ne 15, 3) := by decide +kernel
theorem dX12_times_48 : decode cX12_times 48 = .ok (.iload 5, 2) := by decide +kernel
theorem dX12_times_50 : decode cX12_times 50 = .ok (.aload_n 0, 1) := by decide +kernel
theorem dX12_times_51 : decode cX12_times 51 = .ok (.invokevirtual 288, 3) := by decide +kernel
theorem dX12_times_54 : decode cX12_times 54 = .ok (.iadd, 1) := by decide +kernel
theorem dX12_times_55 : decode cX12_times 55 = .ok (.istore 5, 2) := by decide +kernel
theorem dX12_times_57 : decode cX12_times 57 = .ok (.goto (-16), 3) := by decide +kernel
theorem dX12_times_60 : decode cX12_times 60 = .ok (.aload_n 0, 1) := by decide +kernel
theorem dX12_times_61 : decode cX12_times 61 = .ok (.getfield 9, 3) := by decide +kernel
theorem dX12_times_64 : decode cX12_times 64 = .ok (.iconst 3, 1) := by decide +kernel
theorem dX12_times_65 : decode cX12_times 65 = .ok (.iaload, 1) := by decide +kernel
theorem dX12_times_66 : decode cX12_times 66 = .ok (.istore 6, 2) := by decide +kernel
theorem dX12_times_68 : decode cX12_times 68 = .ok (.aload_n 0, 1) := by decide +kernel
theorem dX12_times_69 : decode cX12_times 69 = .ok (.invokevirtual 202, 3) := by decide +kernel
theorem dX12_times_72 : decode cX12_times 72 = .ok (.aload_n 0, 1) := by decide +kernel
theorem dX12_times_73 : decode cX12_times 73 = .ok (.getfield 9, 3) := by decide +kernel
theorem dX12_times_76 : decode cX12_times 76 = .ok (.iconst 3, 1) := by decide +kernel
theorem dX12_times_77 : decode cX12_times 77 = .ok (.iload 6, 2) := by decide +kernel
theorem dX12_times_79 : decode cX12_times 79 = .ok (.iastore, 1) := by decide +kernel
theorem dX12_times_80 : decode cX12_times 80 = .ok (.iload_n 3, 1) := by decide +kernel
theorem dX12_times_81 : decode cX12_times 81 = .ok (.iload 5, 2) := by decide +kernel
theorem dX12_times_83 : decode cX12_times 83 = .ok (.iload_n 2, 1) := by decide +kernel
theorem dX12_times_84 : decode cX12_times 84 = .ok (.if_icmp .lt 7, 3) := by decide +kernel
theorem dX12_times_87 : decode cX12_times 87 = .ok (.iconst 1, 1) := by decide +kernel
theorem dX12_times_88 : decode cX12_times 88 = .ok (.goto 4, 3) := by decide +kernel
theorem dX12_times_91 : decode cX12_times 91 = .ok (.iconst 0, 1) := by decide +kernel
theorem dX12_times_92 : decode cX12_times 92 = .ok (.iadd, 1) := by decide +kernel
theorem dX12_times_93 : decode cX12_times 93 = .ok (.istore_n 3, 1) := by decide +kernel
theorem dX12_times_94 : decode cX12_times 94 = .ok (.iinc 4 1, 3) := by decide +kernel
theorem dX12_times_97 : decode cX12_times 97 = .ok (.goto (-65), 3) := by decide +kernel
theorem dX12_times_100 : decode cX12_times 100 = .ok (.aload_n 0, 1) := by decide +kernel
theorem dX12_times_101 : decode cX12_times 101 = .ok (.invokevirtual 202, 3) := by decide +kernel
theorem dX12_times_104 : decode cX12_times 104 = .ok (.iload_n 3, 1) := by decide +kernel
theorem dX12_times_105 : decode cX12_times 105 = .ok (.ireturn, 1) := by decide +kernel
theorem dX12_prove_0 : decode cX12_prove 0 = .ok (.iload_n 1, 1) := by decide +kernel
theorem dX12_prove_1 : decode cX12_prove 1 = .ok (.iconst 0, 1) := by decide +kernel
theorem dX12_prove_2 : decode cX12_prove 2 = .ok (.iconst 4, 1) := by decide +kernel
theorem dX12_prove_3 : decode cX12_prove 3 = .ok (.invokestatic 61, 3) := by decide +kernel
theorem dX12_prove_6 : decode cX12_prove 6 = .ok (.ifCond .ne 5, 3) := by decide +kernel
theorem dX12_prove_9 : decode cX12_prove 9 = .ok (.iconst (-1), 1) := by decide +kernel
theorem dX12_prove_10 : decode cX12_prove 10 = .ok (.ireturn, 1) := by decide +kernel
theorem dX12_prove_11 : decode cX12_prove 11 = .ok (.aload_n 0, 1) := by decide +kernel
theorem dX12_prove_12 : decode cX12_prove 12 = .ok (.iload_n 1, 1) := by decide +kernel
theorem dX12_prove_13 : decode cX12_prove 13 = .ok (.invokevirtual 244, 3) := by decide +kernel
theorem dX12_prove_16 : decode cX12_prove 16 = .ok (.istore_n 2, 1) := by decide +kernel
theorem dX12_prove_17 : decode cX12_prove 17 = .ok (.aload_n 0, 1) := by decide +kernel
theorem dX12_prove_18 : decode cX12_prove 18 = .ok (.iload_n 1, 1) := by decide +kernel
theorem dX12_prove_19 : decode cX12_prove 19 = .ok (.invokevirtual 268, 3) := by decide +kernel
theorem dX12_prove_22 : decode cX12_prove 22 = .ok (.aload_n 0, 1) := by decide +kernel
theorem dX12_prove_23 : decode cX12_prove 23 = .ok (.invokevirtual 196, 3) := by decide +kernel
theorem dX12_prove_26 : decode cX12_prove 26 = .ok (.iconst 0, 1) := by decide +kernel
theorem dX12_prove_27 : decode cX12_prove 27 = .ok (.istore_n 3, 1) := by decide +kernel
theorem dX12_prove_28 : decode cX12_prove 28 = .ok (.iload_n 3, 1) := by decide +kernel
theorem dX12_prove_29 : decode cX12_prove 29 = .ok (.iload_n 2, 1) := by decide +kernel
theorem dX12_prove_30 : decode cX12_prove 30 = .ok (.if_icmp .ge 72, 3) := by decide +kernel
theorem dX12_prove_33 : decode cX12_prove 33 = .ok (.aload_n 0, 1) := by decide +kernel
theorem dX12_prove_34 : decode cX12_prove 34 = .ok (.getfield 32, 3) := by decide +kernel
theorem dX12_prove_37 : decode cX12_prove 37 = .ok (.iconst 3, 1) := by decide +kernel
theorem dX12_prove_38 : decode cX12_prove 38 = .ok (.iload_n 3, 1) := by decide +kernel
theorem dX12_prove_39 : decode cX12_prove 39 = .ok (.imul, 1) := by decide +kernel
theorem dX12_prove_40 : decode cX12_prove 40 = .ok (.aload_n 0, 1) := by decide +kernel
theorem dX12_prove_41 : decode cX12_prove 41 = .ok (.getfield 265, 3) := by decide +kernel
theorem dX12_prove_44 : decode cX12_prove 44 = .ok (.aload_n 0, 1) := by decide +kernel
theorem dX12_prove_45 : decode cX12_prove 45 = .ok (.getfield 16, 3) := by decide +kernel
theorem dX12_prove_48 : decode cX12_prove 48 = .ok (.iconst 4, 1) := by decide +kernel
theorem dX12_prove_49 : decode cX12_prove 49 = .ok (.iaload, 1) := by decide +kernel
theorem dX12_prove_50 : decode cX12_prove 50 = .ok (.iconst 1, 1) := by decide +kernel
theorem dX12_prove_51 : decode cX12_prove 51 = .ok (.iadd, 1) := by decide +kernel
theorem dX12_prove_52 : decode cX12_prove 52 = .ok (.iload_n 3, 1) := by decide +kernel
theorem dX12_prove_53 : decode cX12_prove 53 = .ok (.iload_n 2, 1) := by decide +kernel
theorem dX12_prove_54 : decode cX12_prove 54 = .ok (.invokestatic 247, 3) := by decide +kernel
theorem dX12_prove_57 : decode cX12_prove 57 = .ok (.iastore, 1) := by decide +kernel
theorem dX12_prove_58 : decode cX12_prove 58 = .ok (.aload_n 0, 1) := by decide +kernel
theorem dX12_prove_59 : decode cX12_prove 59 = .ok (.getfield 32, 3) := by decide +kernel
theorem dX12_prove_62 : decode cX12_prove 62 = .ok (.iconst 3, 1) := by decide +kernel
theorem dX12_prove_63 : decode cX12_prove 63 = .ok (.iload_n 3, 1) := by decide +kernel
theorem dX12_prove_64 : decode cX12_prove 64 = .ok (.imul, 1) := by decide +kernel
theorem dX12_prove_65 : decode cX12_prove 65 = .ok (.iconst 1, 1) := by decide +kernel
theorem dX12_prove_66 : decode cX12_prove 66 = .ok (.iadd, 1) := by decide +kernel
theorem dX12_prove_67 : decode cX12_prove 67 = .ok (.aload_n 0, 1) := by decide +kernel
theorem dX12_prove_68 : decode cX12_prove 68 = .ok (.aload_n 0, 1) := by decide +kernel
theorem dX12_prove_69 : decode cX12_prove 69 = .ok (.getfield 32, 3) := by decide +kernel
theorem dX12_prove_72 : decode cX12_prove 72 = .ok (.iconst 3, 1) := by decide +kernel
theorem dX12_prove_73 : decode cX12_prove 73 = .ok (.iload_n 3, 1) := by decide +kernel
theorem dX12_prove_74 : decode cX12_prove 74 = .ok (.imul, 1) := by decide +kernel
theorem dX12_prove_75 : decode cX12_prove 75 = .ok (.iaload, 1) := by decide +kernel
theorem dX12_prove_76 : decode cX12_prove 76 = .ok (.iconst 1, 1) := by decide +kernel
theorem dX12_prove_77 : decode cX12_prove 77 = .ok (.isub, 1) := by decide +kernel
theorem dX12_prove_78 : decode cX12_prove 78 = .ok (.invokevirtual 226, 3) := by decide +kernel
theorem dX12_prove_81 : decode cX12_prove 81 = .ok (.iastore, 1) := by decide +kernel
theorem dX12_prove_82 : decode cX12_prove 82 = .ok (.aload_n 0, 1) := by decide +kernel
theorem dX12_prove_83 : decode cX12_prove 83 = .ok (.getfield 32, 3) := by decide +kernel
theorem dX12_prove_86 : decode cX12_prove 86 = .ok (.iconst 3, 1) := by decide +kernel
theorem dX12_prove_87 : decode cX12_prove 87 = .ok (.iload_n 3, 1) := by decide +kernel
theorem dX12_prove_88 : decode cX12_prove 88 = .ok (.imul, 1) := by decide +kernel
theorem dX12_prove_89 : decode cX12_prove 89 = .ok (.iconst 2, 1) := by decide +kernel
theorem dX12_prove_90 : decode cX12_prove 90 = .ok (.iadd, 1) := by decide +kernel
theorem dX12_prove_91 : decode cX12_prove 91 = .ok (.aload_n 0, 1) := by decide +kernel
theorem dX12_prove_92 : decode cX12_prove 92 = .ok (.invokevirtual 125, 3) := by decide +kernel
theorem dX12_prove_95 : decode cX12_prove 95 = .ok (.iastore, 1) := by decide +kernel
theorem dX12_prove_96 : decode cX12_prove 96 = .ok (.iinc 3 1, 3) := by decide +kernel
theorem dX12_prove_99 : decode cX12_prove 99 = .ok (.goto (-71), 3) := by decide +kernel
theorem dX12_prove_102 : decode cX12_prove 102 = .ok (.aload_n 0, 1) := by decide +kernel
theorem dX12_prove_103 : decode cX12_prove 103 = .ok (.invokevirtual 202, 3) := by decide +kernel
theorem dX12_prove_106 : decode cX12_prove 106 = .ok (.aload_n 0, 1) := by decide +kernel
theorem dX12_prove_107 : decode cX12_prove 107 = .ok (.iload_n 2, 1) := by decide +kernel
theorem dX12_prove_108 : decode cX12_prove 108 = .ok (.putfield 291, 3) := by decide +kernel
theorem dX12_prove_111 : decode cX12_prove 111 = .ok (.aload_n 0, 1) := by decide +kernel
theorem dX12_prove_112 : decode cX12_prove 112 = .ok (.getfield 291, 3) := by decide +kernel
theorem dX12_prove_115 : decode cX12_prove 115 = .ok (.ireturn, 1) := by decide +kernel
theorem dX12_isRow_0 : decode cX12_isRow 0 = .ok (.iload_n 1, 1) := by decide +kernel
theorem dX12_isRow_1 : decode cX12_isRow 1 = .ok (.iconst 0, 1) := by decide +kernel
theorem dX12_isRow_2 : decode cX12_isRow 2 = .ok (.aload_n 0, 1) := by decide +kernel
theorem dX12_isRow_3 : decode cX12_isRow 3 = .ok (.getfield 291, 3) := by decide +kernel
theorem dX12_isRow_6 : decode cX12_isRow 6 = .ok (.iconst 1, 1) := by decide +kernel
theorem dX12_isRow_7 : decode cX12_isRow 7 = .ok (.isub, 1) := by decide +kernel
theorem dX12_isRow_8 : decode cX12_isRow 8 = .ok (.invokestatic 61, 3) := by decide +kernel
theorem dX12_isRow_11 : decode cX12_isRow 11 = .ok (.ifCond .eq 16, 3) := by decide +kernel
theorem dX12_isRow_14 : decode cX12_isRow 14 = .ok (.iload_n 2, 1) := by decide +kernel
theorem dX12_isRow_15 : decode cX12_isRow 15 = .ok (.iconst 0, 1) := by decide +kernel
theorem dX12_isRow_16 : decode cX12_isRow 16 = .ok (.iconst 2, 1) := by decide +kernel
theorem dX12_isRow_17 : decode cX12_isRow 17 = .ok (.invokestatic 61, 3) := by decide +kernel
theorem dX12_isRow_20 : decode cX12_isRow 20 = .ok (.ifCond .eq 7, 3) := by decide +kernel
theorem dX12_isRow_23 : decode cX12_isRow 23 = .ok (.iconst 1, 1) := by decide +kernel
theorem dX12_isRow_24 : decode cX12_isRow 24 = .ok (.goto 4, 3) := by decide +kernel
theorem dX12_isRow_27 : decode cX12_isRow 27 = .ok (.iconst 0, 1) := by decide +kernel
theorem dX12_isRow_28 : decode cX12_isRow 28 = .ok (.ireturn, 1) := by decide +kernel
theorem dX12_row_0 : decode cX12_row 0 = .ok (.aload_n 0, 1) := by decide +kernel
theorem dX12_row_1 : decode cX12_row 1 = .ok (.iload_n 1, 1) := by decide +kernel
theorem dX12_row_2 : decode cX12_row 2 = .ok (.iload_n 2, 1) := by decide +kernel
theorem dX12_row_3 : decode cX12_row 3 = .ok (.invokevirtual 294, 3) := by decide +kernel
theorem dX12_row_6 : decode cX12_row 6 = .ok (.ifCond .eq 16, 3) := by decide +kernel
theorem dX12_row_9 : decode cX12_row 9 = .ok (.aload_n 0, 1) := by decide +kernel
theorem dX12_row_10 : decode cX12_row 10 = .ok (.getfield 32, 3) := by decide +kernel
theorem dX12_row_13 : decode cX12_row 13 = .ok (.iconst 3, 1) := by decide +kernel
theorem dX12_row_14 : decode cX12_row 14 = .ok (.iload_n 1, 1) := by decide +kernel
theorem dX12_row_15 : decode cX12_row 15 = .ok (.imul, 1) := by decide +kernel
theorem dX12_row_16 : decode cX12_row 16 = .ok (.iload_n 2, 1) := by decide +kernel
theorem dX12_row_17 : decode cX12_row 17 = .ok (.iadd, 1) := by decide +kernel
theorem dX12_row_18 : decode cX12_row 18 = .ok (.iaload, 1) := by decide +kernel
theorem dX12_row_19 : decode cX12_row 19 = .ok (.goto 5, 3) := by decide +kernel
theorem dX12_row_22 : decode cX12_row 22 = .ok (.bipush (-9), 2) := by decide +kernel
theorem dX12_row_24 : decode cX12_row 24 = .ok (.ireturn, 1) := by decide +kernel
theorem dX12_alterRow_0 : decode cX12_alterRow 0 = .ok (.aload_n 0, 1) := by decide +kernel
theorem dX12_alterRow_1 : decode cX12_alterRow 1 = .ok (.iload_n 1, 1) := by decide +kernel
theorem dX12_alterRow_2 : decode cX12_alterRow 2 = .ok (.iload_n 2, 1) := by decide +kernel
theorem dX12_alterRow_3 : decode cX12_alterRow 3 = .ok (.invokevirtual 294, 3) := by decide +kernel
theorem dX12_alterRow_6 : decode cX12_alterRow 6 = .ok (.ifCond .ne 6, 3) := by decide +kernel
theorem dX12_alterRow_9 : decode cX12_alterRow 9 = .ok (.bipush (-9), 2) := by decide +kernel
theorem dX12_alterRow_11 : decode cX12_alterRow 11 = .ok (.ireturn, 1) := by decide +kernel
theorem dX12_alterRow_12 : decode cX12_alterRow 12 = .ok (.aload_n 0, 1) := by decide +kernel
theorem dX12_alterRow_13 : decode cX12_alterRow 13 = .ok (.getfield 32, 3) := by decide +kernel
theorem dX12_alterRow_16 : decode cX12_alterRow 16 = .ok (.iconst 3, 1) := by decide +kernel
theorem dX12_alterRow_17 : decode cX12_alterRow 17 = .ok (.iload_n 1, 1) := by decide +kernel
theorem dX12_alterRow_18 : decode cX12_alterRow 18 = .ok (.imul, 1) := by decide +kernel
theorem dX12_alterRow_19 : decode cX12_alterRow 19 = .ok (.iload_n 2, 1) := by decide +kernel
theorem dX12_alterRow_20 : decode cX12_alterRow 20 = .ok (.iadd, 1) := by decide +kernel
theorem dX12_alterRow_21 : decode cX12_alterRow 21 = .ok (.iaload, 1) := by decide +kernel
theorem dX12_alterRow_22 : decode cX12_alterRow 22 = .ok (.istore 4, 2) := by decide +kernel
theorem dX12_alterRow_24 : decode cX12_alterRow 24 = .ok (.aload_n 0, 1) := by decide +kernel
theorem dX12_alterRow_25 : decode cX12_alterRow 25 = .ok (.getfield 32, 3) := by decide +kernel
theorem dX12_alterRow_28 : decode cX12_alterRow 28 = .ok (.iconst 3, 1) := by decide +kernel
theorem dX12_alterRow_29 : decode cX12_alterRow 29 = .ok (.iload_n 1, 1) := by decide +kernel
theorem dX12_alterRow_30 : decode cX12_alterRow 30 = .ok (.imul, 1) := by decide +kernel
theorem dX12_alterRow_31 : decode cX12_alterRow 31 = .ok (.iload_n 2, 1) := by decide +kernel
theorem dX12_alterRow_32 : decode cX12_alterRow 32 = .ok (.iadd, 1) := by decide +kernel
theorem dX12_alterRow_33 : decode cX12_alterRow 33 = .ok (.iload_n 3, 1) := by decide +kernel
theorem dX12_alterRow_34 : decode cX12_alterRow 34 = .ok (.iastore, 1) := by decide +kernel
theorem dX12_alterRow_35 : decode cX12_alterRow 35 = .ok (.iload 4, 2) := by decide +kernel
theorem dX12_alterRow_37 : decode cX12_alterRow 37 = .ok (.ireturn, 1) := by decide +kernel
theorem dX12_judge_0 : decode cX12_judge 0 = .ok (.aload_n 0, 1) := by decide +kernel
theorem dX12_judge_1 : decode cX12_judge 1 = .ok (.invokevirtual 196, 3) := by decide +kernel
theorem dX12_judge_4 : decode cX12_judge 4 = .ok (.iconst 0, 1) := by decide +kernel
theorem dX12_judge_5 : decode cX12_judge 5 = .ok (.istore_n 1, 1) := by decide +kernel
theorem dX12_judge_6 : decode cX12_judge 6 = .ok (.iconst 0, 1) := by decide +kernel
theorem dX12_judge_7 : decode cX12_judge 7 = .ok (.istore_n 2, 1) := by decide +kernel
theorem dX12_judge_8 : decode cX12_judge 8 = .ok (.iload_n 2, 1) := by decide +kernel
theorem dX12_judge_9 : decode cX12_judge 9 = .ok (.aload_n 0, 1) := by decide +kernel
theorem dX12_judge_10 : decode cX12_judge 10 = .ok (.getfield 291, 3) := by decide +kernel
theorem dX12_judge_13 : decode cX12_judge 13 = .ok (.if_icmp .ge 125, 3) := by decide +kernel
theorem dX12_judge_16 : decode cX12_judge 16 = .ok (.iload_n 1, 1) := by decide +kernel
theorem dX12_judge_17 : decode cX12_judge 17 = .ok (.ifCond .ne 121, 3) := by decide +kernel
theorem dX12_judge_20 : decode cX12_judge 20 = .ok (.aload_n 0, 1) := by decide +kernel
theorem dX12_judge_21 : decode cX12_judge 21 = .ok (.getfield 32, 3) := by decide +kernel
theorem dX12_judge_24 : decode cX12_judge 24 = .ok (.iconst 3, 1) := by decide +kernel
theorem dX12_judge_25 : decode cX12_judge 25 = .ok (.iload_n 2, 1) := by decide +kernel
theorem dX12_judge_26 : decode cX12_judge 26 = .ok (.imul, 1) := by decide +kernel
theorem dX12_judge_27 : decode cX12_judge 27 = .ok (.iaload, 1) := by decide +kernel
theorem dX12_judge_28 : decode cX12_judge 28 = .ok (.iconst 0, 1) := by decide +kernel
theorem dX12_judge_29 : decode cX12_judge 29 = .ok (.aload_n 0, 1) := by decide +kernel
theorem dX12_judge_30 : decode cX12_judge 30 = .ok (.getfield 9, 3) := by decide +kernel
theorem dX12_judge_33 : decode cX12_judge 33 = .ok (.iconst 4, 1) := by decide +kernel
theorem dX12_judge_34 : decode cX12_judge 34 = .ok (.iaload, 1) := by decide +kernel
theorem dX12_judge_35 : decode cX12_judge 35 = .ok (.invokestatic 61, 3) := by decide +kernel
theorem dX12_judge_38 : decode cX12_judge 38 = .ok (.ifCond .eq 14, 3) := by decide +kernel
theorem dX12_judge_41 : decode cX12_judge 41 = .ok (.aload_n 0, 1) := by decide +kernel
theorem dX12_judge_42 : decode cX12_judge 42 = .ok (.invokevirtual 121, 3) := by decide +kernel
theorem dX12_judge_45 : decode cX12_judge 45 = .ok (.ifCond .ne 7, 3) := by decide +kernel
theorem dX12_judge_48 : decode cX12_judge 48 = .ok (.iconst 1, 1) := by decide +kernel
theorem dX12_judge_49 : decode cX12_judge 49 = .ok (.goto 4, 3) := by decide +kernel
theorem dX12_judge_52 : decode cX12_judge 52 = .ok (.iconst 0, 1) := by decide +kernel
theorem dX12_judge_53 : decode cX12_judge 53 = .ok (.istore_n 3, 1) := by decide +kernel
theorem dX12_judge_54 : decode cX12_judge 54 = .ok (.iload_n 3, 1) := by decide +kernel
theorem dX12_judge_55 : decode cX12_judge 55 = .ok (.ifCond .eq 20, 3) := by decide +kernel
theorem dX12_judge_58 : decode cX12_judge 58 = .ok (.aload_n 0, 1) := by decide +kernel
theorem dX12_judge_59 : decode cX12_judge 59 = .ok (.aload_n 0, 1) := by decide +kernel
theorem dX12_judge_60 : decode cX12_judge 60 = .ok (.getfield 32, 3) := by decide +kernel
theorem dX12_judge_63 : decode cX12_judge 63 = .ok (.iconst 3, 1) := by decide +kernel
theorem dX12_judge_64 : decode cX12_judge 64 = .ok (.iload_n 2, 1) := by decide +kernel
theorem dX12_judge_65 : decode cX12_judge 65 = .ok (.imul, 1) := by decide +kernel
theorem dX12_judge_66 : decode cX12_judge 66 = .ok (.iaload, 1) := by decide +kernel
theorem dX12_judge_67 : decode cX12_judge 67 = .ok (.iconst 1, 1) := by decide +kernel
theorem dX12_judge_68 : decode cX12_judge 68 = .ok (.isub, 1) := by decide +kernel
theorem dX12_judge_69 : decode cX12_judge 69 = .ok (.invokevirtual 226, 3) := by decide +kernel
theorem dX12_judge_72 : decode cX12_judge 72 = .ok (.goto 4, 3) := by decide +kernel
theorem dX12_judge_75 : decode cX12_judge 75 = .ok (.iconst 0, 1) := by decide +kernel
theorem dX12_judge_76 : decode cX12_judge 76 = .ok (.istore 4, 2) := by decide +kernel
theorem dX12_judge_78 : decode cX12_judge 78 = .ok (.iload_n 3, 1) := by decide +kernel
theorem dX12_judge_79 : decode cX12_judge 79 = .ok (.ifCond .eq 39, 3) := by decide +kernel
theorem dX12_judge_82 : decode cX12_judge 82 = .ok (.iload 4, 2) := by decide +kernel
theorem dX12_judge_84 : decode cX12_judge 84 = .ok (.aload_n 0, 1) := by decide +kernel
theorem dX12_judge_85 : decode cX12_judge 85 = .ok (.getfield 32, 3) := by decide +kernel
theorem dX12_judge_88 : decode cX12_judge 88 = .ok (.iconst 3, 1) := by decide +kernel
theorem dX12_judge_89 : decode cX12_judge 89 = .ok (.iload_n 2, 1) := by decide +kernel
theorem dX12_judge_90 : decode cX12_judge 90 = .ok (.imul, 1) := by decide +kernel
theorem dX12_judge_91 : decode cX12_judge 91 = .ok (.iconst 1, 1) := by decide +kernel
theorem dX12_judge_92 : decode cX12_judge 92 = .ok (.iadd, 1) := by decide +kernel
theorem dX12_judge_93 : decode cX12_judge 93 = .ok (.iaload, 1) := by decide +kernel
theorem dX12_judge_94 : decode cX12_judge 94 = .ok (.if_icmp .ne 24, 3) := by decide +kernel
theorem dX12_judge_97 : decode cX12_judge 97 = .ok (.aload_n 0, 1) := by decide +kernel
theorem dX12_judge_98 : decode cX12_judge 98 = .ok (.invokevirtual 125, 3) := by decide +kernel
theorem dX12_judge_101 : decode cX12_judge 101 = .ok (.aload_n 0, 1) := by decide +kernel
theorem dX12_judge_102 : decode cX12_judge 102 = .ok (.getfield 32, 3) := by decide +kernel
theorem dX12_judge_105 : decode cX12_judge 105 = .ok (.iconst 3, 1) := by decide +kernel
theorem dX12_judge_106 : decode cX12_judge 106 = .ok (.iload_n 2, 1) := by decide +kernel
theorem dX12_judge_107 : decode cX12_judge 107 = .ok (.imul, 1) := by decide +kernel
theorem dX12_judge_108 : decode cX12_judge 108 = .ok (.iconst 2, 1) := by decide +kernel
theorem dX12_judge_109 : decode cX12_judge 109 = .ok (.iadd, 1) := by decide +kernel
theorem dX12_judge_110 : decode cX12_judge 110 = .ok (.iaload, 1) := by decide +kernel
theorem dX12_judge_111 : decode cX12_judge 111 = .ok (.if_icmp .ne 7, 3) := by decide +kernel
theorem dX12_judge_114 : decode cX12_judge 114 = .ok (.iconst 1, 1) := by decide +kernel
theorem dX12_judge_115 : decode cX12_judge 115 = .ok (.goto 4, 3) := by decide +kernel
theorem dX12_judge_118 : decode cX12_judge 118 = .ok (.iconst 0, 1) := by decide +kernel
theorem dX12_judge_119 : decode cX12_judge 119 = .ok (.istore_n 3, 1) := by decide +kernel
theorem dX12_judge_120 : decode cX12_judge 120 = .ok (.iload_n 3, 1) := by decide +kernel
theorem dX12_judge_121 : decode cX12_judge 121 = .ok (.ifCond .eq 7, 3) := by decide +kernel
theorem dX12_judge_124 : decode cX12_judge 124 = .ok (.iconst 0, 1) := by decide +kernel
theorem dX12_judge_125 : decode cX12_judge 125 = .ok (.goto 6, 3) := by decide +kernel
theorem dX12_judge_128 : decode cX12_judge 128 = .ok (.iconst 1, 1) := by decide +kernel
theorem dX12_judge_129 : decode cX12_judge 129 = .ok (.iload_n 2, 1) := by decide +kernel
theorem dX12_judge_130 : decode cX12_judge 130 = .ok (.iadd, 1) := by decide +kernel
theorem dX12_judge_131 : decode cX12_judge 131 = .ok (.istore_n 1, 1) := by decide +kernel
theorem dX12_judge_132 : decode cX12_judge 132 = .ok (.iinc 2 1, 3) := by decide +kernel
theorem dX12_judge_135 : decode cX12_judge 135 = .ok (.goto (-127), 3) := by decide +kernel
theorem dX12_judge_138 : decode cX12_judge 138 = .ok (.aload_n 0, 1) := by decide +kernel
theorem dX12_judge_139 : decode cX12_judge 139 = .ok (.invokevirtual 202, 3) := by decide +kernel
theorem dX12_judge_142 : decode cX12_judge 142 = .ok (.iload_n 1, 1) := by decide +kernel
theorem dX12_judge_143 : decode cX12_judge 143 = .ok (.ireturn, 1) := by decide +kernel
theorem dX12_sheet_0 : decode cX12_sheet 0 = .ok (.iload_n 1, 1) := by decide +kernel
theorem dX12_sheet_1 : decode cX12_sheet 1 = .ok (.invokestatic 281, 3) := by decide +kernel
theorem dX12_sheet_4 : decode cX12_sheet 4 = .ok (.ifCond .eq 22, 3) := by decide +kernel
theorem dX12_sheet_7 : decode cX12_sheet 7 = .ok (.iload_n 2, 1) := by decide +kernel
theorem dX12_sheet_8 : decode cX12_sheet 8 = .ok (.iconst (-1), 1) := by decide +kernel
theorem dX12_sheet_9 : decode cX12_sheet 9 = .ok (.iconst 4, 1) := by decide +kernel
theorem dX12_sheet_10 : decode cX12_sheet 10 = .ok (.invokestatic 61, 3) := by decide +kernel
theorem dX12_sheet_13 : decode cX12_sheet 13 = .ok (.ifCond .eq 13, 3) := by decide +kernel
theorem dX12_sheet_16 : decode cX12_sheet 16 = .ok (.iload_n 2, 1) := by decide +kernel
theorem dX12_sheet_17 : decode cX12_sheet 17 = .ok (.ifCond .lt 11, 3) := by decide +kernel
theorem dX12_sheet_20 : decode cX12_sheet 20 = .ok (.iload_n 3, 1) := by decide +kernel
theorem dX12_sheet_21 : decode cX12_sheet 21 = .ok (.bipush 40, 2) := by decide +kernel
theorem dX12_sheet_23 : decode cX12_sheet 23 = .ok (.if_icmp .le 5, 3) := by decide +kernel
theorem dX12_sheet_26 : decode cX12_sheet 26 = .ok (.iconst (-1), 1) := by decide +kernel
theorem dX12_sheet_27 : decode cX12_sheet 27 = .ok (.ireturn, 1) := by decide +kernel
theorem dX12_sheet_28 : decode cX12_sheet 28 = .ok (.iload_n 2, 1) := by decide +kernel
theorem dX12_sheet_29 : decode cX12_sheet 29 = .ok (.ifCond .lt 10, 3) := by decide +kernel
theorem dX12_sheet_32 : decode cX12_sheet 32 = .ok (.iload_n 3, 1) := by decide +kernel
theorem dX12_sheet_33 : decode cX12_sheet 33 = .ok (.ifCond .ge 6, 3) := by decide +kernel
theorem dX12_sheet_36 : decode cX12_sheet 36 = .ok (.bipush (-14), 2) := by decide +kernel
theorem dX12_sheet_38 : decode cX12_sheet 38 = .ok (.ireturn, 1) := by decide +kernel
theorem dX12_sheet_39 : decode cX12_sheet 39 = .ok (.aload_n 0, 1) := by decide +kernel
theorem dX12_sheet_40 : decode cX12_sheet 40 = .ok (.getfield 35, 3) := by decide +kernel
theorem dX12_sheet_43 : decode cX12_sheet 43 = .ok (.iload_n 1, 1) := by decide +kernel
theorem dX12_sheet_44 : decode cX12_sheet 44 = .ok (.iload_n 2, 1) := by decide +kernel
theorem dX12_sheet_45 : decode cX12_sheet 45 = .ok (.iastore, 1) := by decide +kernel
theorem dX12_sheet_46 : decode cX12_sheet 46 = .ok (.aload_n 0, 1) := by decide +kernel
theorem dX12_sheet_47 : decode cX12_sheet 47 = .ok (.getfield 38, 3) := by decide +kernel
theorem dX12_sheet_50 : decode cX12_sheet 50 = .ok (.iload_n 1, 1) := by decide +kernel
theorem dX12_sheet_51 : decode cX12_sheet 51 = .ok (.iload_n 2, 1) := by decide +kernel
theorem dX12_sheet_52 : decode cX12_sheet 52 = .ok (.ifCond .ge 7, 3) := by decide +kernel
theorem dX12_sheet_55 : decode cX12_sheet 55 = .ok (.iconst 0, 1) := by decide +kernel
theorem dX12_sheet_56 : decode cX12_sheet 56 = .ok (.goto 4, 3) := by decide +kernel
theorem dX12_sheet_59 : decode cX12_sheet 59 = .ok (.iload_n 3, 1) := by decide +kernel
theorem dX12_sheet_60 : decode cX12_sheet 60 = .ok (.iastore, 1) := by decide +kernel
theorem dX12_sheet_61 : decode cX12_sheet 61 = .ok (.iconst 0, 1) := by decide +kernel
theorem dX12_sheet_62 : decode cX12_sheet 62 = .ok (.istore 4, 2) := by decide +kernel
theorem dX12_sheet_64 : decode cX12_sheet 64 = .ok (.iload 4, 2) := by decide +kernel
theorem dX12_sheet_66 : decode cX12_sheet 66 = .ok (.bipush 40, 2) := by decide +kernel
theorem dX12_sheet_68 : decode cX12_sheet 68 = .ok (.if_icmp .ge 22, 3) := by decide +kernel
theorem dX12_sheet_71 : decode cX12_sheet 71 = .ok (.aload_n 0, 1) := by decide +kernel
theorem dX12_sheet_72 : decode cX12_sheet 72 = .ok (.getfield 41, 3) := by decide +kernel
theorem dX12_sheet_75 : decode cX12_sheet 75 = .ok (.bipush 40, 2) := by decide +kernel
theorem dX12_sheet_77 : decode cX12_sheet 77 = .ok (.iload_n 1, 1) := by decide +kernel
theorem dX12_sheet_78 : decode cX12_sheet 78 = .ok (.imul, 1) := by decide +kernel
theorem dX12_sheet_79 : decode cX12_sheet 79 = .ok (.iload 4, 2) := by decide +kernel
theorem dX12_sheet_81 : decode cX12_sheet 81 = .ok (.iadd, 1) := by decide +kernel
theorem dX12_sheet_82 : decode cX12_sheet 82 = .ok (.lconst 0, 1) := by decide +kernel
theorem dX12_sheet_83 : decode cX12_sheet 83 = .ok (.lastore, 1) := by decide +kernel
theorem dX12_sheet_84 : decode cX12_sheet 84 = .ok (.iinc 4 1, 3) := by decide +kernel
theorem dX12_sheet_87 : decode cX12_sheet 87 = .ok (.goto (-23), 3) := by decide +kernel
theorem dX12_sheet_90 : decode cX12_sheet 90 = .ok (.iconst 1, 1) := by decide +kernel
theorem dX12_sheet_91 : decode cX12_sheet 91 = .ok (.ireturn, 1) := by decide +kernel
theorem dX12_write_0 : decode cX12_write 0 = .ok (.iload_n 1, 1) := by decide +kernel
theorem dX12_write_1 : decode cX12_write 1 = .ok (.invokestatic 281, 3) := by decide +kernel
theorem dX12_write_4 : decode cX12_write 4 = .ok (.ifCond .ne 5, 3) := by decide +kernel
theorem dX12_write_7 : decode cX12_write 7 = .ok (.iconst (-1), 1) := by decide +kernel
theorem dX12_write_8 : decode cX12_write 8 = .ok (.ireturn, 1) := by decide +kernel
theorem dX12_write_9 : decode cX12_write 9 = .ok (.aload_n 0, 1) := by decide +kernel
theorem dX12_write_10 : decode cX12_write 10 = .ok (.getfield 35, 3) := by decide +kernel
theorem dX12_write_13 : decode cX12_write 13 = .ok (.iload_n 1, 1) := by decide +kernel
theorem dX12_write_14 : decode cX12_write 14 = .ok (.iaload, 1) := by decide +kernel
theorem dX12_write_15 : decode cX12_write 15 = .ok (.ifCond .ge 6, 3) := by decide +kernel
theorem dX12_write_18 : decode cX12_write 18 = .ok (.bipush (-11), 2) := by decide +kernel
theorem dX12_write_20 : decode cX12_write 20 = .ok (.ireturn, 1) := by decide +kernel
theorem dX12_write_21 : decode cX12_write 21 = .ok (.iload_n 2, 1) := by decide +kernel
theorem dX12_write_22 : decode cX12_write 22 = .ok (.iconst 0, 1) := by decide +kernel
theorem dX12_write_23 : decode cX12_write 23 = .ok (.aload_n 0, 1) := by decide +kernel
theorem dX12_write_24 : decode cX12_write 24 = .ok (.getfield 38, 3) := by decide +kernel
theorem dX12_write_27 : decode cX12_write 27 = .ok (.iload_n 1, 1) := by decide +kernel
theorem dX12_write_28 : decode cX12_write 28 = .ok (.iaload, 1) := by decide +kernel
theorem dX12_write_29 : decode cX12_write 29 = .ok (.iconst 1, 1) := by decide +kernel
theorem dX12_write_30 : decode cX12_write 30 = .ok (.isub, 1) := by decide +kernel
theorem dX12_write_31 : decode cX12_write 31 = .ok (.invokestatic 61, 3) := by decide +kernel
theorem dX12_write_34 : decode cX12_write 34 = .ok (.ifCond .ne 6, 3) := by decide +kernel
theorem dX12_write_37 : decode cX12_write 37 = .ok (.bipush (-12), 2) := by decide +kernel
theorem dX12_write_39 : decode cX12_write 39 = .ok (.ireturn, 1) := by decide +kernel
theorem dX12_write_40 : decode cX12_write 40 = .ok (.aload_n 0, 1) := by decide +kernel
theorem dX12_write_41 : decode cX12_write 41 = .ok (.getfield 35, 3) := by decide +kernel
theorem dX12_write_44 : decode cX12_write 44 = .ok (.iload_n 1, 1) := by decide +kernel
theorem dX12_write_45 : decode cX12_write 45 = .ok (.iaload, 1) := by decide +kernel
theorem dX12_write_46 : decode cX12_write 46 = .ok (.istore 4, 2) := by decide +kernel
theorem dX12_write_48 : decode cX12_write 48 = .ok (.aload_n 0, 1) := by decide +kernel
theorem dX12_write_49 : decode cX12_write 49 = .ok (.getfield 41, 3) := by decide +kernel
theorem dX12_write_52 : decode cX12_write 52 = .ok (.bipush 40, 2) := by decide +kernel
theorem dX12_write_54 : decode cX12_write 54 = .ok (.iload_n 1, 1) := by decide +kernel
theorem dX12_write_55 : decode cX12_write 55 = .ok (.imul, 1) := by decide +kernel
theorem dX12_write_56 : decode cX12_write 56 = .ok (.iload_n 2, 1) := by decide +kernel
theorem dX12_write_57 : decode cX12_write 57 = .ok (.iadd, 1) := by decide +kernel
theorem dX12_write_58 : decode cX12_write 58 = .ok (.iload 4, 2) := by decide +kernel
theorem dX12_write_60 : decode cX12_write 60 = .ok (.ifCond .ne 9, 3) := by decide +kernel
theorem dX12_write_63 : decode cX12_write 63 = .ok (.iload_n 3, 1) := by decide +kernel
theorem dX12_write_64 : decode cX12_write 64 = .ok (.i2b, 1) := by decide +kernel
theorem dX12_write_65 : decode cX12_write 65 = .ok (.i2l, 1) := by decide +kernel
theorem dX12_write_66 : decode cX12_write 66 = .ok (.goto 35, 3) := by decide +kernel
theorem dX12_write_69 : decode cX12_write 69 = .ok (.iload 4, 2) := by decide +kernel
theorem dX12_write_71 : decode cX12_write 71 = .ok (.iconst 1, 1) := by decide +kernel
theorem dX12_write_72 : decode cX12_write 72 = .ok (.if_icmp .ne 9, 3) := by decide +kernel
theorem dX12_write_75 : decode cX12_write 75 = .ok (.iload_n 3, 1) := by decide +kernel
theorem dX12_write_76 : decode cX12_write 76 = .ok (.i2s, 1) := by decide +kernel
theorem dX12_write_77 : decode cX12_write 77 = .ok (.i2l, 1) := by decide +kernel
theorem dX12_write_78 : decode cX12_write 78 = .ok (.goto 23, 3) := by decide +kernel
theorem dX12_write_81 : decode cX12_write 81 = .ok (.iload 4, 2) := by decide +kernel
theorem dX12_write_83 : decode cX12_write 83 = .ok (.iconst 4, 1) := by decide +kernel
theorem dX12_write_84 : decode cX12_write 84 = .ok (.if_icmp .ne 15, 3) := by decide +kernel
theorem dX12_write_87 : decode cX12_write 87 = .ok (.iload_n 3, 1) := by decide +kernel
theorem dX12_write_88 : decode cX12_write 88 = .ok (.ifCond .eq 7, 3) := by decide +kernel
theorem dX12_write_91 : decode cX12_write 91 = .ok (.lconst 1, 1) := by decide +kernel
theorem dX12_write_92 : decode cX12_write 92 = .ok (.goto 9, 3) := by decide +kernel
theorem dX12_write_95 : decode cX12_write 95 = .ok (.lconst 0, 1) := by decide +kernel
theorem dX12_write_96 : decode cX12_write 96 = .ok (.goto 5, 3) := by decide +kernel
theorem dX12_write_99 : decode cX12_write 99 = .ok (.iload_n 3, 1) := by decide +kernel
theorem dX12_write_100 : decode cX12_write 100 = .ok (.i2l, 1) := by decide +kernel
theorem dX12_write_101 : decode cX12_write 101 = .ok (.lastore, 1) := by decide +kernel
theorem dX12_write_102 : decode cX12_write 102 = .ok (.iconst 1, 1) := by decide +kernel
theorem dX12_write_103 : decode cX12_write 103 = .ok (.ireturn, 1) := by decide +kernel
theorem dX12_item_0 : decode cX12_item 0 = .ok (.iload_n 1, 1) := by decide +kernel
theorem dX12_item_1 : decode cX12_item 1 = .ok (.invokestatic 281, 3) := by decide +kernel
theorem dX12_item_4 : decode cX12_item 4 = .ok (.ifCond .eq 12, 3) := by decide +kernel
theorem dX12_item_7 : decode cX12_item 7 = .ok (.iload_n 2, 1) := by decide +kernel
theorem dX12_item_8 : decode cX12_item 8 = .ok (.iconst 0, 1) := by decide +kernel
theorem dX12_item_9 : decode cX12_item 9 = .ok (.iconst 4, 1) := by decide +kernel
theorem dX12_item_10 : decode cX12_item 10 = .ok (.invokestatic 61, 3) := by decide +kernel
theorem dX12_item_13 : decode cX12_item 13 = .ok (.ifCond .ne 5, 3) := by decide +kernel
theorem dX12_item_16 : decode cX12_item 16 = .ok (.iconst (-1), 1) := by decide +kernel
theorem dX12_item_17 : decode cX12_item 17 = .ok (.ireturn, 1) := by decide +kernel
theorem dX12_item_18 : decode cX12_item 18 = .ok (.aload_n 0, 1) := by decide +kernel
theorem dX12_item_19 : decode cX12_item 19 = .ok (.getfield 35, 3) := by decide +kernel
theorem dX12_item_22 : decode cX12_item 22 = .ok (.iload_n 1, 1) := by decide +kernel
theorem dX12_item_23 : decode cX12_item 23 = .ok (.iaload, 1) := by decide +kernel
theorem dX12_item_24 : decode cX12_item 24 = .ok (.ifCond .ge 6, 3) := by decide +kernel
theorem dX12_item_27 : decode cX12_item 27 = .ok (.bipush (-11), 2) := by decide +kernel
theorem dX12_item_29 : decode cX12_item 29 = .ok (.ireturn, 1) := by decide +kernel
theorem dX12_item_30 : decode cX12_item 30 = .ok (.aload_n 0, 1) := by decide +kernel
theorem dX12_item_31 : decode cX12_item 31 = .ok (.getfield 35, 3) := by decide +kernel
theorem dX12_item_34 : decode cX12_item 34 = .ok (.iload_n 1, 1) := by decide +kernel
theorem dX12_item_35 : decode cX12_item 35 = .ok (.iaload, 1) := by decide +kernel
theorem dX12_item_36 : decode cX12_item 36 = .ok (.iload_n 2, 1) := by decide +kernel
theorem dX12_item_37 : decode cX12_item 37 = .ok (.if_icmp .eq 6, 3) := by decide +kernel
theorem dX12_item_40 : decode cX12_item 40 = .ok (.bipush (-13), 2) := by decide +kernel
theorem dX12_item_42 : decode cX12_item 42 = .ok (.ireturn, 1) := by decide +kernel
theorem dX12_item_43 : decode cX12_item 43 = .ok (.iload_n 3, 1) := by decide +kernel
theorem dX12_item_44 : decode cX12_item 44 = .ok (.iconst 0, 1) := by decide +kernel
theorem dX12_item_45 : decode cX12_item 45 = .ok (.aload_n 0, 1) := by decide +kernel
theorem dX12_item_46 : decode cX12_item 46 = .ok (.getfield 38, 3) := by decide +kernel
theorem dX12_item_49 : decode cX12_item 49 = .ok (.iload_n 1, 1) := by decide +kernel
theorem dX12_item_50 : decode cX12_item 50 = .ok (.iaload, 1) := by decide +kernel
theorem dX12_item_51 : decode cX12_item 51 = .ok (.iconst 1, 1) := by decide +kernel
theorem dX12_item_52 : decode cX12_item 52 = .ok (.isub, 1) := by decide +kernel
theorem dX12_item_53 : decode cX12_item 53 = .ok (.invokestatic 61, 3) := by decide +kernel
theorem dX12_item_56 : decode cX12_item 56 = .ok (.ifCond .eq 18, 3) := by decide +kernel
theorem dX12_item_59 : decode cX12_item 59 = .ok (.aload_n 0, 1) := by decide +kernel
theorem dX12_item_60 : decode cX12_item 60 = .ok (.getfield 41, 3) := by decide +kernel
theorem dX12_item_63 : decode cX12_item 63 = .ok (.bipush 40, 2) := by decide +kernel
theorem dX12_item_65 : decode cX12_item 65 = .ok (.iload_n 1, 1) := by decide +kernel
theorem dX12_item_66 : decode cX12_item 66 = .ok (.imul, 1) := by decide +kernel
theorem dX12_item_67 : decode cX12_item 67 = .ok (.iload_n 3, 1) := by decide +kernel
theorem dX12_item_68 : decode cX12_item 68 = .ok (.iadd, 1) := by decide +kernel
theorem dX12_item_69 : decode cX12_item 69 = .ok (.laload, 1) := by decide +kernel
theorem dX12_item_70 : decode cX12_item 70 = .ok (.l2i, 1) := by decide +kernel
theorem dX12_item_71 : decode cX12_item 71 = .ok (.goto 5, 3) := by decide +kernel
theorem dX12_item_74 : decode cX12_item 74 = .ok (.bipush (-12), 2) := by decide +kernel
theorem dX12_item_76 : decode cX12_item 76 = .ok (.ireturn, 1) := by decide +kernel
theorem dX12_notActs_0 : decode cX12_notActs 0 = .ok (.iload_n 1, 1) := by decide +kernel
theorem dX12_notActs_1 : decode cX12_notActs 1 = .ok (.invokestatic 281, 3) := by decide +kernel
theorem dX12_notActs_4 : decode cX12_notActs 4 = .ok (.ifCond .eq 13, 3) := by decide +kernel
theorem dX12_notActs_7 : decode cX12_notActs 7 = .ok (.iload_n 2, 1) := by decide +kernel
theorem dX12_notActs_8 : decode cX12_notActs 8 = .ok (.iconst 0, 1) := by decide +kernel
theorem dX12_notActs_9 : decode cX12_notActs 9 = .ok (.bipush 20, 2) := by decide +kernel
theorem dX12_notActs_11 : decode cX12_notActs 11 = .ok (.invokestatic 61, 3) := by decide +kernel
theorem dX12_notActs_14 : decode cX12_notActs 14 = .ok (.ifCond .ne 5, 3) := by decide +kernel
theorem dX12_notActs_17 : decode cX12_notActs 17 = .ok (.iconst (-1), 1) := by decide +kernel
theorem dX12_notActs_18 : decode cX12_notActs 18 = .ok (.ireturn, 1) := by decide +kernel
theorem dX12_notActs_19 : decode cX12_notActs 19 = .ok (.aload_n 0, 1) := by decide +kernel
theorem dX12_notActs_20 : decode cX12_notActs 20 = .ok (.getfield 35, 3) := by decide +kernel
theorem dX12_notActs_23 : decode cX12_notActs 23 = .ok (.iload_n 1, 1) := by decide +kernel
theorem dX12_notActs_24 : decode cX12_notActs 24 = .ok (.iaload, 1) := by decide +kernel
theorem dX12_notActs_25 : decode cX12_notActs 25 = .ok (.ifCond .ge 8, 3) := by decide +kernel
theorem dX12_notActs_28 : decode cX12_notActs 28 = .ok (.bipush (-11), 2) := by decide +kernel
theorem dX12_notActs_30 : decode cX12_notActs 30 = .ok (.goto 18, 3) := by decide +kernel
theorem dX12_notActs_33 : decode cX12_notActs 33 = .ok (.aload_n 0, 1) := by decide +kernel
theorem dX12_notActs_34 : decode cX12_notActs 34 = .ok (.getfield 35, 3) := by decide +kernel
theorem dX12_notActs_37 : decode cX12_notActs 37 = .ok (.iload_n 1, 1) := by decide +kernel
theorem dX12_notActs_38 : decode cX12_notActs 38 = .ok (.iaload, 1) := by decide +kernel
theorem dX12_notActs_39 : decode cX12_notActs 39 = .ok (.ifCond .ne 7, 3) := by decide +kernel
theorem dX12_notActs_42 : decode cX12_notActs 42 = .ok (.iconst 0, 1) := by decide +kernel
theorem dX12_notActs_43 : decode cX12_notActs 43 = .ok (.goto 5, 3) := by decide +kernel
theorem dX12_notActs_46 : decode cX12_notActs 46 = .ok (.bipush (-13), 2) := by decide +kernel
theorem dX12_notActs_48 : decode cX12_notActs 48 = .ok (.ireturn, 1) := by decide +kernel
theorem dX12_isPlace_0 : decode cX12_isPlace 0 = .ok (.lload_n 2, 1) := by decide +kernel
theorem dX12_isPlace_1 : decode cX12_isPlace 1 = .ok (.lconst 0, 1) := by decide +kernel
theorem dX12_isPlace_2 : decode cX12_isPlace 2 = .ok (.lcmp, 1) := by decide +kernel
theorem dX12_isPlace_3 : decode cX12_isPlace 3 = .ok (.ifCond .lt 19, 3) := by decide +kernel
theorem dX12_isPlace_6 : decode cX12_isPlace 6 = .ok (.lload_n 2, 1) := by decide +kernel
theorem dX12_isPlace_7 : decode cX12_isPlace 7 = .ok (.aload_n 0, 1) := by decide +kernel
theorem dX12_isPlace_8 : decode cX12_isPlace 8 = .ok (.getfield 38, 3) := by decide +kernel
theorem dX12_isPlace_11 : decode cX12_isPlace 11 = .ok (.iload_n 1, 1) := by decide +kernel
theorem dX12_isPlace_12 : decode cX12_isPlace 12 = .ok (.iaload, 1) := by decide +kernel
theorem dX12_isPlace_13 : decode cX12_isPlace 13 = .ok (.i2l, 1) := by decide +kernel
theorem dX12_isPlace_14 : decode cX12_isPlace 14 = .ok (.lcmp, 1) := by decide +kernel
theorem dX12_isPlace_15 : decode cX12_isPlace 15 = .ok (.ifCond .ge 7, 3) := by decide +kernel
theorem dX12_isPlace_18 : decode cX12_isPlace 18 = .ok (.iconst 1, 1) := by decide +kernel
theorem dX12_isPlace_19 : decode cX12_isPlace 19 = .ok (.goto 4, 3) := by decide +kernel
theorem dX12_isPlace_22 : decode cX12_isPlace 22 = .ok (.iconst 0, 1) := by decide +kernel
theorem dX12_isPlace_23 : decode cX12_isPlace 23 = .ok (.ireturn, 1) := by decide +kernel
theorem dX12_goAll_0 : decode cX12_goAll 0 = .ok (.aload_n 0, 1) := by decide +kernel
theorem dX12_goAll_1 : decode cX12_goAll 1 = .ok (.iload_n 1, 1) := by decide +kernel
theorem dX12_goAll_2 : decode cX12_goAll 2 = .ok (.iload_n 3, 1) := by decide +kernel
theorem dX12_goAll_3 : decode cX12_goAll 3 = .ok (.invokevirtual 297, 3) := by decide +kernel
theorem dX12_goAll_6 : decode cX12_goAll 6 = .ok (.istore 4, 2) := by decide +kernel
theorem dX12_goAll_8 : decode cX12_goAll 8 = .ok (.iload 4, 2) := by decide +kernel
theorem dX12_goAll_10 : decode cX12_goAll 10 = .ok (.ifCond .eq 6, 3) := by decide +kernel
theorem dX12_goAll_13 : decode cX12_goAll 13 = .ok (.iload 4, 2) := by decide +kernel
theorem dX12_goAll_15 : decode cX12_goAll 15 = .ok (.ireturn, 1) := by decide +kernel
theorem dX12_goAll_16 : decode cX12_goAll 16 = .ok (.iconst 0, 1) := by decide +kernel
theorem dX12_goAll_17 : decode cX12_goAll 17 = .ok (.istore 5, 2) := by decide +kernel
theorem dX12_goAll_19 : decode cX12_goAll 19 = .ok (.iconst 0, 1) := by decide +kernel
theorem dX12_goAll_20 : decode cX12_goAll 20 = .ok (.istore 6, 2) := by decide +kernel
theorem dX12_goAll_22 : decode cX12_goAll 22 = .ok (.iload 6, 2) := by decide +kernel
theorem dX12_goAll_24 : decode cX12_goAll 24 = .ok (.iload_n 3, 1) := by decide +kernel
theorem dX12_goAll_25 : decode cX12_goAll 25 = .ok (.if_icmp .ge 82, 3) := by decide +kernel
theorem dX12_goAll_28 : decode cX12_goAll 28 = .ok (.aload_n 0, 1) := by decide +kernel
theorem dX12_goAll_29 : decode cX12_goAll 29 = .ok (.iload_n 1, 1) := by decide +kernel
theorem dX12_goAll_30 : decode cX12_goAll 30 = .ok (.iload_n 2, 1) := by decide +kernel
theorem dX12_goAll_31 : decode cX12_goAll 31 = .ok (.i2l, 1) := by decide +kernel
theorem dX12_goAll_32 : decode cX12_goAll 32 = .ok (.iload 6, 2) := by decide +kernel
theorem dX12_goAll_34 : decode cX12_goAll 34 = .ok (.i2l, 1) := by decide +kernel
theorem dX12_goAll_35 : decode cX12_goAll 35 = .ok (.ladd, 1) := by decide +kernel
theorem dX12_goAll_36 : decode cX12_goAll 36 = .ok (.invokevirtual 300, 3) := by decide +kernel
theorem dX12_goAll_39 : decode cX12_goAll 39 = .ok (.ifCond .ne 6, 3) := by decide +kernel
theorem dX12_goAll_42 : decode cX12_goAll 42 = .ok (.bipush (-12), 2) := by decide +kernel
theorem dX12_goAll_44 : decode cX12_goAll 44 = .ok (.ireturn, 1) := by decide +kernel
theorem dX12_goAll_45 : decode cX12_goAll 45 = .ok (.aload_n 0, 1) := by decide +kernel
theorem dX12_goAll_46 : decode cX12_goAll 46 = .ok (.getfield 41, 3) := by decide +kernel
theorem dX12_goAll_49 : decode cX12_goAll 49 = .ok (.bipush 40, 2) := by decide +kernel
theorem dX12_goAll_51 : decode cX12_goAll 51 = .ok (.iload_n 1, 1) := by decide +kernel
theorem dX12_goAll_52 : decode cX12_goAll 52 = .ok (.imul, 1) := by decide +kernel
theorem dX12_goAll_53 : decode cX12_goAll 53 = .ok (.iload_n 2, 1) := by decide +kernel
theorem dX12_goAll_54 : decode cX12_goAll 54 = .ok (.iadd, 1) := by decide +kernel
theorem dX12_goAll_55 : decode cX12_goAll 55 = .ok (.iload 6, 2) := by decide +kernel
theorem dX12_goAll_57 : decode cX12_goAll 57 = .ok (.iadd, 1) := by decide +kernel
theorem dX12_goAll_58 : decode cX12_goAll 58 = .ok (.laload, 1) := by decide +kernel
theorem dX12_goAll_59 : decode cX12_goAll 59 = .ok (.l2i, 1) := by decide +kernel
theorem dX12_goAll_60 : decode cX12_goAll 60 = .ok (.istore 7, 2) := by decide +kernel
theorem dX12_goAll_62 : decode cX12_goAll 62 = .ok (.iload 5, 2) := by decide +kernel
theorem dX12_goAll_64 : decode cX12_goAll 64 = .ok (.iload 7, 2) := by decide +kernel
theorem dX12_goAll_66 : decode cX12_goAll 66 = .ok (.iconst 0, 1) := by decide +kernel
theorem dX12_goAll_67 : decode cX12_goAll 67 = .ok (.aload_n 0, 1) := by decide +kernel
theorem dX12_goAll_68 : decode cX12_goAll 68 = .ok (.getfield 9, 3) := by decide +kernel
theorem dX12_goAll_71 : decode cX12_goAll 71 = .ok (.iconst 4, 1) := by decide +kernel
theorem dX12_goAll_72 : decode cX12_goAll 72 = .ok (.iaload, 1) := by decide +kernel
theorem dX12_goAll_73 : decode cX12_goAll 73 = .ok (.invokestatic 61, 3) := by decide +kernel
theorem dX12_goAll_76 : decode cX12_goAll 76 = .ok (.ifCond .eq 21, 3) := by decide +kernel
theorem dX12_goAll_79 : decode cX12_goAll 79 = .ok (.aload_n 0, 1) := by decide +kernel
theorem dX12_goAll_80 : decode cX12_goAll 80 = .ok (.invokevirtual 121, 3) := by decide +kernel
theorem dX12_goAll_83 : decode cX12_goAll 83 = .ok (.ifCond .ne 14, 3) := by decide +kernel
theorem dX12_goAll_86 : decode cX12_goAll 86 = .ok (.aload_n 0, 1) := by decide +kernel
theorem dX12_goAll_87 : decode cX12_goAll 87 = .ok (.iload 7, 2) := by decide +kernel
theorem dX12_goAll_89 : decode cX12_goAll 89 = .ok (.iconst 1, 1) := by decide +kernel
theorem dX12_goAll_90 : decode cX12_goAll 90 = .ok (.isub, 1) := by decide +kernel
theorem dX12_goAll_91 : decode cX12_goAll 91 = .ok (.invokevirtual 226, 3) := by decide +kernel
theorem dX12_goAll_94 : decode cX12_goAll 94 = .ok (.goto 4, 3) := by decide +kernel
theorem dX12_goAll_97 : decode cX12_goAll 97 = .ok (.iconst 0, 1) := by decide +kernel
theorem dX12_goAll_98 : decode cX12_goAll 98 = .ok (.iadd, 1) := by decide +kernel
theorem dX12_goAll_99 : decode cX12_goAll 99 = .ok (.istore 5, 2) := by decide +kernel
theorem dX12_goAll_101 : decode cX12_goAll 101 = .ok (.iinc 6 1, 3) := by decide +kernel
theorem dX12_goAll_104 : decode cX12_goAll 104 = .ok (.goto (-82), 3) := by decide +kernel
theorem dX12_goAll_107 : decode cX12_goAll 107 = .ok (.iload 5, 2) := by decide +kernel
theorem dX12_goAll_109 : decode cX12_goAll 109 = .ok (.ireturn, 1) := by decide +kernel
theorem dX12_wouldBe_0 : decode cX12_wouldBe 0 = .ok (.aload_n 0, 1) := by decide +kernel
theorem dX12_wouldBe_1 : decode cX12_wouldBe 1 = .ok (.iload_n 1, 1) := by decide +kernel
theorem dX12_wouldBe_2 : decode cX12_wouldBe 2 = .ok (.iload_n 3, 1) := by decide +kernel
theorem dX12_wouldBe_3 : decode cX12_wouldBe 3 = .ok (.invokevirtual 297, 3) := by decide +kernel
theorem dX12_wouldBe_6 : decode cX12_wouldBe 6 = .ok (.istore 4, 2) := by decide +kernel
theorem dX12_wouldBe_8 : decode cX12_wouldBe 8 = .ok (.iload 4, 2) := by decide +kernel
theorem dX12_wouldBe_10 : decode cX12_wouldBe 10 = .ok (.ifCond .eq 6, 3) := by decide +kernel
theorem dX12_wouldBe_13 : decode cX12_wouldBe 13 = .ok (.iload 4, 2) := by decide +kernel
theorem dX12_wouldBe_15 : decode cX12_wouldBe 15 = .ok (.ireturn, 1) := by decide +kernel
theorem dX12_wouldBe_16 : decode cX12_wouldBe 16 = .ok (.aload_n 0, 1) := by decide +kernel
theorem dX12_wouldBe_17 : decode cX12_wouldBe 17 = .ok (.invokevirtual 196, 3) := by decide +kernel
theorem dX12_wouldBe_20 : decode cX12_wouldBe 20 = .ok (.iconst 0, 1) := by decide +kernel
theorem dX12_wouldBe_21 : decode cX12_wouldBe 21 = .ok (.istore 5, 2) := by decide +kernel
theorem dX12_wouldBe_23 : decode cX12_wouldBe 23 = .ok (.iconst 0, 1) := by decide +kernel
theorem dX12_wouldBe_24 : decode cX12_wouldBe 24 = .ok (.istore 6, 2) := by decide +kernel
theorem dX12_wouldBe_26 : decode cX12_wouldBe 26 = .ok (.iload 6, 2) := by decide +kernel
theorem dX12_wouldBe_28 : decode cX12_wouldBe 28 = .ok (.iload_n 3, 1) := by decide +kernel
theorem dX12_wouldBe_29 : decode cX12_wouldBe 29 = .ok (.if_icmp .ge 115, 3) := by decide +kernel
theorem dX12_wouldBe_32 : decode cX12_wouldBe 32 = .ok (.iload 4, 2) := by decide +kernel
theorem dX12_wouldBe_34 : decode cX12_wouldBe 34 = .ok (.ifCond .ne 110, 3) := by decide +kernel
theorem dX12_wouldBe_37 : decode cX12_wouldBe 37 = .ok (.aload_n 0, 1) := by decide +kernel
theorem dX12_wouldBe_38 : decode cX12_wouldBe 38 = .ok (.iload_n 1, 1) := by decide +kernel
theorem dX12_wouldBe_39 : decode cX12_wouldBe 39 = .ok (.iload_n 2, 1) := by decide +kernel
theorem dX12_wouldBe_40 : decode cX12_wouldBe 40 = .ok (.i2l, 1) := by decide +kernel
theorem dX12_wouldBe_41 : decode cX12_wouldBe 41 = .ok (.iload 6, 2) := by decide +kernel
theorem dX12_wouldBe_43 : decode cX12_wouldBe 43 = .ok (.i2l, 1) := by decide +kernel
theorem dX12_wouldBe_44 : decode cX12_wouldBe 44 = .ok (.ladd, 1) := by decide +kernel
theorem dX12_wouldBe_45 : decode cX12_wouldBe 45 = .ok (.invokevirtual 300, 3) := by decide +kernel
theorem dX12_wouldBe_48 : decode cX12_wouldBe 48 = .ok (.istore 7, 2) := by decide +kernel
theorem dX12_wouldBe_50 : decode cX12_wouldBe 50 = .ok (.iload 7, 2) := by decide +kernel
theorem dX12_wouldBe_52 : decode cX12_wouldBe 52 = .ok (.ifCond .eq 21, 3) := by decide +kernel
theorem dX12_wouldBe_55 : decode cX12_wouldBe 55 = .ok (.aload_n 0, 1) := by decide +kernel
theorem dX12_wouldBe_56 : decode cX12_wouldBe 56 = .ok (.getfield 41, 3) := by decide +kernel
theorem dX12_wouldBe_59 : decode cX12_wouldBe 59 = .ok (.bipush 40, 2) := by decide +kernel
theorem dX12_wouldBe_61 : decode cX12_wouldBe 61 = .ok (.iload_n 1, 1) := by decide +kernel
theorem dX12_wouldBe_62 : decode cX12_wouldBe 62 = .ok (.imul, 1) := by decide +kernel
theorem dX12_wouldBe_63 : decode cX12_wouldBe 63 = .ok (.iload_n 2, 1) := by decide +kernel
theorem dX12_wouldBe_64 : decode cX12_wouldBe 64 = .ok (.iadd, 1) := by decide +kernel
theorem dX12_wouldBe_65 : decode cX12_wouldBe 65 = .ok (.iload 6, 2) := by decide +kernel
theorem dX12_wouldBe_67 : decode cX12_wouldBe 67 = .ok (.iadd, 1) := by decide +kernel
theorem dX12_wouldBe_68 : decode cX12_wouldBe 68 = .ok (.laload, 1) := by decide +kernel
theorem dX12_wouldBe_69 : decode cX12_wouldBe 69 = .ok (.l2i, 1) := by decide +kernel
theorem dX12_wouldBe_70 : decode cX12_wouldBe 70 = .ok (.goto 4, 3) := by decide +kernel
theorem dX12_wouldBe_73 : decode cX12_wouldBe 73 = .ok (.iconst 0, 1) := by decide +kernel
theorem dX12_wouldBe_74 : decode cX12_wouldBe 74 = .ok (.istore 8, 2) := by decide +kernel
theorem dX12_wouldBe_76 : decode cX12_wouldBe 76 = .ok (.iload 7, 2) := by decide +kernel
theorem dX12_wouldBe_78 : decode cX12_wouldBe 78 = .ok (.ifCond .ne 8, 3) := by decide +kernel
theorem dX12_wouldBe_81 : decode cX12_wouldBe 81 = .ok (.bipush (-12), 2) := by decide +kernel
theorem dX12_wouldBe_83 : decode cX12_wouldBe 83 = .ok (.goto 31, 3) := by decide +kernel
theorem dX12_wouldBe_86 : decode cX12_wouldBe 86 = .ok (.aload_n 0, 1) := by decide +kernel
theorem dX12_wouldBe_87 : decode cX12_wouldBe 87 = .ok (.invokevirtual 121, 3) := by decide +kernel
theorem dX12_wouldBe_90 : decode cX12_wouldBe 90 = .ok (.ifCond .ne 18, 3) := by decide +kernel
theorem dX12_wouldBe_93 : decode cX12_wouldBe 93 = .ok (.iload 8, 2) := by decide +kernel
theorem dX12_wouldBe_95 : decode cX12_wouldBe 95 = .ok (.iconst 0, 1) := by decide +kernel
theorem dX12_wouldBe_96 : decode cX12_wouldBe 96 = .ok (.aload_n 0, 1) := by decide +kernel
theorem dX12_wouldBe_97 : decode cX12_wouldBe 97 = .ok (.getfield 9, 3) := by decide +kernel
theorem dX12_wouldBe_100 : decode cX12_wouldBe 100 = .ok (.iconst 4, 1) := by decide +kernel
theorem dX12_wouldBe_101 : decode cX12_wouldBe 101 = .ok (.iaload, 1) := by decide +kernel
theorem dX12_wouldBe_102 : decode cX12_wouldBe 102 = .ok (.invokestatic 61, 3) := by decide +kernel
theorem dX12_wouldBe_105 : decode cX12_wouldBe 105 = .ok (.ifCond .ne 8, 3) := by decide +kernel
theorem dX12_wouldBe_108 : decode cX12_wouldBe 108 = .ok (.bipush (-4), 2) := by decide +kernel
theorem dX12_wouldBe_110 : decode cX12_wouldBe 110 = .ok (.goto 4, 3) := by decide +kernel
theorem dX12_wouldBe_113 : decode cX12_wouldBe 113 = .ok (.iconst 0, 1) := by decide +kernel
theorem dX12_wouldBe_114 : decode cX12_wouldBe 114 = .ok (.istore 4, 2) := by decide +kernel
theorem dX12_wouldBe_116 : decode cX12_wouldBe 116 = .ok (.iload 5, 2) := by decide +kernel
theorem dX12_wouldBe_118 : decode cX12_wouldBe 118 = .ok (.iload 4, 2) := by decide +kernel
theorem dX12_wouldBe_120 : decode cX12_wouldBe 120 = .ok (.ifCond .ne 14, 3) := by decide +kernel
theorem dX12_wouldBe_123 : decode cX12_wouldBe 123 = .ok (.aload_n 0, 1) := by decide +kernel
theorem dX12_wouldBe_124 : decode cX12_wouldBe 124 = .ok (.iload 8, 2) := by decide +kernel
theorem dX12_wouldBe_126 : decode cX12_wouldBe 126 = .ok (.iconst 1, 1) := by decide +kernel
theorem dX12_wouldBe_127 : decode cX12_wouldBe 127 = .ok (.isub, 1) := by decide +kernel
theorem dX12_wouldBe_128 : decode cX12_wouldBe 128 = .ok (.invokevirtual 226, 3) := by decide +kernel
theorem dX12_wouldBe_131 : decode cX12_wouldBe 131 = .ok (.goto 4, 3) := by decide +kernel
theorem dX12_wouldBe_134 : decode cX12_wouldBe 134 = .ok (.iconst 0, 1) := by decide +kernel
theorem dX12_wouldBe_135 : decode cX12_wouldBe 135 = .ok (.iadd, 1) := by decide +kernel
theorem dX12_wouldBe_136 : decode cX12_wouldBe 136 = .ok (.istore 5, 2) := by decide +kernel
theorem dX12_wouldBe_138 : decode cX12_wouldBe 138 = .ok (.iinc 6 1, 3) := by decide +kernel
theorem dX12_wouldBe_141 : decode cX12_wouldBe 141 = .ok (.goto (-115), 3) := by decide +kernel
theorem dX12_wouldBe_144 : decode cX12_wouldBe 144 = .ok (.aload_n 0, 1) := by decide +kernel
theorem dX12_wouldBe_145 : decode cX12_wouldBe 145 = .ok (.invokevirtual 202, 3) := by decide +kernel
theorem dX12_wouldBe_148 : decode cX12_wouldBe 148 = .ok (.iload 4, 2) := by decide +kernel
theorem dX12_wouldBe_150 : decode cX12_wouldBe 150 = .ok (.ifCond .ne 8, 3) := by decide +kernel
theorem dX12_wouldBe_153 : decode cX12_wouldBe 153 = .ok (.iload 5, 2) := by decide +kernel
theorem dX12_wouldBe_155 : decode cX12_wouldBe 155 = .ok (.goto 5, 3) := by decide +kernel
theorem dX12_wouldBe_158 : decode cX12_wouldBe 158 = .ok (.iload 4, 2) := by decide +kernel
theorem dX12_wouldBe_160 : decode cX12_wouldBe 160 = .ok (.ireturn, 1) := by decide +kernel
theorem dX12_shelf_0 : decode cX12_shelf 0 = .ok (.iload_n 1, 1) := by decide +kernel
theorem dX12_shelf_1 : decode cX12_shelf 1 = .ok (.invokestatic 281, 3) := by decide +kernel
theorem dX12_shelf_4 : decode cX12_shelf 4 = .ok (.ifCond .eq 36, 3) := by decide +kernel
theorem dX12_shelf_7 : decode cX12_shelf 7 = .ok (.iload_n 2, 1) := by decide +kernel
theorem dX12_shelf_8 : decode cX12_shelf 8 = .ok (.iconst 0, 1) := by decide +kernel
theorem dX12_shelf_9 : decode cX12_shelf 9 = .ok (.iconst 2, 1) := by decide +kernel
theorem dX12_shelf_10 : decode cX12_shelf 10 = .ok (.invokestatic 61, 3) := by decide +kernel
theorem dX12_shelf_13 : decode cX12_shelf 13 = .ok (.ifCond .eq 27, 3) := by decide +kernel
theorem dX12_shelf_16 : decode cX12_shelf 16 = .ok (.iload_n 2, 1) := by decide +kernel
theorem dX12_shelf_17 : decode cX12_shelf 17 = .ok (.ifCond .ne 11, 3) := by decide +kernel
theorem dX12_shelf_20 : decode cX12_shelf 20 = .ok (.aload_n 0, 1) := by decide +kernel
theorem dX12_shelf_21 : decode cX12_shelf 21 = .ok (.iload_n 3, 1) := by decide +kernel
theorem dX12_shelf_22 : decode cX12_shelf 22 = .ok (.invokevirtual 109, 3) := by decide +kernel
theorem dX12_shelf_25 : decode cX12_shelf 25 = .ok (.ifCond .eq 15, 3) := by decide +kernel
theorem dX12_shelf_28 : decode cX12_shelf 28 = .ok (.iload_n 2, 1) := by decide +kernel
theorem dX12_shelf_29 : decode cX12_shelf 29 = .ok (.iconst 1, 1) := by decide +kernel
theorem dX12_shelf_30 : decode cX12_shelf 30 = .ok (.if_icmp .ne 12, 3) := by decide +kernel
theorem dX12_shelf_33 : decode cX12_shelf 33 = .ok (.iload_n 3, 1) := by decide +kernel
theorem dX12_shelf_34 : decode cX12_shelf 34 = .ok (.invokestatic 281, 3) := by decide +kernel
theorem dX12_shelf_37 : decode cX12_shelf 37 = .ok (.ifCond .ne 5, 3) := by decide +kernel
theorem dX12_shelf_40 : decode cX12_shelf 40 = .ok (.iconst (-1), 1) := by decide +kernel
theorem dX12_shelf_41 : decode cX12_shelf 41 = .ok (.ireturn, 1) := by decide +kernel
theorem dX12_shelf_42 : decode cX12_shelf 42 = .ok (.iload_n 2, 1) := by decide +kernel
theorem dX12_shelf_43 : decode cX12_shelf 43 = .ok (.iconst 1, 1) := by decide +kernel
theorem dX12_shelf_44 : decode cX12_shelf 44 = .ok (.if_icmp .ne 16, 3) := by decide +kernel
theorem dX12_shelf_47 : decode cX12_shelf 47 = .ok (.aload_n 0, 1) := by decide +kernel
theorem dX12_shelf_48 : decode cX12_shelf 48 = .ok (.getfield 35, 3) := by decide +kernel
theorem dX12_shelf_51 : decode cX12_shelf 51 = .ok (.iload_n 3, 1) := by decide +kernel
theorem dX12_shelf_52 : decode cX12_shelf 52 = .ok (.iaload, 1) := by decide +kernel
theorem dX12_shelf_53 : decode cX12_shelf 53 = .ok (.ifCond .lt 7, 3) := by decide +kernel
theorem dX12_shelf_56 : decode cX12_shelf 56 = .ok (.iconst 1, 1) := by decide +kernel
theorem dX12_shelf_57 : decode cX12_shelf 57 = .ok (.goto 4, 3) := by decide +kernel
theorem dX12_shelf_60 : decode cX12_shelf 60 = .ok (.iconst 0, 1) := by decide +kernel
theorem dX12_shelf_61 : decode cX12_shelf 61 = .ok (.istore 4, 2) := by decide +kernel
theorem dX12_shelf_63 : decode cX12_shelf 63 = .ok (.aload_n 0, 1) := by decide +kernel
theorem dX12_shelf_64 : decode cX12_shelf 64 = .ok (.getfield 45, 3) := by decide +kernel
theorem dX12_shelf_67 : decode cX12_shelf 67 = .ok (.iload_n 1, 1) := by decide +kernel
theorem dX12_shelf_68 : decode cX12_shelf 68 = .ok (.iload_n 2, 1) := by decide +kernel
theorem dX12_shelf_69 : decode cX12_shelf 69 = .ok (.iconst 1, 1) := by decide +kernel
theorem dX12_shelf_70 : decode cX12_shelf 70 = .ok (.if_icmp .ne 12, 3) := by decide +kernel
theorem dX12_shelf_73 : decode cX12_shelf 73 = .ok (.iload 4, 2) := by decide +kernel
theorem dX12_shelf_75 : decode cX12_shelf 75 = .ok (.ifCond .ne 7, 3) := by decide +kernel
theorem dX12_shelf_78 : decode cX12_shelf 78 = .ok (.iconst 2, 1) := by decide +kernel
theorem dX12_shelf_79 : decode cX12_shelf 79 = .ok (.goto 4, 3) := by decide +kernel
theorem dX12_shelf_82 : decode cX12_shelf 82 = .ok (.iload_n 2, 1) := by decide +kernel
theorem dX12_shelf_83 : decode cX12_shelf 83 = .ok (.iastore, 1) := by decide +kernel
theorem dX12_shelf_84 : decode cX12_shelf 84 = .ok (.aload_n 0, 1) := by decide +kernel
theorem dX12_shelf_85 : decode cX12_shelf 85 = .ok (.getfield 48, 3) := by decide +kernel
theorem dX12_shelf_88 : decode cX12_shelf 88 = .ok (.iload_n 1, 1) := by decide +kernel
theorem dX12_shelf_89 : decode cX12_shelf 89 = .ok (.iload 4, 2) := by decide +kernel
theorem dX12_shelf_91 : decode cX12_shelf 91 = .ok (.ifCond .eq 12, 3) := by decide +kernel
theorem dX12_shelf_94 : decode cX12_shelf 94 = .ok (.aload_n 0, 1) := by decide +kernel
theorem dX12_shelf_95 : decode cX12_shelf 95 = .ok (.getfield 35, 3) := by decide +kernel
theorem dX12_shelf_98 : decode cX12_shelf 98 = .ok (.iload_n 3, 1) := by decide +kernel
theorem dX12_shelf_99 : decode cX12_shelf 99 = .ok (.iaload, 1) := by decide +kernel
theorem dX12_shelf_100 : decode cX12_shelf 100 = .ok (.goto 4, 3) := by decide +kernel
theorem dX12_shelf_103 : decode cX12_shelf 103 = .ok (.iload_n 3, 1) := by decide +kernel
theorem dX12_shelf_104 : decode cX12_shelf 104 = .ok (.iastore, 1) := by decide +kernel
theorem dX12_shelf_105 : decode cX12_shelf 105 = .ok (.aload_n 0, 1) := by decide +kernel
theorem dX12_shelf_106 : decode cX12_shelf 106 = .ok (.getfield 51, 3) := by decide +kernel
theorem dX12_shelf_109 : decode cX12_shelf 109 = .ok (.iload_n 1, 1) := by decide +kernel
theorem dX12_shelf_110 : decode cX12_shelf 110 = .ok (.iload 4, 2) := by decide +kernel
theorem dX12_shelf_112 : decode cX12_shelf 112 = .ok (.ifCond .eq 12, 3) := by decide +kernel
theorem dX12_shelf_115 : decode cX12_shelf 115 = .ok (.aload_n 0, 1) := by decide +kernel
theorem dX12_shelf_116 : decode cX12_shelf 116 = .ok (.getfield 38, 3) := by decide +kernel
theorem dX12_shelf_119 : decode cX12_shelf 119 = .ok (.iload_n 3, 1) := by decide +kernel
theorem dX12_shelf_120 : decode cX12_shelf 120 = .ok (.iaload, 1) := by decide +kernel
theorem dX12_shelf_121 : decode cX12_shelf 121 = .ok (.goto 4, 3) := by decide +kernel
theorem dX12_shelf_124 : decode cX12_shelf 124 = .ok (.iconst 0, 1) := by decide +kernel
theorem dX12_shelf_125 : decode cX12_shelf 125 = .ok (.iastore, 1) := by decide +kernel
theorem dX12_shelf_126 : decode cX12_shelf 126 = .ok (.iconst 1, 1) := by decide +kernel
theorem dX12_shelf_127 : decode cX12_shelf 127 = .ok (.ireturn, 1) := by decide +kernel
theorem dX12_hasPiece_0 : decode cX12_hasPiece 0 = .ok (.aload_n 0, 1) := by decide +kernel
theorem dX12_hasPiece_1 : decode cX12_hasPiece 1 = .ok (.getfield 45, 3) := by decide +kernel
theorem dX12_hasPiece_4 : decode cX12_hasPiece 4 = .ok (.iload_n 1, 1) := by decide +kernel
theorem dX12_hasPiece_5 : decode cX12_hasPiece 5 = .ok (.iaload, 1) := by decide +kernel
theorem dX12_hasPiece_6 : decode cX12_hasPiece 6 = .ok (.ifCond .ne 20, 3) := by decide +kernel
theorem dX12_hasPiece_9 : decode cX12_hasPiece 9 = .ok (.aload_n 0, 1) := by decide +kernel
theorem dX12_hasPiece_10 : decode cX12_hasPiece 10 = .ok (.aload_n 0, 1) := by decide +kernel
theorem dX12_hasPiece_11 : decode cX12_hasPiece 11 = .ok (.getfield 48, 3) := by decide +kernel
theorem dX12_hasPiece_14 : decode cX12_hasPiece 14 = .ok (.iload_n 1, 1) := by decide +kernel
theorem dX12_hasPiece_15 : decode cX12_hasPiece 15 = .ok (.iaload, 1) := by decide +kernel
theorem dX12_hasPiece_16 : decode cX12_hasPiece 16 = .ok (.invokevirtual 109, 3) := by decide +kernel
theorem dX12_hasPiece_19 : decode cX12_hasPiece 19 = .ok (.ifCond .eq 7, 3) := by decide +kernel
theorem dX12_hasPiece_22 : decode cX12_hasPiece 22 = .ok (.iconst 1, 1) := by decide +kernel
theorem dX12_hasPiece_23 : decode cX12_hasPiece 23 = .ok (.goto 4, 3) := by decide +kernel
theorem dX12_hasPiece_26 : decode cX12_hasPiece 26 = .ok (.iconst 0, 1) := by decide +kernel
theorem dX12_hasPiece_27 : decode cX12_hasPiece 27 = .ok (.ireturn, 1) := by decide +kernel
theorem dX12_taken_0 : decode cX12_taken 0 = .ok (.iload_n 1, 1) := by decide +kernel
theorem dX12_taken_1 : decode cX12_taken 1 = .ok (.invokestatic 281, 3) := by decide +kernel
theorem dX12_taken_4 : decode cX12_taken 4 = .ok (.ifCond .eq 23, 3) := by decide +kernel
theorem dX12_taken_7 : decode cX12_taken 7 = .ok (.iload_n 2, 1) := by decide +kernel
theorem dX12_taken_8 : decode cX12_taken 8 = .ok (.iconst 0, 1) := by decide +kernel
theorem dX12_taken_9 : decode cX12_taken 9 = .ok (.iconst 5, 1) := by decide +kernel
theorem dX12_taken_10 : decode cX12_taken 10 = .ok (.invokestatic 61, 3) := by decide +kernel
theorem dX12_taken_13 : decode cX12_taken 13 = .ok (.ifCond .ne 16, 3) := by decide +kernel
theorem dX12_taken_16 : decode cX12_taken 16 = .ok (.iload_n 2, 1) := by decide +kernel
theorem dX12_taken_17 : decode cX12_taken 17 = .ok (.bipush 10, 2) := by decide +kernel
theorem dX12_taken_19 : decode cX12_taken 19 = .ok (.bipush 14, 2) := by decide +kernel
theorem dX12_taken_21 : decode cX12_taken 21 = .ok (.invokestatic 61, 3) := by decide +kernel
theorem dX12_taken_24 : decode cX12_taken 24 = .ok (.ifCond .ne 5, 3) := by decide +kernel
theorem dX12_taken_27 : decode cX12_taken 27 = .ok (.iconst (-1), 1) := by decide +kernel
theorem dX12_taken_28 : decode cX12_taken 28 = .ok (.ireturn, 1) := by decide +kernel
theorem dX12_taken_29 : decode cX12_taken 29 = .ok (.aload_n 0, 1) := by decide +kernel
theorem dX12_taken_30 : decode cX12_taken 30 = .ok (.iload_n 1, 1) := by decide +kernel
theorem dX12_taken_31 : decode cX12_taken 31 = .ok (.invokevirtual 304, 3) := by decide +kernel
theorem dX12_taken_34 : decode cX12_taken 34 = .ok (.ifCond .eq 39, 3) := by decide +kernel
theorem dX12_taken_37 : decode cX12_taken 37 = .ok (.iload_n 2, 1) := by decide +kernel
theorem dX12_taken_38 : decode cX12_taken 38 = .ok (.bipush 6, 2) := by decide +kernel
theorem dX12_taken_40 : decode cX12_taken 40 = .ok (.if_icmp .ge 30, 3) := by decide +kernel
theorem dX12_taken_43 : decode cX12_taken 43 = .ok (.aload_n 0, 1) := by decide +kernel
theorem dX12_taken_44 : decode cX12_taken 44 = .ok (.aload_n 0, 1) := by decide +kernel
theorem dX12_taken_45 : decode cX12_taken 45 = .ok (.getfield 48, 3) := by decide +kernel
theorem dX12_taken_48 : decode cX12_taken 48 = .ok (.iload_n 1, 1) := by decide +kernel
theorem dX12_taken_49 : decode cX12_taken 49 = .ok (.iaload, 1) := by decide +kernel
theorem dX12_taken_50 : decode cX12_taken 50 = .ok (.iconst 0, 1) := by decide +kernel
theorem dX12_taken_51 : decode cX12_taken 51 = .ok (.invokevirtual 69, 3) := by decide +kernel
theorem dX12_taken_54 : decode cX12_taken 54 = .ok (.iload_n 2, 1) := by decide +kernel
theorem dX12_taken_55 : decode cX12_taken 55 = .ok (.invokestatic 211, 3) := by decide +kernel
theorem dX12_taken_58 : decode cX12_taken 58 = .ok (.ifCond .eq 12, 3) := by decide +kernel
theorem dX12_taken_61 : decode cX12_taken 61 = .ok (.aload_n 0, 1) := by decide +kernel
theorem dX12_taken_62 : decode cX12_taken 62 = .ok (.getfield 48, 3) := by decide +kernel
theorem dX12_taken_65 : decode cX12_taken 65 = .ok (.iload_n 1, 1) := by decide +kernel
theorem dX12_taken_66 : decode cX12_taken 66 = .ok (.iaload, 1) := by decide +kernel
theorem dX12_taken_67 : decode cX12_taken 67 = .ok (.goto 5, 3) := by decide +kernel
theorem dX12_taken_70 : decode cX12_taken 70 = .ok (.bipush (-13), 2) := by decide +kernel
theorem dX12_taken_72 : decode cX12_taken 72 = .ok (.ireturn, 1) := by decide +kernel
theorem dX12_taken_73 : decode cX12_taken 73 = .ok (.aload_n 0, 1) := by decide +kernel
theorem dX12_taken_74 : decode cX12_taken 74 = .ok (.getfield 45, 3) := by decide +kernel
theorem dX12_taken_77 : decode cX12_taken 77 = .ok (.iload_n 1, 1) := by decide +kernel
theorem dX12_taken_78 : decode cX12_taken 78 = .ok (.iaload, 1) := by decide +kernel
theorem dX12_taken_79 : decode cX12_taken 79 = .ok (.iconst 1, 1) := by decide +kernel
theorem dX12_taken_80 : decode cX12_taken 80 = .ok (.if_icmp .eq 6, 3) := by decide +kernel
theorem dX12_taken_83 : decode cX12_taken 83 = .ok (.bipush (-11), 2) := by decide +kernel
theorem dX12_taken_85 : decode cX12_taken 85 = .ok (.ireturn, 1) := by decide +kernel
theorem dX12_taken_86 : decode cX12_taken 86 = .ok (.iload_n 2, 1) := by decide +kernel
theorem dX12_taken_87 : decode cX12_taken 87 = .ok (.bipush 10, 2) := by decide +kernel
theorem dX12_taken_89 : decode cX12_taken 89 = .ok (.aload_n 0, 1) := by decide +kernel
theorem dX12_taken_90 : decode cX12_taken 90 = .ok (.getfield 48, 3) := by decide +kernel
theorem dX12_taken_93 : decode cX12_taken 93 = .ok (.iload_n 1, 1) := by decide +kernel
theorem dX12_taken_94 : decode cX12_taken 94 = .ok (.iaload, 1) := by decide +kernel
theorem dX12_taken_95 : decode cX12_taken 95 = .ok (.iadd, 1) := by decide +kernel
theorem dX12_taken_96 : decode cX12_taken 96 = .ok (.if_icmp .ne 12, 3) := by decide +kernel
theorem dX12_taken_99 : decode cX12_taken 99 = .ok (.aload_n 0, 1) := by decide +kernel
theorem dX12_taken_100 : decode cX12_taken 100 = .ok (.getfield 51, 3) := by decide +kernel
theorem dX12_taken_103 : decode cX12_taken 103 = .ok (.iload_n 1, 1) := by decide +kernel
theorem dX12_taken_104 : decode cX12_taken 104 = .ok (.iaload, 1) := by decide +kernel
theorem dX12_taken_105 : decode cX12_taken 105 = .ok (.goto 5, 3) := by decide +kernel
theorem dX12_taken_108 : decode cX12_taken 108 = .ok (.bipush (-13), 2) := by decide +kernel
theorem dX12_taken_110 : decode cX12_taken 110 = .ok (.ireturn, 1) := by decide +kernel
theorem dX12_begins_0 : decode cX12_begins 0 = .ok (.aload_n 0, 1) := by decide +kernel
theorem dX12_begins_1 : decode cX12_begins 1 = .ok (.getfield 307, 3) := by decide +kernel
theorem dX12_begins_4 : decode cX12_begins 4 = .ok (.bipush 30, 2) := by decide +kernel
theorem dX12_begins_6 : decode cX12_begins 6 = .ok (.if_icmp .ge 23, 3) := by decide +kernel
theorem dX12_begins_9 : decode cX12_begins 9 = .ok (.aload_n 0, 1) := by decide +kernel
theorem dX12_begins_10 : decode cX12_begins 10 = .ok (.getfield 54, 3) := by decide +kernel
theorem dX12_begins_13 : decode cX12_begins 13 = .ok (.aload_n 0, 1) := by decide +kernel
theorem dX12_begins_14 : decode cX12_begins 14 = .ok (.getfield 307, 3) := by decide +kernel
theorem dX12_begins_17 : decode cX12_begins 17 = .ok (.iload_n 1, 1) := by decide +kernel
theorem dX12_begins_18 : decode cX12_begins 18 = .ok (.iastore, 1) := by decide +kernel
theorem dX12_begins_19 : decode cX12_begins 19 = .ok (.aload_n 0, 1) := by decide +kernel
theorem dX12_begins_20 : decode cX12_begins 20 = .ok (.dup, 1) := by decide +kernel
theorem dX12_begins_21 : decode cX12_begins 21 = .ok (.getfield 307, 3) := by decide +kernel
theorem dX12_begins_24 : decode cX12_begins 24 = .ok (.iconst 1, 1) := by decide +kernel
theorem dX12_begins_25 : decode cX12_begins 25 = .ok (.iadd, 1) := by decide +kernel
theorem dX12_begins_26 : decode cX12_begins 26 = .ok (.putfield 307, 3) := by decide +kernel
theorem dX12_begins_29 : decode cX12_begins 29 = .ok (.return_, 1) := by decide +kernel
theorem dX12_plainTips_0 : decode cX12_plainTips 0 = .ok (.aload_n 0, 1) := by decide +kernel
theorem dX12_plainTips_1 : decode cX12_plainTips 1 = .ok (.bipush 10, 2) := by decide +kernel
theorem dX12_plainTips_3 : decode cX12_plainTips 3 = .ok (.invokevirtual 310, 3) := by decide +kernel
theorem dX12_plainTips_6 : decode cX12_plainTips 6 = .ok (.iload_n 2, 1) := by decide +kernel
theorem dX12_plainTips_7 : decode cX12_plainTips 7 = .ok (.bipush 10, 2) := by decide +kernel
theorem dX12_plainTips_9 : decode cX12_plainTips 9 = .ok (.imul, 1) := by decide +kernel
theorem dX12_plainTips_10 : decode cX12_plainTips 10 = .ok (.iload_n 1, 1) := by decide +kernel
theorem dX12_plainTips_11 : decode cX12_plainTips 11 = .ok (.isub, 1) := by decide +kernel
theorem dX12_plainTips_12 : decode cX12_plainTips 12 = .ok (.ireturn, 1) := by decide +kernel
theorem dX12_tips_0 : decode cX12_tips 0 = .ok (.aload_n 0, 1) := by decide +kernel
theorem dX12_tips_1 : decode cX12_tips 1 = .ok (.iload_n 1, 1) := by decide +kernel
theorem dX12_tips_2 : decode cX12_tips 2 = .ok (.iconst 0, 1) := by decide +kernel
theorem dX12_tips_3 : decode cX12_tips 3 = .ok (.invokevirtual 69, 3) := by decide +kernel
theorem dX12_tips_6 : decode cX12_tips 6 = .ok (.lookupswitch 58 #[(1, 26), (3, 42)], 26) := by decide +kernel
theorem dX12_tips_32 : decode cX12_tips 32 = .ok (.aload_n 0, 1) := by decide +kernel
theorem dX12_tips_33 : decode cX12_tips 33 = .ok (.bipush 20, 2) := by decide +kernel
theorem dX12_tips_35 : decode cX12_tips 35 = .ok (.invokevirtual 310, 3) := by decide +kernel
theorem dX12_tips_38 : decode cX12_tips 38 = .ok (.aload_n 0, 1) := by decide +kernel
theorem dX12_tips_39 : decode cX12_tips 39 = .ok (.iload_n 1, 1) := by decide +kernel
theorem dX12_tips_40 : decode cX12_tips 40 = .ok (.iload_n 2, 1) := by decide +kernel
theorem dX12_tips_41 : decode cX12_tips 41 = .ok (.invokevirtual 313, 3) := by decide +kernel
theorem dX12_tips_44 : decode cX12_tips 44 = .ok (.bipush 30, 2) := by decide +kernel
theorem dX12_tips_46 : decode cX12_tips 46 = .ok (.ixor, 1) := by decide +kernel
theorem dX12_tips_47 : decode cX12_tips 47 = .ok (.ireturn, 1) := by decide +kernel
theorem dX12_tips_48 : decode cX12_tips 48 = .ok (.aload_n 0, 1) := by decide +kernel
theorem dX12_tips_49 : decode cX12_tips 49 = .ok (.bipush 50, 2) := by decide +kernel
theorem dX12_tips_51 : decode cX12_tips 51 = .ok (.invokevirtual 310, 3) := by decide +kernel
theorem dX12_tips_54 : decode cX12_tips 54 = .ok (.aload_n 0, 1) := by decide +kernel
theorem dX12_tips_55 : decode cX12_tips 55 = .ok (.iload_n 1, 1) := by decide +kernel
theorem dX12_tips_56 : decode cX12_tips 56 = .ok (.iload_n 2, 1) := by decide +kernel
theorem dX12_tips_57 : decode cX12_tips 57 = .ok (.bipush 14, 2) := by decide +kernel
theorem dX12_tips_59 : decode cX12_tips 59 = .ok (.isub, 1) := by decide +kernel
theorem dX12_tips_60 : decode cX12_tips 60 = .ok (.invokevirtual 313, 3) := by decide +kernel
theorem dX12_tips_63 : decode cX12_tips 63 = .ok (.ireturn, 1) := by decide +kernel
theorem dX12_tips_64 : decode cX12_tips 64 = .ok (.aload_n 0, 1) := by decide +kernel
theorem dX12_tips_65 : decode cX12_tips 65 = .ok (.iload_n 1, 1) := by decide +kernel
theorem dX12_tips_66 : decode cX12_tips 66 = .ok (.iload_n 2, 1) := by decide +kernel
theorem dX12_tips_67 : decode cX12_tips 67 = .ok (.invokevirtual 313, 3) := by decide +kernel
theorem dX12_tips_70 : decode cX12_tips 70 = .ok (.ireturn, 1) := by decide +kernel
theorem dX12_plainTaps_0 : decode cX12_plainTaps 0 = .ok (.aload_n 0, 1) := by decide +kernel
theorem dX12_plainTaps_1 : decode cX12_plainTaps 1 = .ok (.bipush 11, 2) := by decide +kernel
theorem dX12_plainTaps_3 : decode cX12_plainTaps 3 = .ok (.invokevirtual 310, 3) := by decide +kernel
theorem dX12_plainTaps_6 : decode cX12_plainTaps 6 = .ok (.aload_n 0, 1) := by decide +kernel
theorem dX12_plainTaps_7 : decode cX12_plainTaps 7 = .ok (.iload_n 1, 1) := by decide +kernel
theorem dX12_plainTaps_8 : decode cX12_plainTaps 8 = .ok (.iload_n 2, 1) := by decide +kernel
theorem dX12_plainTaps_9 : decode cX12_plainTaps 9 = .ok (.invokevirtual 316, 3) := by decide +kernel
theorem dX12_plainTaps_12 : decode cX12_plainTaps 12 = .ok (.iconst 3, 1) := by decide +kernel
theorem dX12_plainTaps_13 : decode cX12_plainTaps 13 = .ok (.aload_n 0, 1) := by decide +kernel
theorem dX12_plainTaps_14 : decode cX12_plainTaps 14 = .ok (.iload_n 1, 1) := by decide +kernel
theorem dX12_plainTaps_15 : decode cX12_plainTaps 15 = .ok (.iconst 3, 1) := by decide +kernel
theorem dX12_plainTaps_16 : decode cX12_plainTaps 16 = .ok (.invokevirtual 69, 3) := by decide +kernel
theorem dX12_plainTaps_19 : decode cX12_plainTaps 19 = .ok (.imul, 1) := by decide +kernel
theorem dX12_plainTaps_20 : decode cX12_plainTaps 20 = .ok (.iadd, 1) := by decide +kernel
theorem dX12_plainTaps_21 : decode cX12_plainTaps 21 = .ok (.ireturn, 1) := by decide +kernel
theorem dX12_taps_0 : decode cX12_taps 0 = .ok (.aload_n 0, 1) := by decide +kernel
theorem dX12_taps_1 : decode cX12_taps 1 = .ok (.iload_n 1, 1) := by decide +kernel
theorem dX12_taps_2 : decode cX12_taps 2 = .ok (.iconst 0, 1) := by decide +kernel
theorem dX12_taps_3 : decode cX12_taps 3 = .ok (.invokevirtual 69, 3) := by decide +kernel
theorem dX12_taps_6 : decode cX12_taps 6 = .ok (.tableswitch 59 2 5 #[30, 30, 59, 45], 30) := by decide +kernel
theorem dX12_taps_36 : decode cX12_taps 36 = .ok (.aload_n 0, 1) := by decide +kernel
theorem dX12_taps_37 : decode cX12_taps 37 = .ok (.bipush 30, 2) := by decide +kernel
theorem dX12_taps_39 : decode cX12_taps 39 = .ok (.invokevirtual 310, 3) := by decide +kernel
theorem dX12_taps_42 : decode cX12_taps 42 = .ok (.aload_n 0, 1) := by decide +kernel
theorem dX12_taps_43 : decode cX12_taps 43 = .ok (.iload_n 1, 1) := by decide +kernel
theorem dX12_taps_44 : decode cX12_taps 44 = .ok (.iload_n 2, 1) := by decide +kernel
theorem dX12_taps_45 : decode cX12_taps 45 = .ok (.invokevirtual 319, 3) := by decide +kernel
theorem dX12_taps_48 : decode cX12_taps 48 = .ok (.iconst 2, 1) := by decide +kernel
theorem dX12_taps_49 : decode cX12_taps 49 = .ok (.imul, 1) := by decide +kernel
theorem dX12_taps_50 : decode cX12_taps 50 = .ok (.ireturn, 1) := by decide +kernel
theorem dX12_taps_51 : decode cX12_taps 51 = .ok (.aload_n 0, 1) := by decide +kernel
theorem dX12_taps_52 : decode cX12_taps 52 = .ok (.bipush 60, 2) := by decide +kernel
theorem dX12_taps_54 : decode cX12_taps 54 = .ok (.invokevirtual 310, 3) := by decide +kernel
theorem dX12_taps_57 : decode cX12_taps 57 = .ok (.aload_n 0, 1) := by decide +kernel
theorem dX12_taps_58 : decode cX12_taps 58 = .ok (.iload_n 1, 1) := by decide +kernel
theorem dX12_taps_59 : decode cX12_taps 59 = .ok (.iload_n 2, 1) := by decide +kernel
theorem dX12_taps_60 : decode cX12_taps 60 = .ok (.invokevirtual 319, 3) := by decide +kernel
theorem dX12_taps_63 : decode cX12_taps 63 = .ok (.ineg, 1) := by decide +kernel
theorem dX12_taps_64 : decode cX12_taps 64 = .ok (.ireturn, 1) := by decide +kernel
theorem dX12_taps_65 : decode cX12_taps 65 = .ok (.aload_n 0, 1) := by decide +kernel
theorem dX12_taps_66 : decode cX12_taps 66 = .ok (.iload_n 1, 1) := by decide +kernel
theorem dX12_taps_67 : decode cX12_taps 67 = .ok (.iload_n 2, 1) := by decide +kernel
theorem dX12_taps_68 : decode cX12_taps 68 = .ok (.invokevirtual 319, 3) := by decide +kernel
theorem dX12_taps_71 : decode cX12_taps 71 = .ok (.ireturn, 1) := by decide +kernel
theorem dX12_plainHalves_0 : decode cX12_plainHalves 0 = .ok (.aload_n 0, 1) := by decide +kernel
theorem dX12_plainHalves_1 : decode cX12_plainHalves 1 = .ok (.bipush 12, 2) := by decide +kernel
theorem dX12_plainHalves_3 : decode cX12_plainHalves 3 = .ok (.invokevirtual 310, 3) := by decide +kernel
theorem dX12_plainHalves_6 : decode cX12_plainHalves 6 = .ok (.aload_n 0, 1) := by decide +kernel
theorem dX12_plainHalves_7 : decode cX12_plainHalves 7 = .ok (.iload_n 1, 1) := by decide +kernel
theorem dX12_plainHalves_8 : decode cX12_plainHalves 8 = .ok (.iconst 3, 1) := by decide +kernel
theorem dX12_plainHalves_9 : decode cX12_plainHalves 9 = .ok (.invokevirtual 69, 3) := by decide +kernel
theorem dX12_plainHalves_12 : decode cX12_plainHalves 12 = .ok (.iload_n 1, 1) := by decide +kernel
theorem dX12_plainHalves_13 : decode cX12_plainHalves 13 = .ok (.isub, 1) := by decide +kernel
theorem dX12_plainHalves_14 : decode cX12_plainHalves 14 = .ok (.iconst 4, 1) := by decide +kernel
theorem dX12_plainHalves_15 : decode cX12_plainHalves 15 = .ok (.iadd, 1) := by decide +kernel
theorem dX12_plainHalves_16 : decode cX12_plainHalves 16 = .ok (.istore_n 3, 1) := by decide +kernel
theorem dX12_plainHalves_17 : decode cX12_plainHalves 17 = .ok (.aload_n 0, 1) := by decide +kernel
theorem dX12_plainHalves_18 : decode cX12_plainHalves 18 = .ok (.iload_n 3, 1) := by decide +kernel
theorem dX12_plainHalves_19 : decode cX12_plainHalves 19 = .ok (.ifCond .ne 7, 3) := by decide +kernel
theorem dX12_plainHalves_22 : decode cX12_plainHalves 22 = .ok (.iconst 1, 1) := by decide +kernel
theorem dX12_plainHalves_23 : decode cX12_plainHalves 23 = .ok (.goto 4, 3) := by decide +kernel
theorem dX12_plainHalves_26 : decode cX12_plainHalves 26 = .ok (.iconst 0, 1) := by decide +kernel
theorem dX12_plainHalves_27 : decode cX12_plainHalves 27 = .ok (.putfield 322, 3) := by decide +kernel
theorem dX12_plainHalves_30 : decode cX12_plainHalves 30 = .ok (.aload_n 0, 1) := by decide +kernel
theorem dX12_plainHalves_31 : decode cX12_plainHalves 31 = .ok (.getfield 322, 3) := by decide +kernel
theorem dX12_plainHalves_34 : decode cX12_plainHalves 34 = .ok (.ifCond .eq 7, 3) := by decide +kernel
theorem dX12_plainHalves_37 : decode cX12_plainHalves 37 = .ok (.iconst 0, 1) := by decide +kernel
theorem dX12_plainHalves_38 : decode cX12_plainHalves 38 = .ok (.goto 6, 3) := by decide +kernel
theorem dX12_plainHalves_41 : decode cX12_plainHalves 41 = .ok (.iload_n 2, 1) := by decide +kernel
theorem dX12_plainHalves_42 : decode cX12_plainHalves 42 = .ok (.iload_n 3, 1) := by decide +kernel
theorem dX12_plainHalves_43 : decode cX12_plainHalves 43 = .ok (.idiv, 1) := by decide +kernel
theorem dX12_plainHalves_44 : decode cX12_plainHalves 44 = .ok (.ireturn, 1) := by decide +kernel
theorem dX12_girlHalves_0 : decode cX12_girlHalves 0 = .ok (.aload_n 0, 1) := by decide +kernel
theorem dX12_girlHalves_1 : decode cX12_girlHalves 1 = .ok (.bipush 40, 2) := by decide +kernel
theorem dX12_girlHalves_3 : decode cX12_girlHalves 3 = .ok (.invokevirtual 310, 3) := by decide +kernel
theorem dX12_girlHalves_6 : decode cX12_girlHalves 6 = .ok (.aload_n 0, 1) := by decide +kernel
theorem dX12_girlHalves_7 : decode cX12_girlHalves 7 = .ok (.iload_n 1, 1) := by decide +kernel
theorem dX12_girlHalves_8 : decode cX12_girlHalves 8 = .ok (.iload_n 2, 1) := by decide +kernel
theorem dX12_girlHalves_9 : decode cX12_girlHalves 9 = .ok (.invokevirtual 325, 3) := by decide +kernel
theorem dX12_girlHalves_12 : decode cX12_girlHalves 12 = .ok (.iconst 5, 1) := by decide +kernel
theorem dX12_girlHalves_13 : decode cX12_girlHalves 13 = .ok (.iadd, 1) := by decide +kernel
theorem dX12_girlHalves_14 : decode cX12_girlHalves 14 = .ok (.ireturn, 1) := by decide +kernel
theorem dX12_halves_0 : decode cX12_halves 0 = .ok (.aload_n 0, 1) := by decide +kernel
theorem dX12_halves_1 : decode cX12_halves 1 = .ok (.iload_n 1, 1) := by decide +kernel
theorem dX12_halves_2 : decode cX12_halves 2 = .ok (.iconst 0, 1) := by decide +kernel
theorem dX12_halves_3 : decode cX12_halves 3 = .ok (.invokevirtual 69, 3) := by decide +kernel
theorem dX12_halves_6 : decode cX12_halves 6 = .ok (.lookupswitch 66 #[(4, 26), (5, 33)], 26) := by decide +kernel
theorem dX12_halves_32 : decode cX12_halves 32 = .ok (.aload_n 0, 1) := by decide +kernel
theorem dX12_halves_33 : decode cX12_halves 33 = .ok (.iload_n 1, 1) := by decide +kernel
theorem dX12_halves_34 : decode cX12_halves 34 = .ok (.iload_n 2, 1) := by decide +kernel
theorem dX12_halves_35 : decode cX12_halves 35 = .ok (.invokevirtual 328, 3) := by decide +kernel
theorem dX12_halves_38 : decode cX12_halves 38 = .ok (.ireturn, 1) := by decide +kernel
theorem dX12_halves_39 : decode cX12_halves 39 = .ok (.aload_n 0, 1) := by decide +kernel
theorem dX12_halves_40 : decode cX12_halves 40 = .ok (.bipush 61, 2) := by decide +kernel
theorem dX12_halves_42 : decode cX12_halves 42 = .ok (.invokevirtual 310, 3) := by decide +kernel
theorem dX12_halves_45 : decode cX12_halves 45 = .ok (.aload_n 0, 1) := by decide +kernel
theorem dX12_halves_46 : decode cX12_halves 46 = .ok (.iload_n 1, 1) := by decide +kernel
theorem dX12_halves_47 : decode cX12_halves 47 = .ok (.iload_n 2, 1) := by decide +kernel
theorem dX12_halves_48 : decode cX12_halves 48 = .ok (.invokevirtual 328, 3) := by decide +kernel
theorem dX12_halves_51 : decode cX12_halves 51 = .ok (.istore_n 3, 1) := by decide +kernel
theorem dX12_halves_52 : decode cX12_halves 52 = .ok (.aload_n 0, 1) := by decide +kernel
theorem dX12_halves_53 : decode cX12_halves 53 = .ok (.getfield 322, 3) := by decide +kernel
theorem dX12_halves_56 : decode cX12_halves 56 = .ok (.ifCond .eq 7, 3) := by decide +kernel
theorem dX12_halves_59 : decode cX12_halves 59 = .ok (.iconst 0, 1) := by decide +kernel
theorem dX12_halves_60 : decode cX12_halves 60 = .ok (.goto 11, 3) := by decide +kernel
theorem dX12_halves_63 : decode cX12_halves 63 = .ok (.iload_n 3, 1) := by decide +kernel
theorem dX12_halves_64 : decode cX12_halves 64 = .ok (.aload_n 0, 1) := by decide +kernel
theorem dX12_halves_65 : decode cX12_halves 65 = .ok (.iload_n 1, 1) := by decide +kernel
theorem dX12_halves_66 : decode cX12_halves 66 = .ok (.iload_n 1, 1) := by decide +kernel
theorem dX12_halves_67 : decode cX12_halves 67 = .ok (.invokevirtual 316, 3) := by decide +kernel
theorem dX12_halves_70 : decode cX12_halves 70 = .ok (.iadd, 1) := by decide +kernel
theorem dX12_halves_71 : decode cX12_halves 71 = .ok (.ireturn, 1) := by decide +kernel
theorem dX12_halves_72 : decode cX12_halves 72 = .ok (.aload_n 0, 1) := by decide +kernel
theorem dX12_halves_73 : decode cX12_halves 73 = .ok (.iload_n 1, 1) := by decide +kernel
theorem dX12_halves_74 : decode cX12_halves 74 = .ok (.iload_n 2, 1) := by decide +kernel
theorem dX12_halves_75 : decode cX12_halves 75 = .ok (.invokevirtual 325, 3) := by decide +kernel
theorem dX12_halves_78 : decode cX12_halves 78 = .ok (.ireturn, 1) := by decide +kernel
theorem dX12_plainTurns_0 : decode cX12_plainTurns 0 = .ok (.aload_n 0, 1) := by decide +kernel
theorem dX12_plainTurns_1 : decode cX12_plainTurns 1 = .ok (.bipush 13, 2) := by decide +kernel
theorem dX12_plainTurns_3 : decode cX12_plainTurns 3 = .ok (.invokevirtual 310, 3) := by decide +kernel
theorem dX12_plainTurns_6 : decode cX12_plainTurns 6 = .ok (.aload_n 0, 1) := by decide +kernel
theorem dX12_plainTurns_7 : decode cX12_plainTurns 7 = .ok (.iload_n 1, 1) := by decide +kernel
theorem dX12_plainTurns_8 : decode cX12_plainTurns 8 = .ok (.iload_n 2, 1) := by decide +kernel
theorem dX12_plainTurns_9 : decode cX12_plainTurns 9 = .ok (.invokevirtual 331, 3) := by decide +kernel
theorem dX12_plainTurns_12 : decode cX12_plainTurns 12 = .ok (.istore_n 3, 1) := by decide +kernel
theorem dX12_plainTurns_13 : decode cX12_plainTurns 13 = .ok (.iload_n 3, 1) := by decide +kernel
theorem dX12_plainTurns_14 : decode cX12_plainTurns 14 = .ok (.aload_n 0, 1) := by decide +kernel
theorem dX12_plainTurns_15 : decode cX12_plainTurns 15 = .ok (.iload_n 1, 1) := by decide +kernel
theorem dX12_plainTurns_16 : decode cX12_plainTurns 16 = .ok (.iload_n 2, 1) := by decide +kernel
theorem dX12_plainTurns_17 : decode cX12_plainTurns 17 = .ok (.invokevirtual 334, 3) := by decide +kernel
theorem dX12_plainTurns_20 : decode cX12_plainTurns 20 = .ok (.ixor, 1) := by decide +kernel
theorem dX12_plainTurns_21 : decode cX12_plainTurns 21 = .ok (.ireturn, 1) := by decide +kernel
theorem dX12_turns_0 : decode cX12_turns 0 = .ok (.aload_n 0, 1) := by decide +kernel
theorem dX12_turns_1 : decode cX12_turns 1 = .ok (.iload_n 1, 1) := by decide +kernel
theorem dX12_turns_2 : decode cX12_turns 2 = .ok (.iconst 0, 1) := by decide +kernel
theorem dX12_turns_3 : decode cX12_turns 3 = .ok (.invokevirtual 69, 3) := by decide +kernel
theorem dX12_turns_6 : decode cX12_turns 6 = .ok (.iconst 3, 1) := by decide +kernel
theorem dX12_turns_7 : decode cX12_turns 7 = .ok (.if_icmp .eq 10, 3) := by decide +kernel
theorem dX12_turns_10 : decode cX12_turns 10 = .ok (.aload_n 0, 1) := by decide +kernel
theorem dX12_turns_11 : decode cX12_turns 11 = .ok (.iload_n 1, 1) := by decide +kernel
theorem dX12_turns_12 : decode cX12_turns 12 = .ok (.iload_n 2, 1) := by decide +kernel
theorem dX12_turns_13 : decode cX12_turns 13 = .ok (.invokevirtual 337, 3) := by decide +kernel
theorem dX12_turns_16 : decode cX12_turns 16 = .ok (.ireturn, 1) := by decide +kernel
theorem dX12_turns_17 : decode cX12_turns 17 = .ok (.aload_n 0, 1) := by decide +kernel
theorem dX12_turns_18 : decode cX12_turns 18 = .ok (.bipush 51, 2) := by decide +kernel
theorem dX12_turns_20 : decode cX12_turns 20 = .ok (.invokevirtual 310, 3) := by decide +kernel
theorem dX12_turns_23 : decode cX12_turns 23 = .ok (.aload_n 0, 1) := by decide +kernel
theorem dX12_turns_24 : decode cX12_turns 24 = .ok (.iload_n 1, 1) := by decide +kernel
theorem dX12_turns_25 : decode cX12_turns 25 = .ok (.iload_n 2, 1) := by decide +kernel
theorem dX12_turns_26 : decode cX12_turns 26 = .ok (.invokevirtual 337, 3) := by decide +kernel
theorem dX12_turns_29 : decode cX12_turns 29 = .ok (.istore_n 3, 1) := by decide +kernel
theorem dX12_turns_30 : decode cX12_turns 30 = .ok (.aload_n 0, 1) := by decide +kernel
theorem dX12_turns_31 : decode cX12_turns 31 = .ok (.getfield 322, 3) := by decide +kernel
theorem dX12_turns_34 : decode cX12_turns 34 = .ok (.ifCond .eq 7, 3) := by decide +kernel
theorem dX12_turns_37 : decode cX12_turns 37 = .ok (.iconst 0, 1) := by decide +kernel
theorem dX12_turns_38 : decode cX12_turns 38 = .ok (.goto 16, 3) := by decide +kernel
theorem dX12_turns_41 : decode cX12_turns 41 = .ok (.iload_n 3, 1) := by decide +kernel
theorem dX12_turns_42 : decode cX12_turns 42 = .ok (.aload_n 0, 1) := by decide +kernel
theorem dX12_turns_43 : decode cX12_turns 43 = .ok (.iload_n 1, 1) := by decide +kernel
theorem dX12_turns_44 : decode cX12_turns 44 = .ok (.aload_n 0, 1) := by decide +kernel
theorem dX12_turns_45 : decode cX12_turns 45 = .ok (.iload_n 1, 1) := by decide +kernel
theorem dX12_turns_46 : decode cX12_turns 46 = .ok (.iconst 3, 1) := by decide +kernel
theorem dX12_turns_47 : decode cX12_turns 47 = .ok (.invokevirtual 69, 3) := by decide +kernel
theorem dX12_turns_50 : decode cX12_turns 50 = .ok (.invokevirtual 331, 3) := by decide +kernel
theorem dX12_turns_53 : decode cX12_turns 53 = .ok (.isub, 1) := by decide +kernel
theorem dX12_turns_54 : decode cX12_turns 54 = .ok (.ireturn, 1) := by decide +kernel
theorem dX12_act_0 : decode cX12_act 0 = .ok (.aload_n 0, 1) := by decide +kernel
theorem dX12_act_1 : decode cX12_act 1 = .ok (.iconst 0, 1) := by decide +kernel
theorem dX12_act_2 : decode cX12_act 2 = .ok (.putfield 307, 3) := by decide +kernel
theorem dX12_act_5 : decode cX12_act 5 = .ok (.iload_n 1, 1) := by decide +kernel
theorem dX12_act_6 : decode cX12_act 6 = .ok (.invokestatic 281, 3) := by decide +kernel
theorem dX12_act_9 : decode cX12_act 9 = .ok (.ifCond .eq 20, 3) := by decide +kernel
theorem dX12_act_12 : decode cX12_act 12 = .ok (.iload_n 2, 1) := by decide +kernel
theorem dX12_act_13 : decode cX12_act 13 = .ok (.iconst 0, 1) := by decide +kernel
theorem dX12_act_14 : decode cX12_act 14 = .ok (.iconst 3, 1) := by decide +kernel
theorem dX12_act_15 : decode cX12_act 15 = .ok (.invokestatic 61, 3) := by decide +kernel
theorem dX12_act_18 : decode cX12_act 18 = .ok (.ifCond .eq 11, 3) := by decide +kernel
theorem dX12_act_21 : decode cX12_act 21 = .ok (.aload_n 0, 1) := by decide +kernel
theorem dX12_act_22 : decode cX12_act 22 = .ok (.iload_n 1, 1) := by decide +kernel
theorem dX12_act_23 : decode cX12_act 23 = .ok (.invokevirtual 304, 3) := by decide +kernel
theorem dX12_act_26 : decode cX12_act 26 = .ok (.ifCond .ne 5, 3) := by decide +kernel
theorem dX12_act_29 : decode cX12_act 29 = .ok (.iconst 0, 1) := by decide +kernel
theorem dX12_act_30 : decode cX12_act 30 = .ok (.ireturn, 1) := by decide +kernel
theorem dX12_act_31 : decode cX12_act 31 = .ok (.aload_n 0, 1) := by decide +kernel
theorem dX12_act_32 : decode cX12_act 32 = .ok (.getfield 48, 3) := by decide +kernel
theorem dX12_act_35 : decode cX12_act 35 = .ok (.iload_n 1, 1) := by decide +kernel
theorem dX12_act_36 : decode cX12_act 36 = .ok (.iaload, 1) := by decide +kernel
theorem dX12_act_37 : decode cX12_act 37 = .ok (.istore 4, 2) := by decide +kernel
theorem dX12_act_39 : decode cX12_act 39 = .ok (.aload_n 0, 1) := by decide +kernel
theorem dX12_act_40 : decode cX12_act 40 = .ok (.iconst 0, 1) := by decide +kernel
theorem dX12_act_41 : decode cX12_act 41 = .ok (.putfield 322, 3) := by decide +kernel
theorem dX12_act_44 : decode cX12_act 44 = .ok (.iload_n 2, 1) := by decide +kernel
theorem dX12_act_45 : decode cX12_act 45 = .ok (.ifCond .ne 13, 3) := by decide +kernel
theorem dX12_act_48 : decode cX12_act 48 = .ok (.aload_n 0, 1) := by decide +kernel
theorem dX12_act_49 : decode cX12_act 49 = .ok (.iload 4, 2) := by decide +kernel
theorem dX12_act_51 : decode cX12_act 51 = .ok (.iload_n 3, 1) := by decide +kernel
theorem dX12_act_52 : decode cX12_act 52 = .ok (.invokevirtual 316, 3) := by decide +kernel
theorem dX12_act_55 : decode cX12_act 55 = .ok (.goto 40, 3) := by decide +kernel
theorem dX12_act_58 : decode cX12_act 58 = .ok (.iload_n 2, 1) := by decide +kernel
theorem dX12_act_59 : decode cX12_act 59 = .ok (.iconst 1, 1) := by decide +kernel
theorem dX12_act_60 : decode cX12_act 60 = .ok (.if_icmp .ne 13, 3) := by decide +kernel
theorem dX12_act_63 : decode cX12_act 63 = .ok (.aload_n 0, 1) := by decide +kernel
theorem dX12_act_64 : decode cX12_act 64 = .ok (.iload 4, 2) := by decide +kernel
theorem dX12_act_66 : decode cX12_act 66 = .ok (.iload_n 3, 1) := by decide +kernel
theorem dX12_act_67 : decode cX12_act 67 = .ok (.invokevirtual 331, 3) := by decide +kernel
theorem dX12_act_70 : decode cX12_act 70 = .ok (.goto 25, 3) := by decide +kernel
theorem dX12_act_73 : decode cX12_act 73 = .ok (.iload_n 2, 1) := by decide +kernel
theorem dX12_act_74 : decode cX12_act 74 = .ok (.iconst 2, 1) := by decide +kernel
theorem dX12_act_75 : decode cX12_act 75 = .ok (.if_icmp .ne 13, 3) := by decide +kernel
theorem dX12_act_78 : decode cX12_act 78 = .ok (.aload_n 0, 1) := by decide +kernel
theorem dX12_act_79 : decode cX12_act 79 = .ok (.iload 4, 2) := by decide +kernel
theorem dX12_act_81 : decode cX12_act 81 = .ok (.iload_n 3, 1) := by decide +kernel
theorem dX12_act_82 : decode cX12_act 82 = .ok (.invokevirtual 334, 3) := by decide +kernel
theorem dX12_act_85 : decode cX12_act 85 = .ok (.goto 10, 3) := by decide +kernel
theorem dX12_act_88 : decode cX12_act 88 = .ok (.aload_n 0, 1) := by decide +kernel
theorem dX12_act_89 : decode cX12_act 89 = .ok (.iload 4, 2) := by decide +kernel
theorem dX12_act_91 : decode cX12_act 91 = .ok (.iload_n 3, 1) := by decide +kernel
theorem dX12_act_92 : decode cX12_act 92 = .ok (.invokevirtual 340, 3) := by decide +kernel
theorem dX12_act_95 : decode cX12_act 95 = .ok (.istore 5, 2) := by decide +kernel
theorem dX12_act_97 : decode cX12_act 97 = .ok (.aload_n 0, 1) := by decide +kernel
theorem dX12_act_98 : decode cX12_act 98 = .ok (.getfield 322, 3) := by decide +kernel
theorem dX12_act_101 : decode cX12_act 101 = .ok (.ifCond .eq 8, 3) := by decide +kernel
theorem dX12_act_104 : decode cX12_act 104 = .ok (.bipush (-15), 2) := by decide +kernel
theorem dX12_act_106 : decode cX12_act 106 = .ok (.goto 5, 3) := by decide +kernel
theorem dX12_act_109 : decode cX12_act 109 = .ok (.iload 5, 2) := by decide +kernel
theorem dX12_act_111 : decode cX12_act 111 = .ok (.ireturn, 1) := by decide +kernel
theorem dX12_trace_0 : decode cX12_trace 0 = .ok (.iload_n 1, 1) := by decide +kernel
theorem dX12_trace_1 : decode cX12_trace 1 = .ok (.iconst 0, 1) := by decide +kernel
theorem dX12_trace_2 : decode cX12_trace 2 = .ok (.aload_n 0, 1) := by decide +kernel
theorem dX12_trace_3 : decode cX12_trace 3 = .ok (.getfield 307, 3) := by decide +kernel
theorem dX12_trace_6 : decode cX12_trace 6 = .ok (.iconst 1, 1) := by decide +kernel
theorem dX12_trace_7 : decode cX12_trace 7 = .ok (.isub, 1) := by decide +kernel
theorem dX12_trace_8 : decode cX12_trace 8 = .ok (.invokestatic 61, 3) := by decide +kernel
theorem dX12_trace_11 : decode cX12_trace 11 = .ok (.ifCond .eq 12, 3) := by decide +kernel
theorem dX12_trace_14 : decode cX12_trace 14 = .ok (.aload_n 0, 1) := by decide +kernel
theorem dX12_trace_15 : decode cX12_trace 15 = .ok (.getfield 54, 3) := by decide +kernel
theorem dX12_trace_18 : decode cX12_trace 18 = .ok (.iload_n 1, 1) := by decide +kernel
theorem dX12_trace_19 : decode cX12_trace 19 = .ok (.iaload, 1) := by decide +kernel
theorem dX12_trace_20 : decode cX12_trace 20 = .ok (.goto 5, 3) := by decide +kernel
theorem dX12_trace_23 : decode cX12_trace 23 = .ok (.bipush (-3), 2) := by decide +kernel
theorem dX12_trace_25 : decode cX12_trace 25 = .ok (.ireturn, 1) := by decide +kernel
theorem dX12_many_0 : decode cX12_many 0 = .ok (.iload_n 1, 1) := by decide +kernel
theorem dX12_many_1 : decode cX12_many 1 = .ok (.tableswitch 88 0 6 #[43, 50, 58, 66, 73, 78, 83], 43) := by decide +kernel
theorem dX12_many_44 : decode cX12_many 44 = .ok (.aload_n 0, 1) := by decide +kernel
theorem dX12_many_45 : decode cX12_many 45 = .ok (.getfield 9, 3) := by decide +kernel
theorem dX12_many_48 : decode cX12_many 48 = .ok (.iconst 4, 1) := by decide +kernel
theorem dX12_many_49 : decode cX12_many 49 = .ok (.iaload, 1) := by decide +kernel
theorem dX12_many_50 : decode cX12_many 50 = .ok (.ireturn, 1) := by decide +kernel
theorem dX12_many_51 : decode cX12_many 51 = .ok (.aload_n 0, 1) := by decide +kernel
theorem dX12_many_52 : decode cX12_many 52 = .ok (.getfield 9, 3) := by decide +kernel
theorem dX12_many_55 : decode cX12_many 55 = .ok (.bipush 6, 2) := by decide +kernel
theorem dX12_many_57 : decode cX12_many 57 = .ok (.iaload, 1) := by decide +kernel
theorem dX12_many_58 : decode cX12_many 58 = .ok (.ireturn, 1) := by decide +kernel
theorem dX12_many_59 : decode cX12_many 59 = .ok (.aload_n 0, 1) := by decide +kernel
theorem dX12_many_60 : decode cX12_many 60 = .ok (.invokevirtual 125, 3) := by decide +kernel
theorem dX12_many_63 : decode cX12_many 63 = .ok (.invokestatic 343, 3) := by decide +kernel
theorem dX12_many_66 : decode cX12_many 66 = .ok (.ireturn, 1) := by decide +kernel
theorem dX12_many_67 : decode cX12_many 67 = .ok (.aload_n 0, 1) := by decide +kernel
theorem dX12_many_68 : decode cX12_many 68 = .ok (.getfield 9, 3) := by decide +kernel
theorem dX12_many_71 : decode cX12_many 71 = .ok (.iconst 5, 1) := by decide +kernel
theorem dX12_many_72 : decode cX12_many 72 = .ok (.iaload, 1) := by decide +kernel
theorem dX12_many_73 : decode cX12_many 73 = .ok (.ireturn, 1) := by decide +kernel
theorem dX12_many_74 : decode cX12_many 74 = .ok (.aload_n 0, 1) := by decide +kernel
theorem dX12_many_75 : decode cX12_many 75 = .ok (.getfield 291, 3) := by decide +kernel
theorem dX12_many_78 : decode cX12_many 78 = .ok (.ireturn, 1) := by decide +kernel
theorem dX12_many_79 : decode cX12_many 79 = .ok (.aload_n 0, 1) := by decide +kernel
theorem dX12_many_80 : decode cX12_many 80 = .ok (.getfield 131, 3) := by decide +kernel
theorem dX12_many_83 : decode cX12_many 83 = .ok (.ireturn, 1) := by decide +kernel
theorem dX12_many_84 : decode cX12_many 84 = .ok (.aload_n 0, 1) := by decide +kernel
theorem dX12_many_85 : decode cX12_many 85 = .ok (.getfield 307, 3) := by decide +kernel
theorem dX12_many_88 : decode cX12_many 88 = .ok (.ireturn, 1) := by decide +kernel
theorem dX12_many_89 : decode cX12_many 89 = .ok (.iconst (-1), 1) := by decide +kernel
theorem dX12_many_90 : decode cX12_many 90 = .ok (.ireturn, 1) := by decide +kernel
theorem dX12_keep_0 : decode cX12_keep 0 = .ok (.aload_n 0, 1) := by decide +kernel
theorem dX12_keep_1 : decode cX12_keep 1 = .ok (.getfield 9, 3) := by decide +kernel
theorem dX12_keep_4 : decode cX12_keep 4 = .ok (.aload_n 0, 1) := by decide +kernel
theorem dX12_keep_5 : decode cX12_keep 5 = .ok (.getfield 13, 3) := by decide +kernel
theorem dX12_keep_8 : decode cX12_keep 8 = .ok (.invokestatic 57, 3) := by decide +kernel
theorem dX12_keep_11 : decode cX12_keep 11 = .ok (.aload_n 0, 1) := by decide +kernel
theorem dX12_keep_12 : decode cX12_keep 12 = .ok (.iconst 1, 1) := by decide +kernel
theorem dX12_keep_13 : decode cX12_keep 13 = .ok (.putfield 346, 3) := by decide +kernel
theorem dX12_keep_16 : decode cX12_keep 16 = .ok (.iconst 1, 1) := by decide +kernel
theorem dX12_keep_17 : decode cX12_keep 17 = .ok (.ireturn, 1) := by decide +kernel
theorem dX12_again_0 : decode cX12_again 0 = .ok (.aload_n 0, 1) := by decide +kernel
theorem dX12_again_1 : decode cX12_again 1 = .ok (.getfield 346, 3) := by decide +kernel
theorem dX12_again_4 : decode cX12_again 4 = .ok (.ifCond .ne 6, 3) := by decide +kernel
theorem dX12_again_7 : decode cX12_again 7 = .ok (.bipush (-3), 2) := by decide +kernel
theorem dX12_again_9 : decode cX12_again 9 = .ok (.ireturn, 1) := by decide +kernel
theorem dX12_again_10 : decode cX12_again 10 = .ok (.aload_n 0, 1) := by decide +kernel
theorem dX12_again_11 : decode cX12_again 11 = .ok (.getfield 13, 3) := by decide +kernel
theorem dX12_again_14 : decode cX12_again 14 = .ok (.aload_n 0, 1) := by decide +kernel
theorem dX12_again_15 : decode cX12_again 15 = .ok (.getfield 9, 3) := by decide +kernel
theorem dX12_again_18 : decode cX12_again 18 = .ok (.invokestatic 57, 3) := by decide +kernel
theorem dX12_again_21 : decode cX12_again 21 = .ok (.aload_n 0, 1) := by decide +kernel
theorem dX12_again_22 : decode cX12_again 22 = .ok (.getfield 9, 3) := by decide +kernel
theorem dX12_again_25 : decode cX12_again 25 = .ok (.iconst 4, 1) := by decide +kernel
theorem dX12_again_26 : decode cX12_again 26 = .ok (.iaload, 1) := by decide +kernel
theorem dX12_again_27 : decode cX12_again 27 = .ok (.ireturn, 1) := by decide +kernel
theorem dJ6_bitCount_0f7a4_0 : decode cJ6_bitCount_0f7a4 0 = .ok (.iload_n 0, 1) := by decide +kernel
theorem dJ6_bitCount_0f7a4_1 : decode cJ6_bitCount_0f7a4 1 = .ok (.iload_n 0, 1) := by decide +kernel
theorem dJ6_bitCount_0f7a4_2 : decode cJ6_bitCount_0f7a4 2 = .ok (.iconst 1, 1) := by decide +kernel
theorem dJ6_bitCount_0f7a4_3 : decode cJ6_bitCount_0f7a4 3 = .ok (.iushr, 1) := by decide +kernel
theorem dJ6_bitCount_0f7a4_4 : decode cJ6_bitCount_0f7a4 4 = .ok (.ldc_w 265, 3) := by decide +kernel
theorem dJ6_bitCount_0f7a4_7 : decode cJ6_bitCount_0f7a4 7 = .ok (.iand, 1) := by decide +kernel
theorem dJ6_bitCount_0f7a4_8 : decode cJ6_bitCount_0f7a4 8 = .ok (.isub, 1) := by decide +kernel
theorem dJ6_bitCount_0f7a4_9 : decode cJ6_bitCount_0f7a4 9 = .ok (.istore_n 0, 1) := by decide +kernel
theorem dJ6_bitCount_0f7a4_10 : decode cJ6_bitCount_0f7a4 10 = .ok (.iload_n 0, 1) := by decide +kernel
theorem dJ6_bitCount_0f7a4_11 : decode cJ6_bitCount_0f7a4 11 = .ok (.ldc_w 266, 3) := by decide +kernel
theorem dJ6_bitCount_0f7a4_14 : decode cJ6_bitCount_0f7a4 14 = .ok (.iand, 1) := by decide +kernel
theorem dJ6_bitCount_0f7a4_15 : decode cJ6_bitCount_0f7a4 15 = .ok (.iload_n 0, 1) := by decide +kernel
theorem dJ6_bitCount_0f7a4_16 : decode cJ6_bitCount_0f7a4 16 = .ok (.iconst 2, 1) := by decide +kernel
theorem dJ6_bitCount_0f7a4_17 : decode cJ6_bitCount_0f7a4 17 = .ok (.iushr, 1) := by decide +kernel
theorem dJ6_bitCount_0f7a4_18 : decode cJ6_bitCount_0f7a4 18 = .ok (.ldc_w 266, 3) := by decide +kernel
theorem dJ6_bitCount_0f7a4_21 : decode cJ6_bitCount_0f7a4 21 = .ok (.iand, 1) := by decide +kernel
theorem dJ6_bitCount_0f7a4_22 : decode cJ6_bitCount_0f7a4 22 = .ok (.iadd, 1) := by decide +kernel
theorem dJ6_bitCount_0f7a4_23 : decode cJ6_bitCount_0f7a4 23 = .ok (.istore_n 0, 1) := by decide +kernel
theorem dJ6_bitCount_0f7a4_24 : decode cJ6_bitCount_0f7a4 24 = .ok (.iload_n 0, 1) := by decide +kernel
theorem dJ6_bitCount_0f7a4_25 : decode cJ6_bitCount_0f7a4 25 = .ok (.iload_n 0, 1) := by decide +kernel
theorem dJ6_bitCount_0f7a4_26 : decode cJ6_bitCount_0f7a4 26 = .ok (.iconst 4, 1) := by decide +kernel
theorem dJ6_bitCount_0f7a4_27 : decode cJ6_bitCount_0f7a4 27 = .ok (.iushr, 1) := by decide +kernel
theorem dJ6_bitCount_0f7a4_28 : decode cJ6_bitCount_0f7a4 28 = .ok (.iadd, 1) := by decide +kernel
theorem dJ6_bitCount_0f7a4_29 : decode cJ6_bitCount_0f7a4 29 = .ok (.ldc_w 267, 3) := by decide +kernel
theorem dJ6_bitCount_0f7a4_32 : decode cJ6_bitCount_0f7a4 32 = .ok (.iand, 1) := by decide +kernel
theorem dJ6_bitCount_0f7a4_33 : decode cJ6_bitCount_0f7a4 33 = .ok (.istore_n 0, 1) := by decide +kernel
theorem dJ6_bitCount_0f7a4_34 : decode cJ6_bitCount_0f7a4 34 = .ok (.iload_n 0, 1) := by decide +kernel
theorem dJ6_bitCount_0f7a4_35 : decode cJ6_bitCount_0f7a4 35 = .ok (.iload_n 0, 1) := by decide +kernel
theorem dJ6_bitCount_0f7a4_36 : decode cJ6_bitCount_0f7a4 36 = .ok (.bipush 8, 2) := by decide +kernel
theorem dJ6_bitCount_0f7a4_38 : decode cJ6_bitCount_0f7a4 38 = .ok (.iushr, 1) := by decide +kernel
theorem dJ6_bitCount_0f7a4_39 : decode cJ6_bitCount_0f7a4 39 = .ok (.iadd, 1) := by decide +kernel
theorem dJ6_bitCount_0f7a4_40 : decode cJ6_bitCount_0f7a4 40 = .ok (.istore_n 0, 1) := by decide +kernel
theorem dJ6_bitCount_0f7a4_41 : decode cJ6_bitCount_0f7a4 41 = .ok (.iload_n 0, 1) := by decide +kernel
theorem dJ6_bitCount_0f7a4_42 : decode cJ6_bitCount_0f7a4 42 = .ok (.iload_n 0, 1) := by decide +kernel
theorem dJ6_bitCount_0f7a4_43 : decode cJ6_bitCount_0f7a4 43 = .ok (.bipush 16, 2) := by decide +kernel
theorem dJ6_bitCount_0f7a4_45 : decode cJ6_bitCount_0f7a4 45 = .ok (.iushr, 1) := by decide +kernel
theorem dJ6_bitCount_0f7a4_46 : decode cJ6_bitCount_0f7a4 46 = .ok (.iadd, 1) := by decide +kernel
theorem dJ6_bitCount_0f7a4_47 : decode cJ6_bitCount_0f7a4 47 = .ok (.istore_n 0, 1) := by decide +kernel
theorem dJ6_bitCount_0f7a4_48 : decode cJ6_bitCount_0f7a4 48 = .ok (.iload_n 0, 1) := by decide +kernel
theorem dJ6_bitCount_0f7a4_49 : decode cJ6_bitCount_0f7a4 49 = .ok (.bipush 63, 2) := by decide +kernel
theorem dJ6_bitCount_0f7a4_51 : decode cJ6_bitCount_0f7a4 51 = .ok (.iand, 1) := by decide +kernel
theorem dJ6_bitCount_0f7a4_52 : decode cJ6_bitCount_0f7a4 52 = .ok (.ireturn, 1) := by decide +kernel
theorem dJ9_abs_0f7a4_0 : decode cJ9_abs_0f7a4 0 = .ok (.iload_n 0, 1) := by decide +kernel
theorem dJ9_abs_0f7a4_1 : decode cJ9_abs_0f7a4 1 = .ok (.ifCond .ge 8, 3) := by decide +kernel
theorem dJ9_abs_0f7a4_4 : decode cJ9_abs_0f7a4 4 = .ok (.iload_n 0, 1) := by decide +kernel
theorem dJ9_abs_0f7a4_5 : decode cJ9_abs_0f7a4 5 = .ok (.ineg, 1) := by decide +kernel
theorem dJ9_abs_0f7a4_6 : decode cJ9_abs_0f7a4 6 = .ok (.goto 4, 3) := by decide +kernel
theorem dJ9_abs_0f7a4_9 : decode cJ9_abs_0f7a4 9 = .ok (.iload_n 0, 1) := by decide +kernel
theorem dJ9_abs_0f7a4_10 : decode cJ9_abs_0f7a4 10 = .ok (.ireturn, 1) := by decide +kernel
theorem dJ9_max_7cf53_0 : decode cJ9_max_7cf53 0 = .ok (.iload_n 0, 1) := by decide +kernel
theorem dJ9_max_7cf53_1 : decode cJ9_max_7cf53 1 = .ok (.iload_n 1, 1) := by decide +kernel
theorem dJ9_max_7cf53_2 : decode cJ9_max_7cf53 2 = .ok (.if_icmp .lt 7, 3) := by decide +kernel
theorem dJ9_max_7cf53_5 : decode cJ9_max_7cf53 5 = .ok (.iload_n 0, 1) := by decide +kernel
theorem dJ9_max_7cf53_6 : decode cJ9_max_7cf53 6 = .ok (.goto 4, 3) := by decide +kernel
theorem dJ9_max_7cf53_9 : decode cJ9_max_7cf53 9 = .ok (.iload_n 1, 1) := by decide +kernel
theorem dJ9_max_7cf53_10 : decode cJ9_max_7cf53 10 = .ok (.ireturn, 1) := by decide +kernel
theorem dJ9_min_7cf53_0 : decode cJ9_min_7cf53 0 = .ok (.iload_n 0, 1) := by decide +kernel
theorem dJ9_min_7cf53_1 : decode cJ9_min_7cf53 1 = .ok (.iload_n 1, 1) := by decide +kernel
theorem dJ9_min_7cf53_2 : decode cJ9_min_7cf53 2 = .ok (.if_icmp .gt 7, 3) := by decide +kernel
theorem dJ9_min_7cf53_5 : decode cJ9_min_7cf53 5 = .ok (.iload_n 0, 1) := by decide +kernel
theorem dJ9_min_7cf53_6 : decode cJ9_min_7cf53 6 = .ok (.goto 4, 3) := by decide +kernel
theorem dJ9_min_7cf53_9 : decode cJ9_min_7cf53 9 = .ok (.iload_n 1, 1) := by decide +kernel
theorem dJ9_min_7cf53_10 : decode cJ9_min_7cf53 10 = .ok (.ireturn, 1) := by decide +kernel
theorem dJ0_length_8abf5_0 : decode cJ0_length_8abf5 0 = .ok (.aload_n 0, 1) := by decide +kernel
theorem dJ0_length_8abf5_1 : decode cJ0_length_8abf5 1 = .ok (.getfield 9, 3) := by decide +kernel
theorem dJ0_length_8abf5_4 : decode cJ0_length_8abf5 4 = .ok (.arraylength, 1) := by decide +kernel
theorem dJ0_length_8abf5_5 : decode cJ0_length_8abf5 5 = .ok (.aload_n 0, 1) := by decide +kernel
theorem dJ0_length_8abf5_6 : decode cJ0_length_8abf5 6 = .ok (.invokevirtual 335, 3) := by decide +kernel
theorem dJ0_length_8abf5_9 : decode cJ0_length_8abf5 9 = .ok (.ishr, 1) := by decide +kernel
theorem dJ0_length_8abf5_10 : decode cJ0_length_8abf5 10 = .ok (.ireturn, 1) := by decide +kernel
theorem dJ0_charAt_5068e_0 : decode cJ0_charAt_5068e 0 = .ok (.aload_n 0, 1) := by decide +kernel
theorem dJ0_charAt_5068e_1 : decode cJ0_charAt_5068e 1 = .ok (.invokevirtual 492, 3) := by decide +kernel
theorem dJ0_charAt_5068e_4 : decode cJ0_charAt_5068e 4 = .ok (.ifCond .eq 12, 3) := by decide +kernel
theorem dJ0_charAt_5068e_7 : decode cJ0_charAt_5068e 7 = .ok (.aload_n 0, 1) := by decide +kernel
theorem dJ0_charAt_5068e_8 : decode cJ0_charAt_5068e 8 = .ok (.getfield 9, 3) := by decide +kernel
theorem dJ0_charAt_5068e_11 : decode cJ0_charAt_5068e 11 = .ok (.iload_n 1, 1) := by decide +kernel
theorem dJ0_charAt_5068e_12 : decode cJ0_charAt_5068e 12 = .ok (.invokestatic 495, 3) := by decide +kernel
theorem dJ0_charAt_5068e_15 : decode cJ0_charAt_5068e 15 = .ok (.ireturn, 1) := by decide +kernel
theorem dJ0_charAt_5068e_16 : decode cJ0_charAt_5068e 16 = .ok (.aload_n 0, 1) := by decide +kernel
theorem dJ0_charAt_5068e_17 : decode cJ0_charAt_5068e 17 = .ok (.getfield 9, 3) := by decide +kernel
theorem dJ0_charAt_5068e_20 : decode cJ0_charAt_5068e 20 = .ok (.iload_n 1, 1) := by decide +kernel
theorem dJ0_charAt_5068e_21 : decode cJ0_charAt_5068e 21 = .ok (.invokestatic 498, 3) := by decide +kernel
theorem dJ0_charAt_5068e_24 : decode cJ0_charAt_5068e 24 = .ok (.ireturn, 1) := by decide +kernel
theorem dJ0_coder_7d493_0 : decode cJ0_coder_7d493 0 = .ok (.getstatic 38, 3) := by decide +kernel
theorem dJ0_coder_7d493_3 : decode cJ0_coder_7d493 3 = .ok (.ifCond .eq 10, 3) := by decide +kernel
theorem dJ0_coder_7d493_6 : decode cJ0_coder_7d493 6 = .ok (.aload_n 0, 1) := by decide +kernel
theorem dJ0_coder_7d493_7 : decode cJ0_coder_7d493 7 = .ok (.getfield 15, 3) := by decide +kernel
theorem dJ0_coder_7d493_10 : decode cJ0_coder_7d493 10 = .ok (.goto 4, 3) := by decide +kernel
theorem dJ0_coder_7d493_13 : decode cJ0_coder_7d493 13 = .ok (.iconst 1, 1) := by decide +kernel
theorem dJ0_coder_7d493_14 : decode cJ0_coder_7d493 14 = .ok (.ireturn, 1) := by decide +kernel
theorem dJ0_isLatin1_aae02_0 : decode cJ0_isLatin1_aae02 0 = .ok (.getstatic 38, 3) := by decide +kernel
theorem dJ0_isLatin1_aae02_3 : decode cJ0_isLatin1_aae02 3 = .ok (.ifCond .eq 14, 3) := by decide +kernel
theorem dJ0_isLatin1_aae02_6 : decode cJ0_isLatin1_aae02 6 = .ok (.aload_n 0, 1) := by decide +kernel
theorem dJ0_isLatin1_aae02_7 : decode cJ0_isLatin1_aae02 7 = .ok (.getfield 15, 3) := by decide +kernel
theorem dJ0_isLatin1_aae02_10 : decode cJ0_isLatin1_aae02 10 = .ok (.ifCond .ne 7, 3) := by decide +kernel
theorem dJ0_isLatin1_aae02_13 : decode cJ0_isLatin1_aae02 13 = .ok (.iconst 1, 1) := by decide +kernel
theorem dJ0_isLatin1_aae02_14 : decode cJ0_isLatin1_aae02 14 = .ok (.goto 4, 3) := by decide +kernel
theorem dJ0_isLatin1_aae02_17 : decode cJ0_isLatin1_aae02 17 = .ok (.iconst 0, 1) := by decide +kernel
theorem dJ0_isLatin1_aae02_18 : decode cJ0_isLatin1_aae02 18 = .ok (.ireturn, 1) := by decide +kernel
theorem dJ0_checkIndex_df160_0 : decode cJ0_checkIndex_df160 0 = .ok (.iload_n 0, 1) := by decide +kernel
theorem dJ0_checkIndex_df160_1 : decode cJ0_checkIndex_df160 1 = .ok (.iload_n 1, 1) := by decide +kernel
theorem dJ0_checkIndex_df160_2 : decode cJ0_checkIndex_df160 2 = .ok (.getstatic 1053, 3) := by decide +kernel
theorem dJ0_checkIndex_df160_5 : decode cJ0_checkIndex_df160 5 = .ok (.invokestatic 1059, 3) := by decide +kernel
theorem dJ0_checkIndex_df160_8 : decode cJ0_checkIndex_df160 8 = .ok (.pop, 1) := by decide +kernel
theorem dJ0_checkIndex_df160_9 : decode cJ0_checkIndex_df160 9 = .ok (.return_, 1) := by decide +kernel
theorem dJ1_charAt_3b067_0 : decode cJ1_charAt_3b067 0 = .ok (.iload_n 1, 1) := by decide +kernel
theorem dJ1_charAt_3b067_1 : decode cJ1_charAt_3b067 1 = .ok (.aload_n 0, 1) := by decide +kernel
theorem dJ1_charAt_3b067_2 : decode cJ1_charAt_3b067 2 = .ok (.arraylength, 1) := by decide +kernel
theorem dJ1_charAt_3b067_3 : decode cJ1_charAt_3b067 3 = .ok (.invokestatic 9, 3) := by decide +kernel
theorem dJ1_charAt_3b067_6 : decode cJ1_charAt_3b067 6 = .ok (.aload_n 0, 1) := by decide +kernel
theorem dJ1_charAt_3b067_7 : decode cJ1_charAt_3b067 7 = .ok (.iload_n 1, 1) := by decide +kernel
theorem dJ1_charAt_3b067_8 : decode cJ1_charAt_3b067 8 = .ok (.baload, 1) := by decide +kernel
theorem dJ1_charAt_3b067_9 : decode cJ1_charAt_3b067 9 = .ok (.sipush 255, 3) := by decide +kernel
theorem dJ1_charAt_3b067_12 : decode cJ1_charAt_3b067 12 = .ok (.iand, 1) := by decide +kernel
theorem dJ1_charAt_3b067_13 : decode cJ1_charAt_3b067 13 = .ok (.i2c, 1) := by decide +kernel
theorem dJ1_charAt_3b067_14 : decode cJ1_charAt_3b067 14 = .ok (.ireturn, 1) := by decide +kernel
theorem dJ2_getChar_3b067_0 : decode cJ2_getChar_3b067 0 = .ok (.getstatic 44, 3) := by decide +kernel
theorem dJ2_getChar_3b067_3 : decode cJ2_getChar_3b067 3 = .ok (.ifCond .ne 25, 3) := by decide +kernel
theorem dJ2_getChar_3b067_6 : decode cJ2_getChar_3b067 6 = .ok (.iload_n 1, 1) := by decide +kernel
theorem dJ2_getChar_3b067_7 : decode cJ2_getChar_3b067 7 = .ok (.ifCond .lt 11, 3) := by decide +kernel
theorem dJ2_getChar_3b067_10 : decode cJ2_getChar_3b067 10 = .ok (.iload_n 1, 1) := by decide +kernel
theorem dJ2_getChar_3b067_11 : decode cJ2_getChar_3b067 11 = .ok (.aload_n 0, 1) := by decide +kernel
theorem dJ2_getChar_3b067_12 : decode cJ2_getChar_3b067 12 = .ok (.invokestatic 48, 3) := by decide +kernel
theorem dJ2_getChar_3b067_15 : decode cJ2_getChar_3b067 15 = .ok (.if_icmp .lt 13, 3) := by decide +kernel
theorem dJ2_getChar_3b067_18 : decode cJ2_getChar_3b067 18 = .ok (.new 52, 3) := by decide +kernel
theorem dJ2_getChar_3b067_21 : decode cJ2_getChar_3b067 21 = .ok (.dup, 1) := by decide +kernel
theorem dJ2_getChar_3b067_22 : decode cJ2_getChar_3b067 22 = .ok (.ldc 54, 2) := by decide +kernel
theorem dJ2_getChar_3b067_24 : decode cJ2_getChar_3b067 24 = .ok (.invokespecial 56, 3) := by decide +kernel
theorem dJ2_getChar_3b067_27 : decode cJ2_getChar_3b067 27 = .ok (.athrow, 1) := by decide +kernel
theorem dJ2_getChar_3b067_28 : decode cJ2_getChar_3b067 28 = .ok (.iload_n 1, 1) := by decide +kernel
theorem dJ2_getChar_3b067_29 : decode cJ2_getChar_3b067 29 = .ok (.iconst 1, 1) := by decide +kernel
theorem dJ2_getChar_3b067_30 : decode cJ2_getChar_3b067 30 = .ok (.ishl, 1) := by decide +kernel
theorem dJ2_getChar_3b067_31 : decode cJ2_getChar_3b067 31 = .ok (.istore_n 1, 1) := by decide +kernel
theorem dJ2_getChar_3b067_32 : decode cJ2_getChar_3b067 32 = .ok (.aload_n 0, 1) := by decide +kernel
theorem dJ2_getChar_3b067_33 : decode cJ2_getChar_3b067 33 = .ok (.iload_n 1, 1) := by decide +kernel
theorem dJ2_getChar_3b067_34 : decode cJ2_getChar_3b067 34 = .ok (.iinc 1 1, 3) := by decide +kernel
theorem dJ2_getChar_3b067_37 : decode cJ2_getChar_3b067 37 = .ok (.baload, 1) := by decide +kernel
theorem dJ2_getChar_3b067_38 : decode cJ2_getChar_3b067 38 = .ok (.sipush 255, 3) := by decide +kernel
theorem dJ2_getChar_3b067_41 : decode cJ2_getChar_3b067 41 = .ok (.iand, 1) := by decide +kernel
theorem dJ2_getChar_3b067_42 : decode cJ2_getChar_3b067 42 = .ok (.getstatic 59, 3) := by decide +kernel
theorem dJ2_getChar_3b067_45 : decode cJ2_getChar_3b067 45 = .ok (.ishl, 1) := by decide +kernel
theorem dJ2_getChar_3b067_46 : decode cJ2_getChar_3b067 46 = .ok (.aload_n 0, 1) := by decide +kernel
theorem dJ2_getChar_3b067_47 : decode cJ2_getChar_3b067 47 = .ok (.iload_n 1, 1) := by decide +kernel
theorem dJ2_getChar_3b067_48 : decode cJ2_getChar_3b067 48 = .ok (.baload, 1) := by decide +kernel
theorem dJ2_getChar_3b067_49 : decode cJ2_getChar_3b067 49 = .ok (.sipush 255, 3) := by decide +kernel
theorem dJ2_getChar_3b067_52 : decode cJ2_getChar_3b067 52 = .ok (.iand, 1) := by decide +kernel
theorem dJ2_getChar_3b067_53 : decode cJ2_getChar_3b067 53 = .ok (.getstatic 63, 3) := by decide +kernel
theorem dJ2_getChar_3b067_56 : decode cJ2_getChar_3b067 56 = .ok (.ishl, 1) := by decide +kernel
theorem dJ2_getChar_3b067_57 : decode cJ2_getChar_3b067 57 = .ok (.ior, 1) := by decide +kernel
theorem dJ2_getChar_3b067_58 : decode cJ2_getChar_3b067 58 = .ok (.i2c, 1) := by decide +kernel
theorem dJ2_getChar_3b067_59 : decode cJ2_getChar_3b067 59 = .ok (.ireturn, 1) := by decide +kernel
theorem dJ2_length_9d52b_0 : decode cJ2_length_9d52b 0 = .ok (.aload_n 0, 1) := by decide +kernel
theorem dJ2_length_9d52b_1 : decode cJ2_length_9d52b 1 = .ok (.arraylength, 1) := by decide +kernel
theorem dJ2_length_9d52b_2 : decode cJ2_length_9d52b 2 = .ok (.iconst 1, 1) := by decide +kernel
theorem dJ2_length_9d52b_3 : decode cJ2_length_9d52b 3 = .ok (.ishr, 1) := by decide +kernel
theorem dJ2_length_9d52b_4 : decode cJ2_length_9d52b 4 = .ok (.ireturn, 1) := by decide +kernel
theorem dJ2_charAt_3b067_0 : decode cJ2_charAt_3b067 0 = .ok (.iload_n 1, 1) := by decide +kernel
theorem dJ2_charAt_3b067_1 : decode cJ2_charAt_3b067 1 = .ok (.aload_n 0, 1) := by decide +kernel
theorem dJ2_charAt_3b067_2 : decode cJ2_charAt_3b067 2 = .ok (.invokestatic 67, 3) := by decide +kernel
theorem dJ2_charAt_3b067_5 : decode cJ2_charAt_3b067 5 = .ok (.aload_n 0, 1) := by decide +kernel
theorem dJ2_charAt_3b067_6 : decode cJ2_charAt_3b067 6 = .ok (.iload_n 1, 1) := by decide +kernel
theorem dJ2_charAt_3b067_7 : decode cJ2_charAt_3b067 7 = .ok (.invokestatic 71, 3) := by decide +kernel
theorem dJ2_charAt_3b067_10 : decode cJ2_charAt_3b067 10 = .ok (.ireturn, 1) := by decide +kernel
theorem dJ2_checkIndex_2214a_0 : decode cJ2_checkIndex_2214a 0 = .ok (.iload_n 0, 1) := by decide +kernel
theorem dJ2_checkIndex_2214a_1 : decode cJ2_checkIndex_2214a 1 = .ok (.aload_n 1, 1) := by decide +kernel
theorem dJ2_checkIndex_2214a_2 : decode cJ2_checkIndex_2214a 2 = .ok (.invokestatic 48, 3) := by decide +kernel
theorem dJ2_checkIndex_2214a_5 : decode cJ2_checkIndex_2214a 5 = .ok (.invokestatic 414, 3) := by decide +kernel
theorem dJ2_checkIndex_2214a_8 : decode cJ2_checkIndex_2214a 8 = .ok (.return_, 1) := by decide +kernel
theorem dJ7_fill_53178_0 : decode cJ7_fill_53178 0 = .ok (.iconst 0, 1) := by decide +kernel
theorem dJ7_fill_53178_1 : decode cJ7_fill_53178 1 = .ok (.istore_n 2, 1) := by decide +kernel
theorem dJ7_fill_53178_2 : decode cJ7_fill_53178 2 = .ok (.aload_n 0, 1) := by decide +kernel
theorem dJ7_fill_53178_3 : decode cJ7_fill_53178 3 = .ok (.arraylength, 1) := by decide +kernel
theorem dJ7_fill_53178_4 : decode cJ7_fill_53178 4 = .ok (.istore_n 3, 1) := by decide +kernel
theorem dJ7_fill_53178_5 : decode cJ7_fill_53178 5 = .ok (.iload_n 2, 1) := by decide +kernel
theorem dJ7_fill_53178_6 : decode cJ7_fill_53178 6 = .ok (.iload_n 3, 1) := by decide +kernel
theorem dJ7_fill_53178_7 : decode cJ7_fill_53178 7 = .ok (.if_icmp .ge 13, 3) := by decide +kernel
theorem dJ7_fill_53178_10 : decode cJ7_fill_53178 10 = .ok (.aload_n 0, 1) := by decide +kernel
theorem dJ7_fill_53178_11 : decode cJ7_fill_53178 11 = .ok (.iload_n 2, 1) := by decide +kernel
theorem dJ7_fill_53178_12 : decode cJ7_fill_53178 12 = .ok (.iload_n 1, 1) := by decide +kernel
theorem dJ7_fill_53178_13 : decode cJ7_fill_53178 13 = .ok (.iastore, 1) := by decide +kernel
theorem dJ7_fill_53178_14 : decode cJ7_fill_53178 14 = .ok (.iinc 2 1, 3) := by decide +kernel
theorem dJ7_fill_53178_17 : decode cJ7_fill_53178 17 = .ok (.goto (-12), 3) := by decide +kernel
theorem dJ7_fill_53178_20 : decode cJ7_fill_53178 20 = .ok (.return_, 1) := by decide +kernel
theorem dJ3_checkIndex_8e157_0 : decode cJ3_checkIndex_8e157 0 = .ok (.iload_n 0, 1) := by decide +kernel
theorem dJ3_checkIndex_8e157_1 : decode cJ3_checkIndex_8e157 1 = .ok (.ifCond .lt 8, 3) := by decide +kernel
theorem dJ3_checkIndex_8e157_4 : decode cJ3_checkIndex_8e157 4 = .ok (.iload_n 0, 1) := by decide +kernel
theorem dJ3_checkIndex_8e157_5 : decode cJ3_checkIndex_8e157 5 = .ok (.iload_n 1, 1) := by decide +kernel
theorem dJ3_checkIndex_8e157_6 : decode cJ3_checkIndex_8e157 6 = .ok (.if_icmp .lt 10, 3) := by decide +kernel
theorem dJ3_checkIndex_8e157_9 : decode cJ3_checkIndex_8e157 9 = .ok (.aload_n 2, 1) := by decide +kernel
theorem dJ3_checkIndex_8e157_10 : decode cJ3_checkIndex_8e157 10 = .ok (.iload_n 0, 1) := by decide +kernel
theorem dJ3_checkIndex_8e157_11 : decode cJ3_checkIndex_8e157 11 = .ok (.iload_n 1, 1) := by decide +kernel
theorem dJ3_checkIndex_8e157_12 : decode cJ3_checkIndex_8e157 12 = .ok (.invokestatic 95, 3) := by decide +kernel
theorem dJ3_checkIndex_8e157_15 : decode cJ3_checkIndex_8e157 15 = .ok (.athrow, 1) := by decide +kernel
theorem dJ3_checkIndex_8e157_16 : decode cJ3_checkIndex_8e157 16 = .ok (.iload_n 0, 1) := by decide +kernel
theorem dJ3_checkIndex_8e157_17 : decode cJ3_checkIndex_8e157 17 = .ok (.ireturn, 1) := by decide +kernel
theorem dL_law_0 : decode cL_law 0 = .ok (.new 7, 3) := by decide +kernel
theorem dL_law_3 : decode cL_law 3 = .ok (.dup, 1) := by decide +kernel
theorem dL_law_4 : decode cL_law 4 = .ok (.invokespecial 9, 3) := by decide +kernel
theorem dL_law_7 : decode cL_law 7 = .ok (.astore_n 1, 1) := by decide +kernel
theorem dL_law_8 : decode cL_law 8 = .ok (.new 10, 3) := by decide +kernel
theorem dL_law_11 : decode cL_law 11 = .ok (.dup, 1) := by decide +kernel
theorem dL_law_12 : decode cL_law 12 = .ok (.invokespecial 12, 3) := by decide +kernel
theorem dL_law_15 : decode cL_law 15 = .ok (.astore_n 2, 1) := by decide +kernel
theorem dL_law_16 : decode cL_law 16 = .ok (.iconst 0, 1) := by decide +kernel
theorem dL_law_17 : decode cL_law 17 = .ok (.istore_n 3, 1) := by decide +kernel
theorem dL_law_18 : decode cL_law 18 = .ok (.iload_n 3, 1) := by decide +kernel
theorem dL_law_19 : decode cL_law 19 = .ok (.aload_n 0, 1) := by decide +kernel
theorem dL_law_20 : decode cL_law 20 = .ok (.arraylength, 1) := by decide +kernel
theorem dL_law_21 : decode cL_law 21 = .ok (.iconst 5, 1) := by decide +kernel
theorem dL_law_22 : decode cL_law 22 = .ok (.isub, 1) := by decide +kernel
theorem dL_law_23 : decode cL_law 23 = .ok (.if_icmp .gt 1728, 3) := by decide +kernel
theorem dL_law_26 : decode cL_law 26 = .ok (.aload_n 0, 1) := by decide +kernel
theorem dL_law_27 : decode cL_law 27 = .ok (.iload_n 3, 1) := by decide +kernel
theorem dL_law_28 : decode cL_law 28 = .ok (.iaload, 1) := by decide +kernel
theorem dL_law_29 : decode cL_law 29 = .ok (.bipush 63, 2) := by decide +kernel
theorem dL_law_31 : decode cL_law 31 = .ok (.iand, 1) := by decide +kernel
theorem dL_law_32 : decode cL_law 32 = .ok (.tableswitch 1713 0 50 #[220, 273, 306, 349, 382, 415, 458, 491, 514, 527, 550, 613, 626, 639, 662, 685, 708, 731, 754, 777, 810, 833, 856, 889, 912, 945, 978, 1001, 1024, 1077, 1090, 1113, 1126, 1149, 1162, 1195, 1218, 1251, 1294, 1307, 1350, 1393, 1436, 1479, 1522, 1565, 1598, 1641, 1664, 1687, 1700], 220) := by decide +kernel
theorem dL_law_252 : decode cL_law 252 = .ok (.aload_n 1, 1) := by decide +kernel
theorem dL_law_253 : decode cL_law 253 = .ok (.aload_n 0, 1) := by decide +kernel
theorem dL_law_254 : decode cL_law 254 = .ok (.iload_n 3, 1) := by decide +kernel
theorem dL_law_255 : decode cL_law 255 = .ok (.iconst 1, 1) := by decide +kernel
theorem dL_law_256 : decode cL_law 256 = .ok (.iadd, 1) := by decide +kernel
theorem dL_law_257 : decode cL_law 257 = .ok (.iaload, 1) := by decide +kernel
theorem dL_law_258 : decode cL_law 258 = .ok (.aload_n 0, 1) := by decide +kernel
theorem dL_law_259 : decode cL_law 259 = .ok (.iload_n 3, 1) := by decide +kernel
theorem dL_law_260 : decode cL_law 260 = .ok (.iconst 2, 1) := by decide +kernel
theorem dL_law_261 : decode cL_law 261 = .ok (.iadd, 1) := by decide +kernel
theorem dL_law_262 : decode cL_law 262 = .ok (.iaload, 1) := by decide +kernel
theorem dL_law_263 : decode cL_law 263 = .ok (.aload_n 0, 1) := by decide +kernel
theorem dL_law_264 : decode cL_law 264 = .ok (.iload_n 3, 1) := by decide +kernel
theorem dL_law_265 : decode cL_law 265 = .ok (.iconst 3, 1) := by decide +kernel
theorem dL_law_266 : decode cL_law 266 = .ok (.iadd, 1) := by decide +kernel
theorem dL_law_267 : decode cL_law 267 = .ok (.iaload, 1) := by decide +kernel
theorem dL_law_268 : decode cL_law 268 = .ok (.aload_n 0, 1) := by decide +kernel
theorem dL_law_269 : decode cL_law 269 = .ok (.iload_n 3, 1) := by decide +kernel
theorem dL_law_270 : decode cL_law 270 = .ok (.iconst 4, 1) := by decide +kernel
theorem dL_law_271 : decode cL_law 271 = .ok (.iadd, 1) := by decide +kernel
theorem dL_law_272 : decode cL_law 272 = .ok (.iaload, 1) := by decide +kernel
theorem dL_law_273 : decode cL_law 273 = .ok (.invokevirtual 13, 3) := by decide +kernel
theorem dL_law_276 : decode cL_law 276 = .ok (.aload_n 2, 1) := by decide +kernel
theorem dL_law_277 : decode cL_law 277 = .ok (.aload_n 0, 1) := by decide +kernel
theorem dL_law_278 : decode cL_law 278 = .ok (.iload_n 3, 1) := by decide +kernel
theorem dL_law_279 : decode cL_law 279 = .ok (.iconst 1, 1) := by decide +kernel
theorem dL_law_280 : decode cL_law 280 = .ok (.iadd, 1) := by decide +kernel
theorem dL_law_281 : decode cL_law 281 = .ok (.iaload, 1) := by decide +kernel
theorem dL_law_282 : decode cL_law 282 = .ok (.aload_n 0, 1) := by decide +kernel
theorem dL_law_283 : decode cL_law 283 = .ok (.iload_n 3, 1) := by decide +kernel
theorem dL_law_284 : decode cL_law 284 = .ok (.iconst 2, 1) := by decide +kernel
theorem dL_law_285 : decode cL_law 285 = .ok (.iadd, 1) := by decide +kernel
theorem dL_law_286 : decode cL_law 286 = .ok (.iaload, 1) := by decide +kernel
theorem dL_law_287 : decode cL_law 287 = .ok (.aload_n 0, 1) := by decide +kernel
theorem dL_law_288 : decode cL_law 288 = .ok (.iload_n 3, 1) := by decide +kernel
theorem dL_law_289 : decode cL_law 289 = .ok (.iconst 3, 1) := by decide +kernel
theorem dL_law_290 : decode cL_law 290 = .ok (.iadd, 1) := by decide +kernel
theorem dL_law_291 : decode cL_law 291 = .ok (.iaload, 1) := by decide +kernel
theorem dL_law_292 : decode cL_law 292 = .ok (.aload_n 0, 1) := by decide +kernel
theorem dL_law_293 : decode cL_law 293 = .ok (.iload_n 3, 1) := by decide +kernel
theorem dL_law_294 : decode cL_law 294 = .ok (.iconst 4, 1) := by decide +kernel
theorem dL_law_295 : decode cL_law 295 = .ok (.iadd, 1) := by decide +kernel
theorem dL_law_296 : decode cL_law 296 = .ok (.iaload, 1) := by decide +kernel
theorem dL_law_297 : decode cL_law 297 = .ok (.invokevirtual 17, 3) := by decide +kernel
theorem dL_law_300 : decode cL_law 300 = .ok (.if_icmp .eq 1445, 3) := by decide +kernel
theorem dL_law_303 : decode cL_law 303 = .ok (.iconst 0, 1) := by decide +kernel
theorem dL_law_304 : decode cL_law 304 = .ok (.ireturn, 1) := by decide +kernel
theorem dL_law_305 : decode cL_law 305 = .ok (.aload_n 1, 1) := by decide +kernel
theorem dL_law_306 : decode cL_law 306 = .ok (.aload_n 0, 1) := by decide +kernel
theorem dL_law_307 : decode cL_law 307 = .ok (.iload_n 3, 1) := by decide +kernel
theorem dL_law_308 : decode cL_law 308 = .ok (.iconst 1, 1) := by decide +kernel
theorem dL_law_309 : decode cL_law 309 = .ok (.iadd, 1) := by decide +kernel
theorem dL_law_310 : decode cL_law 310 = .ok (.iaload, 1) := by decide +kernel
theorem dL_law_311 : decode cL_law 311 = .ok (.aload_n 0, 1) := by decide +kernel
theorem dL_law_312 : decode cL_law 312 = .ok (.iload_n 3, 1) := by decide +kernel
theorem dL_law_313 : decode cL_law 313 = .ok (.iconst 2, 1) := by decide +kernel
theorem dL_law_314 : decode cL_law 314 = .ok (.iadd, 1) := by decide +kernel
theorem dL_law_315 : decode cL_law 315 = .ok (.iaload, 1) := by decide +kernel
theorem dL_law_316 : decode cL_law 316 = .ok (.invokevirtual 18, 3) := by decide +kernel
theorem dL_law_319 : decode cL_law 319 = .ok (.aload_n 2, 1) := by decide +kernel
theorem dL_law_320 : decode cL_law 320 = .ok (.aload_n 0, 1) := by decide +kernel
theorem dL_law_321 : decode cL_law 321 = .ok (.iload_n 3, 1) := by decide +kernel
theorem dL_law_322 : decode cL_law 322 = .ok (.iconst 1, 1) := by decide +kernel
theorem dL_law_323 : decode cL_law 323 = .ok (.iadd, 1) := by decide +kernel
theorem dL_law_324 : decode cL_law 324 = .ok (.iaload, 1) := by decide +kernel
theorem dL_law_325 : decode cL_law 325 = .ok (.aload_n 0, 1) := by decide +kernel
theorem dL_law_326 : decode cL_law 326 = .ok (.iload_n 3, 1) := by decide +kernel
theorem dL_law_327 : decode cL_law 327 = .ok (.iconst 2, 1) := by decide +kernel
theorem dL_law_328 : decode cL_law 328 = .ok (.iadd, 1) := by decide +kernel
theorem dL_law_329 : decode cL_law 329 = .ok (.iaload, 1) := by decide +kernel
theorem dL_law_330 : decode cL_law 330 = .ok (.invokevirtual 22, 3) := by decide +kernel
theorem dL_law_333 : decode cL_law 333 = .ok (.if_icmp .eq 1412, 3) := by decide +kernel
theorem dL_law_336 : decode cL_law 336 = .ok (.iconst 0, 1) := by decide +kernel
theorem dL_law_337 : decode cL_law 337 = .ok (.ireturn, 1) := by decide +kernel
theorem dL_law_338 : decode cL_law 338 = .ok (.aload_n 1, 1) := by decide +kernel
theorem dL_law_339 : decode cL_law 339 = .ok (.aload_n 0, 1) := by decide +kernel
theorem dL_law_340 : decode cL_law 340 = .ok (.iload_n 3, 1) := by decide +kernel
theorem dL_law_341 : decode cL_law 341 = .ok (.iconst 1, 1) := by decide +kernel
theorem dL_law_342 : decode cL_law 342 = .ok (.iadd, 1) := by decide +kernel
theorem dL_law_343 : decode cL_law 343 = .ok (.iaload, 1) := by decide +kernel
theorem dL_law_344 : decode cL_law 344 = .ok (.aload_n 0, 1) := by decide +kernel
theorem dL_law_345 : decode cL_law 345 = .ok (.iload_n 3, 1) := by decide +kernel
theorem dL_law_346 : decode cL_law 346 = .ok (.iconst 2, 1) := by decide +kernel
theorem dL_law_347 : decode cL_law 347 = .ok (.iadd, 1) := by decide +kernel
theorem dL_law_348 : decode cL_law 348 = .ok (.iaload, 1) := by decide +kernel
theorem dL_law_349 : decode cL_law 349 = .ok (.aload_n 0, 1) := by decide +kernel
theorem dL_law_350 : decode cL_law 350 = .ok (.iload_n 3, 1) := by decide +kernel
theorem dL_law_351 : decode cL_law 351 = .ok (.iconst 3, 1) := by decide +kernel
theorem dL_law_352 : decode cL_law 352 = .ok (.iadd, 1) := by decide +kernel
theorem dL_law_353 : decode cL_law 353 = .ok (.iaload, 1) := by decide +kernel
theorem dL_law_354 : decode cL_law 354 = .ok (.invokevirtual 23, 3) := by decide +kernel
theorem dL_law_357 : decode cL_law 357 = .ok (.aload_n 2, 1) := by decide +kernel
theorem dL_law_358 : decode cL_law 358 = .ok (.aload_n 0, 1) := by decide +kernel
theorem dL_law_359 : decode cL_law 359 = .ok (.iload_n 3, 1) := by decide +kernel
theorem dL_law_360 : decode cL_law 360 = .ok (.iconst 1, 1) := by decide +kernel
theorem dL_law_361 : decode cL_law 361 = .ok (.iadd, 1) := by decide +kernel
theorem dL_law_362 : decode cL_law 362 = .ok (.iaload, 1) := by decide +kernel
theorem dL_law_363 : decode cL_law 363 = .ok (.aload_n 0, 1) := by decide +kernel
theorem dL_law_364 : decode cL_law 364 = .ok (.iload_n 3, 1) := by decide +kernel
theorem dL_law_365 : decode cL_law 365 = .ok (.iconst 2, 1) := by decide +kernel
theorem dL_law_366 : decode cL_law 366 = .ok (.iadd, 1) := by decide +kernel
theorem dL_law_367 : decode cL_law 367 = .ok (.iaload, 1) := by decide +kernel
theorem dL_law_368 : decode cL_law 368 = .ok (.aload_n 0, 1) := by decide +kernel
theorem dL_law_369 : decode cL_law 369 = .ok (.iload_n 3, 1) := by decide +kernel
theorem dL_law_370 : decode cL_law 370 = .ok (.iconst 3, 1) := by decide +kernel
theorem dL_law_371 : decode cL_law 371 = .ok (.iadd, 1) := by decide +kernel
theorem dL_law_372 : decode cL_law 372 = .ok (.iaload, 1) := by decide +kernel
theorem dL_law_373 : decode cL_law 373 = .ok (.invokevirtual 27, 3) := by decide +kernel
theorem dL_law_376 : decode cL_law 376 = .ok (.if_icmp .eq 1369, 3) := by decide +kernel
theorem dL_law_379 : decode cL_law 379 = .ok (.iconst 0, 1) := by decide +kernel
theorem dL_law_380 : decode cL_law 380 = .ok (.ireturn, 1) := by decide +kernel
theorem dL_law_381 : decode cL_law 381 = .ok (.aload_n 1, 1) := by decide +kernel
theorem dL_law_382 : decode cL_law 382 = .ok (.aload_n 0, 1) := by decide +kernel
theorem dL_law_383 : decode cL_law 383 = .ok (.iload_n 3, 1) := by decide +kernel
theorem dL_law_384 : decode cL_law 384 = .ok (.iconst 1, 1) := by decide +kernel
theorem dL_law_385 : decode cL_law 385 = .ok (.iadd, 1) := by decide +kernel
theorem dL_law_386 : decode cL_law 386 = .ok (.iaload, 1) := by decide +kernel
theorem dL_law_387 : decode cL_law 387 = .ok (.aload_n 0, 1) := by decide +kernel
theorem dL_law_388 : decode cL_law 388 = .ok (.iload_n 3, 1) := by decide +kernel
theorem dL_law_389 : decode cL_law 389 = .ok (.iconst 2, 1) := by decide +kernel
theorem dL_law_390 : decode cL_law 390 = .ok (.iadd, 1) := by decide +kernel
theorem dL_law_391 : decode cL_law 391 = .ok (.iaload, 1) := by decide +kernel
theorem dL_law_392 : decode cL_law 392 = .ok (.invokevirtual 28, 3) := by decide +kernel
theorem dL_law_395 : decode cL_law 395 = .ok (.aload_n 2, 1) := by decide +kernel
theorem dL_law_396 : decode cL_law 396 = .ok (.aload_n 0, 1) := by decide +kernel
theorem dL_law_397 : decode cL_law 397 = .ok (.iload_n 3, 1) := by decide +kernel
theorem dL_law_398 : decode cL_law 398 = .ok (.iconst 1, 1) := by decide +kernel
theorem dL_law_399 : decode cL_law 399 = .ok (.iadd, 1) := by decide +kernel
theorem dL_law_400 : decode cL_law 400 = .ok (.iaload, 1) := by decide +kernel
theorem dL_law_401 : decode cL_law 401 = .ok (.aload_n 0, 1) := by decide +kernel
theorem dL_law_402 : decode cL_law 402 = .ok (.iload_n 3, 1) := by decide +kernel
theorem dL_law_403 : decode cL_law 403 = .ok (.iconst 2, 1) := by decide +kernel
theorem dL_law_404 : decode cL_law 404 = .ok (.iadd, 1) := by decide +kernel
theorem dL_law_405 : decode cL_law 405 = .ok (.iaload, 1) := by decide +kernel
theorem dL_law_406 : decode cL_law 406 = .ok (.invokevirtual 31, 3) := by decide +kernel
theorem dL_law_409 : decode cL_law 409 = .ok (.if_icmp .eq 1336, 3) := by decide +kernel
theorem dL_law_412 : decode cL_law 412 = .ok (.iconst 0, 1) := by decide +kernel
theorem dL_law_413 : decode cL_law 413 = .ok (.ireturn, 1) := by decide +kernel
theorem dL_law_414 : decode cL_law 414 = .ok (.aload_n 1, 1) := by decide +kernel
theorem dL_law_415 : decode cL_law 415 = .ok (.aload_n 0, 1) := by decide +kernel
theorem dL_law_416 : decode cL_law 416 = .ok (.iload_n 3, 1) := by decide +kernel
theorem dL_law_417 : decode cL_law 417 = .ok (.iconst 1, 1) := by decide +kernel
theorem dL_law_418 : decode cL_law 418 = .ok (.iadd, 1) := by decide +kernel
theorem dL_law_419 : decode cL_law 419 = .ok (.iaload, 1) := by decide +kernel
theorem dL_law_420 : decode cL_law 420 = .ok (.aload_n 0, 1) := by decide +kernel
theorem dL_law_421 : decode cL_law 421 = .ok (.iload_n 3, 1) := by decide +kernel
theorem dL_law_422 : decode cL_law 422 = .ok (.iconst 2, 1) := by decide +kernel
theorem dL_law_423 : decode cL_law 423 = .ok (.iadd, 1) := by decide +kernel
theorem dL_law_424 : decode cL_law 424 = .ok (.iaload, 1) := by decide +kernel
theorem dL_law_425 : decode cL_law 425 = .ok (.invokevirtual 32, 3) := by decide +kernel
theorem dL_law_428 : decode cL_law 428 = .ok (.aload_n 2, 1) := by decide +kernel
theorem dL_law_429 : decode cL_law 429 = .ok (.aload_n 0, 1) := by decide +kernel
theorem dL_law_430 : decode cL_law 430 = .ok (.iload_n 3, 1) := by decide +kernel
theorem dL_law_431 : decode cL_law 431 = .ok (.iconst 1, 1) := by decide +kernel
theorem dL_law_432 : decode cL_law 432 = .ok (.iadd, 1) := by decide +kernel
theorem dL_law_433 : decode cL_law 433 = .ok (.iaload, 1) := by decide +kernel
theorem dL_law_434 : decode cL_law 434 = .ok (.aload_n 0, 1) := by decide +kernel
theorem dL_law_435 : decode cL_law 435 = .ok (.iload_n 3, 1) := by decide +kernel
theorem dL_law_436 : decode cL_law 436 = .ok (.iconst 2, 1) := by decide +kernel
theorem dL_law_437 : decode cL_law 437 = .ok (.iadd, 1) := by decide +kernel
theorem dL_law_438 : decode cL_law 438 = .ok (.iaload, 1) := by decide +kernel
theorem dL_law_439 : decode cL_law 439 = .ok (.invokevirtual 35, 3) := by decide +kernel
theorem dL_law_442 : decode cL_law 442 = .ok (.if_icmp .eq 1303, 3) := by decide +kernel
theorem dL_law_445 : decode cL_law 445 = .ok (.iconst 0, 1) := by decide +kernel
theorem dL_law_446 : decode cL_law 446 = .ok (.ireturn, 1) := by decide +kernel
theorem dL_law_447 : decode cL_law 447 = .ok (.aload_n 1, 1) := by decide +kernel
theorem dL_law_448 : decode cL_law 448 = .ok (.aload_n 0, 1) := by decide +kernel
theorem dL_law_449 : decode cL_law 449 = .ok (.iload_n 3, 1) := by decide +kernel
theorem dL_law_450 : decode cL_law 450 = .ok (.iconst 1, 1) := by decide +kernel
theorem dL_law_451 : decode cL_law 451 = .ok (.iadd, 1) := by decide +kernel
theorem dL_law_452 : decode cL_law 452 = .ok (.iaload, 1) := by decide +kernel
theorem dL_law_453 : decode cL_law 453 = .ok (.aload_n 0, 1) := by decide +kernel
theorem dL_law_454 : decode cL_law 454 = .ok (.iload_n 3, 1) := by decide +kernel
theorem dL_law_455 : decode cL_law 455 = .ok (.iconst 2, 1) := by decide +kernel
theorem dL_law_456 : decode cL_law 456 = .ok (.iadd, 1) := by decide +kernel
theorem dL_law_457 : decode cL_law 457 = .ok (.iaload, 1) := by decide +kernel
theorem dL_law_458 : decode cL_law 458 = .ok (.aload_n 0, 1) := by decide +kernel
theorem dL_law_459 : decode cL_law 459 = .ok (.iload_n 3, 1) := by decide +kernel
theorem dL_law_460 : decode cL_law 460 = .ok (.iconst 3, 1) := by decide +kernel
theorem dL_law_461 : decode cL_law 461 = .ok (.iadd, 1) := by decide +kernel
theorem dL_law_462 : decode cL_law 462 = .ok (.iaload, 1) := by decide +kernel
theorem dL_law_463 : decode cL_law 463 = .ok (.invokevirtual 36, 3) := by decide +kernel
theorem dL_law_466 : decode cL_law 466 = .ok (.aload_n 2, 1) := by decide +kernel
theorem dL_law_467 : decode cL_law 467 = .ok (.aload_n 0, 1) := by decide +kernel
theorem dL_law_468 : decode cL_law 468 = .ok (.iload_n 3, 1) := by decide +kernel
theorem dL_law_469 : decode cL_law 469 = .ok (.iconst 1, 1) := by decide +kernel
theorem dL_law_470 : decode cL_law 470 = .ok (.iadd, 1) := by decide +kernel
theorem dL_law_471 : decode cL_law 471 = .ok (.iaload, 1) := by decide +kernel
theorem dL_law_472 : decode cL_law 472 = .ok (.aload_n 0, 1) := by decide +kernel
theorem dL_law_473 : decode cL_law 473 = .ok (.iload_n 3, 1) := by decide +kernel
theorem dL_law_474 : decode cL_law 474 = .ok (.iconst 2, 1) := by decide +kernel
theorem dL_law_475 : decode cL_law 475 = .ok (.iadd, 1) := by decide +kernel
theorem dL_law_476 : decode cL_law 476 = .ok (.iaload, 1) := by decide +kernel
theorem dL_law_477 : decode cL_law 477 = .ok (.aload_n 0, 1) := by decide +kernel
theorem dL_law_478 : decode cL_law 478 = .ok (.iload_n 3, 1) := by decide +kernel
theorem dL_law_479 : decode cL_law 479 = .ok (.iconst 3, 1) := by decide +kernel
theorem dL_law_480 : decode cL_law 480 = .ok (.iadd, 1) := by decide +kernel
theorem dL_law_481 : decode cL_law 481 = .ok (.iaload, 1) := by decide +kernel
theorem dL_law_482 : decode cL_law 482 = .ok (.invokevirtual 39, 3) := by decide +kernel
theorem dL_law_485 : decode cL_law 485 = .ok (.if_icmp .eq 1260, 3) := by decide +kernel
theorem dL_law_488 : decode cL_law 488 = .ok (.iconst 0, 1) := by decide +kernel
theorem dL_law_489 : decode cL_law 489 = .ok (.ireturn, 1) := by decide +kernel
theorem dL_law_490 : decode cL_law 490 = .ok (.aload_n 1, 1) := by decide +kernel
theorem dL_law_491 : decode cL_law 491 = .ok (.aload_n 0, 1) := by decide +kernel
theorem dL_law_492 : decode cL_law 492 = .ok (.iload_n 3, 1) := by decide +kernel
theorem dL_law_493 : decode cL_law 493 = .ok (.iconst 1, 1) := by decide +kernel
theorem dL_law_494 : decode cL_law 494 = .ok (.iadd, 1) := by decide +kernel
theorem dL_law_495 : decode cL_law 495 = .ok (.iaload, 1) := by decide +kernel
theorem dL_law_496 : decode cL_law 496 = .ok (.aload_n 0, 1) := by decide +kernel
theorem dL_law_497 : decode cL_law 497 = .ok (.iload_n 3, 1) := by decide +kernel
theorem dL_law_498 : decode cL_law 498 = .ok (.iconst 2, 1) := by decide +kernel
theorem dL_law_499 : decode cL_law 499 = .ok (.iadd, 1) := by decide +kernel
theorem dL_law_500 : decode cL_law 500 = .ok (.iaload, 1) := by decide +kernel
theorem dL_law_501 : decode cL_law 501 = .ok (.invokevirtual 40, 3) := by decide +kernel
theorem dL_law_504 : decode cL_law 504 = .ok (.aload_n 2, 1) := by decide +kernel
theorem dL_law_505 : decode cL_law 505 = .ok (.aload_n 0, 1) := by decide +kernel
theorem dL_law_506 : decode cL_law 506 = .ok (.iload_n 3, 1) := by decide +kernel
theorem dL_law_507 : decode cL_law 507 = .ok (.iconst 1, 1) := by decide +kernel
theorem dL_law_508 : decode cL_law 508 = .ok (.iadd, 1) := by decide +kernel
theorem dL_law_509 : decode cL_law 509 = .ok (.iaload, 1) := by decide +kernel
theorem dL_law_510 : decode cL_law 510 = .ok (.aload_n 0, 1) := by decide +kernel
theorem dL_law_511 : decode cL_law 511 = .ok (.iload_n 3, 1) := by decide +kernel
theorem dL_law_512 : decode cL_law 512 = .ok (.iconst 2, 1) := by decide +kernel
theorem dL_law_513 : decode cL_law 513 = .ok (.iadd, 1) := by decide +kernel
theorem dL_law_514 : decode cL_law 514 = .ok (.iaload, 1) := by decide +kernel
theorem dL_law_515 : decode cL_law 515 = .ok (.invokevirtual 43, 3) := by decide +kernel
theorem dL_law_518 : decode cL_law 518 = .ok (.if_icmp .eq 1227, 3) := by decide +kernel
theorem dL_law_521 : decode cL_law 521 = .ok (.iconst 0, 1) := by decide +kernel
theorem dL_law_522 : decode cL_law 522 = .ok (.ireturn, 1) := by decide +kernel
theorem dL_law_523 : decode cL_law 523 = .ok (.aload_n 1, 1) := by decide +kernel
theorem dL_law_524 : decode cL_law 524 = .ok (.aload_n 0, 1) := by decide +kernel
theorem dL_law_525 : decode cL_law 525 = .ok (.iload_n 3, 1) := by decide +kernel
theorem dL_law_526 : decode cL_law 526 = .ok (.iconst 1, 1) := by decide +kernel
theorem dL_law_527 : decode cL_law 527 = .ok (.iadd, 1) := by decide +kernel
theorem dL_law_528 : decode cL_law 528 = .ok (.iaload, 1) := by decide +kernel
theorem dL_law_529 : decode cL_law 529 = .ok (.invokevirtual 44, 3) := by decide +kernel
theorem dL_law_532 : decode cL_law 532 = .ok (.aload_n 2, 1) := by decide +kernel
theorem dL_law_533 : decode cL_law 533 = .ok (.aload_n 0, 1) := by decide +kernel
theorem dL_law_534 : decode cL_law 534 = .ok (.iload_n 3, 1) := by decide +kernel
theorem dL_law_535 : decode cL_law 535 = .ok (.iconst 1, 1) := by decide +kernel
theorem dL_law_536 : decode cL_law 536 = .ok (.iadd, 1) := by decide +kernel
theorem dL_law_537 : decode cL_law 537 = .ok (.iaload, 1) := by decide +kernel
theorem dL_law_538 : decode cL_law 538 = .ok (.invokevirtual 48, 3) := by decide +kernel
theorem dL_law_541 : decode cL_law 541 = .ok (.if_icmp .eq 1204, 3) := by decide +kernel
theorem dL_law_544 : decode cL_law 544 = .ok (.iconst 0, 1) := by decide +kernel
theorem dL_law_545 : decode cL_law 545 = .ok (.ireturn, 1) := by decide +kernel
theorem dL_law_546 : decode cL_law 546 = .ok (.aload_n 1, 1) := by decide +kernel
theorem dL_law_547 : decode cL_law 547 = .ok (.invokevirtual 49, 3) := by decide +kernel
theorem dL_law_550 : decode cL_law 550 = .ok (.aload_n 2, 1) := by decide +kernel
theorem dL_law_551 : decode cL_law 551 = .ok (.invokevirtual 53, 3) := by decide +kernel
theorem dL_law_554 : decode cL_law 554 = .ok (.if_icmp .eq 1191, 3) := by decide +kernel
theorem dL_law_557 : decode cL_law 557 = .ok (.iconst 0, 1) := by decide +kernel
theorem dL_law_558 : decode cL_law 558 = .ok (.ireturn, 1) := by decide +kernel
theorem dL_law_559 : decode cL_law 559 = .ok (.aload_n 1, 1) := by decide +kernel
theorem dL_law_560 : decode cL_law 560 = .ok (.aload_n 0, 1) := by decide +kernel
theorem dL_law_561 : decode cL_law 561 = .ok (.iload_n 3, 1) := by decide +kernel
theorem dL_law_562 : decode cL_law 562 = .ok (.iconst 1, 1) := by decide +kernel
theorem dL_law_563 : decode cL_law 563 = .ok (.iadd, 1) := by decide +kernel
theorem dL_law_564 : decode cL_law 564 = .ok (.iaload, 1) := by decide +kernel
theorem dL_law_565 : decode cL_law 565 = .ok (.invokevirtual 54, 3) := by decide +kernel
theorem dL_law_568 : decode cL_law 568 = .ok (.aload_n 2, 1) := by decide +kernel
theorem dL_law_569 : decode cL_law 569 = .ok (.aload_n 0, 1) := by decide +kernel
theorem dL_law_570 : decode cL_law 570 = .ok (.iload_n 3, 1) := by decide +kernel
theorem dL_law_571 : decode cL_law 571 = .ok (.iconst 1, 1) := by decide +kernel
theorem dL_law_572 : decode cL_law 572 = .ok (.iadd, 1) := by decide +kernel
theorem dL_law_573 : decode cL_law 573 = .ok (.iaload, 1) := by decide +kernel
theorem dL_law_574 : decode cL_law 574 = .ok (.invokevirtual 57, 3) := by decide +kernel
theorem dL_law_577 : decode cL_law 577 = .ok (.if_icmp .eq 1168, 3) := by decide +kernel
theorem dL_law_580 : decode cL_law 580 = .ok (.iconst 0, 1) := by decide +kernel
theorem dL_law_581 : decode cL_law 581 = .ok (.ireturn, 1) := by decide +kernel
theorem dL_law_582 : decode cL_law 582 = .ok (.aload_n 1, 1) := by decide +kernel
theorem dL_law_583 : decode cL_law 583 = .ok (.aload_n 0, 1) := by decide +kernel
theorem dL_law_584 : decode cL_law 584 = .ok (.iload_n 3, 1) := by decide +kernel
theorem dL_law_585 : decode cL_law 585 = .ok (.iconst 1, 1) := by decide +kernel
theorem dL_law_586 : decode cL_law 586 = .ok (.iadd, 1) := by decide +kernel
theorem dL_law_587 : decode cL_law 587 = .ok (.iaload, 1) := by decide +kernel
theorem dL_law_588 : decode cL_law 588 = .ok (.i2l, 1) := by decide +kernel
theorem dL_law_589 : decode cL_law 589 = .ok (.bipush 32, 2) := by decide +kernel
theorem dL_law_591 : decode cL_law 591 = .ok (.lshl, 1) := by decide +kernel
theorem dL_law_592 : decode cL_law 592 = .ok (.aload_n 0, 1) := by decide +kernel
theorem dL_law_593 : decode cL_law 593 = .ok (.iload_n 3, 1) := by decide +kernel
theorem dL_law_594 : decode cL_law 594 = .ok (.iconst 2, 1) := by decide +kernel
theorem dL_law_595 : decode cL_law 595 = .ok (.iadd, 1) := by decide +kernel
theorem dL_law_596 : decode cL_law 596 = .ok (.iaload, 1) := by decide +kernel
theorem dL_law_597 : decode cL_law 597 = .ok (.i2l, 1) := by decide +kernel
theorem dL_law_598 : decode cL_law 598 = .ok (.ldc2_w 58, 3) := by decide +kernel
theorem dL_law_601 : decode cL_law 601 = .ok (.land, 1) := by decide +kernel
theorem dL_law_602 : decode cL_law 602 = .ok (.lor, 1) := by decide +kernel
theorem dL_law_603 : decode cL_law 603 = .ok (.aload_n 0, 1) := by decide +kernel
theorem dL_law_604 : decode cL_law 604 = .ok (.iload_n 3, 1) := by decide +kernel
theorem dL_law_605 : decode cL_law 605 = .ok (.iconst 3, 1) := by decide +kernel
theorem dL_law_606 : decode cL_law 606 = .ok (.iadd, 1) := by decide +kernel
theorem dL_law_607 : decode cL_law 607 = .ok (.iaload, 1) := by decide +kernel
theorem dL_law_608 : decode cL_law 608 = .ok (.invokevirtual 60, 3) := by decide +kernel
theorem dL_law_611 : decode cL_law 611 = .ok (.aload_n 2, 1) := by decide +kernel
theorem dL_law_612 : decode cL_law 612 = .ok (.aload_n 0, 1) := by decide +kernel
theorem dL_law_613 : decode cL_law 613 = .ok (.iload_n 3, 1) := by decide +kernel
theorem dL_law_614 : decode cL_law 614 = .ok (.iconst 1, 1) := by decide +kernel
theorem dL_law_615 : decode cL_law 615 = .ok (.iadd, 1) := by decide +kernel
theorem dL_law_616 : decode cL_law 616 = .ok (.iaload, 1) := by decide +kernel
theorem dL_law_617 : decode cL_law 617 = .ok (.i2l, 1) := by decide +kernel
theorem dL_law_618 : decode cL_law 618 = .ok (.bipush 32, 2) := by decide +kernel
theorem dL_law_620 : decode cL_law 620 = .ok (.lshl, 1) := by decide +kernel
theorem dL_law_621 : decode cL_law 621 = .ok (.aload_n 0, 1) := by decide +kernel
theorem dL_law_622 : decode cL_law 622 = .ok (.iload_n 3, 1) := by decide +kernel
theorem dL_law_623 : decode cL_law 623 = .ok (.iconst 2, 1) := by decide +kernel
theorem dL_law_624 : decode cL_law 624 = .ok (.iadd, 1) := by decide +kernel
theorem dL_law_625 : decode cL_law 625 = .ok (.iaload, 1) := by decide +kernel
theorem dL_law_626 : decode cL_law 626 = .ok (.i2l, 1) := by decide +kernel
theorem dL_law_627 : decode cL_law 627 = .ok (.ldc2_w 58, 3) := by decide +kernel
theorem dL_law_630 : decode cL_law 630 = .ok (.land, 1) := by decide +kernel
theorem dL_law_631 : decode cL_law 631 = .ok (.lor, 1) := by decide +kernel
theorem dL_law_632 : decode cL_law 632 = .ok (.aload_n 0, 1) := by decide +kernel
theorem dL_law_633 : decode cL_law 633 = .ok (.iload_n 3, 1) := by decide +kernel
theorem dL_law_634 : decode cL_law 634 = .ok (.iconst 3, 1) := by decide +kernel
theorem dL_law_635 : decode cL_law 635 = .ok (.iadd, 1) := by decide +kernel
theorem dL_law_636 : decode cL_law 636 = .ok (.iaload, 1) := by decide +kernel
theorem dL_law_637 : decode cL_law 637 = .ok (.invokevirtual 64, 3) := by decide +kernel
theorem dL_law_640 : decode cL_law 640 = .ok (.if_icmp .eq 1105, 3) := by decide +kernel
theorem dL_law_643 : decode cL_law 643 = .ok (.iconst 0, 1) := by decide +kernel
theorem dL_law_644 : decode cL_law 644 = .ok (.ireturn, 1) := by decide +kernel
theorem dL_law_645 : decode cL_law 645 = .ok (.aload_n 1, 1) := by decide +kernel
theorem dL_law_646 : decode cL_law 646 = .ok (.invokevirtual 65, 3) := by decide +kernel
theorem dL_law_649 : decode cL_law 649 = .ok (.aload_n 2, 1) := by decide +kernel
theorem dL_law_650 : decode cL_law 650 = .ok (.invokevirtual 68, 3) := by decide +kernel
theorem dL_law_653 : decode cL_law 653 = .ok (.if_icmp .eq 1092, 3) := by decide +kernel
theorem dL_law_656 : decode cL_law 656 = .ok (.iconst 0, 1) := by decide +kernel
theorem dL_law_657 : decode cL_law 657 = .ok (.ireturn, 1) := by decide +kernel
theorem dL_law_658 : decode cL_law 658 = .ok (.aload_n 1, 1) := by decide +kernel
theorem dL_law_659 : decode cL_law 659 = .ok (.invokevirtual 69, 3) := by decide +kernel
theorem dL_law_662 : decode cL_law 662 = .ok (.aload_n 2, 1) := by decide +kernel
theorem dL_law_663 : decode cL_law 663 = .ok (.invokevirtual 72, 3) := by decide +kernel
theorem dL_law_666 : decode cL_law 666 = .ok (.if_icmp .eq 1079, 3) := by decide +kernel
theorem dL_law_669 : decode cL_law 669 = .ok (.iconst 0, 1) := by decide +kernel
theorem dL_law_670 : decode cL_law 670 = .ok (.ireturn, 1) := by decide +kernel
theorem dL_law_671 : decode cL_law 671 = .ok (.aload_n 1, 1) := by decide +kernel
theorem dL_law_672 : decode cL_law 672 = .ok (.aload_n 0, 1) := by decide +kernel
theorem dL_law_673 : decode cL_law 673 = .ok (.iload_n 3, 1) := by decide +kernel
theorem dL_law_674 : decode cL_law 674 = .ok (.iconst 1, 1) := by decide +kernel
theorem dL_law_675 : decode cL_law 675 = .ok (.iadd, 1) := by decide +kernel
theorem dL_law_676 : decode cL_law 676 = .ok (.iaload, 1) := by decide +kernel
theorem dL_law_677 : decode cL_law 677 = .ok (.invokevirtual 73, 3) := by decide +kernel
theorem dL_law_680 : decode cL_law 680 = .ok (.aload_n 2, 1) := by decide +kernel
theorem dL_law_681 : decode cL_law 681 = .ok (.aload_n 0, 1) := by decide +kernel
theorem dL_law_682 : decode cL_law 682 = .ok (.iload_n 3, 1) := by decide +kernel
theorem dL_law_683 : decode cL_law 683 = .ok (.iconst 1, 1) := by decide +kernel
theorem dL_law_684 : decode cL_law 684 = .ok (.iadd, 1) := by decide +kernel
theorem dL_law_685 : decode cL_law 685 = .ok (.iaload, 1) := by decide +kernel
theorem dL_law_686 : decode cL_law 686 = .ok (.invokevirtual 76, 3) := by decide +kernel
theorem dL_law_689 : decode cL_law 689 = .ok (.if_icmp .eq 1056, 3) := by decide +kernel
theorem dL_law_692 : decode cL_law 692 = .ok (.iconst 0, 1) := by decide +kernel
theorem dL_law_693 : decode cL_law 693 = .ok (.ireturn, 1) := by decide +kernel
theorem dL_law_694 : decode cL_law 694 = .ok (.aload_n 1, 1) := by decide +kernel
theorem dL_law_695 : decode cL_law 695 = .ok (.aload_n 0, 1) := by decide +kernel
theorem dL_law_696 : decode cL_law 696 = .ok (.iload_n 3, 1) := by decide +kernel
theorem dL_law_697 : decode cL_law 697 = .ok (.iconst 1, 1) := by decide +kernel
theorem dL_law_698 : decode cL_law 698 = .ok (.iadd, 1) := by decide +kernel
theorem dL_law_699 : decode cL_law 699 = .ok (.iaload, 1) := by decide +kernel
theorem dL_law_700 : decode cL_law 700 = .ok (.invokevirtual 77, 3) := by decide +kernel
theorem dL_law_703 : decode cL_law 703 = .ok (.aload_n 2, 1) := by decide +kernel
theorem dL_law_704 : decode cL_law 704 = .ok (.aload_n 0, 1) := by decide +kernel
theorem dL_law_705 : decode cL_law 705 = .ok (.iload_n 3, 1) := by decide +kernel
theorem dL_law_706 : decode cL_law 706 = .ok (.iconst 1, 1) := by decide +kernel
theorem dL_law_707 : decode cL_law 707 = .ok (.iadd, 1) := by decide +kernel
theorem dL_law_708 : decode cL_law 708 = .ok (.iaload, 1) := by decide +kernel
theorem dL_law_709 : decode cL_law 709 = .ok (.invokevirtual 80, 3) := by decide +kernel
theorem dL_law_712 : decode cL_law 712 = .ok (.if_icmp .eq 1033, 3) := by decide +kernel
theorem dL_law_715 : decode cL_law 715 = .ok (.iconst 0, 1) := by decide +kernel
theorem dL_law_716 : decode cL_law 716 = .ok (.ireturn, 1) := by decide +kernel
theorem dL_law_717 : decode cL_law 717 = .ok (.aload_n 1, 1) := by decide +kernel
theorem dL_law_718 : decode cL_law 718 = .ok (.aload_n 0, 1) := by decide +kernel
theorem dL_law_719 : decode cL_law 719 = .ok (.iload_n 3, 1) := by decide +kernel
theorem dL_law_720 : decode cL_law 720 = .ok (.iconst 1, 1) := by decide +kernel
theorem dL_law_721 : decode cL_law 721 = .ok (.iadd, 1) := by decide +kernel
theorem dL_law_722 : decode cL_law 722 = .ok (.iaload, 1) := by decide +kernel
theorem dL_law_723 : decode cL_law 723 = .ok (.invokevirtual 81, 3) := by decide +kernel
theorem dL_law_726 : decode cL_law 726 = .ok (.aload_n 2, 1) := by decide +kernel
theorem dL_law_727 : decode cL_law 727 = .ok (.aload_n 0, 1) := by decide +kernel
theorem dL_law_728 : decode cL_law 728 = .ok (.iload_n 3, 1) := by decide +kernel
theorem dL_law_729 : decode cL_law 729 = .ok (.iconst 1, 1) := by decide +kernel
theorem dL_law_730 : decode cL_law 730 = .ok (.iadd, 1) := by decide +kernel
theorem dL_law_731 : decode cL_law 731 = .ok (.iaload, 1) := by decide +kernel
theorem dL_law_732 : decode cL_law 732 = .ok (.invokevirtual 84, 3) := by decide +kernel
theorem dL_law_735 : decode cL_law 735 = .ok (.if_icmp .eq 1010, 3) := by decide +kernel
theorem dL_law_738 : decode cL_law 738 = .ok (.iconst 0, 1) := by decide +kernel
theorem dL_law_739 : decode cL_law 739 = .ok (.ireturn, 1) := by decide +kernel
theorem dL_law_740 : decode cL_law 740 = .ok (.aload_n 1, 1) := by decide +kernel
theorem dL_law_741 : decode cL_law 741 = .ok (.aload_n 0, 1) := by decide +kernel
theorem dL_law_742 : decode cL_law 742 = .ok (.iload_n 3, 1) := by decide +kernel
theorem dL_law_743 : decode cL_law 743 = .ok (.iconst 1, 1) := by decide +kernel
theorem dL_law_744 : decode cL_law 744 = .ok (.iadd, 1) := by decide +kernel
theorem dL_law_745 : decode cL_law 745 = .ok (.iaload, 1) := by decide +kernel
theorem dL_law_746 : decode cL_law 746 = .ok (.invokevirtual 85, 3) := by decide +kernel
theorem dL_law_749 : decode cL_law 749 = .ok (.aload_n 2, 1) := by decide +kernel
theorem dL_law_750 : decode cL_law 750 = .ok (.aload_n 0, 1) := by decide +kernel
theorem dL_law_751 : decode cL_law 751 = .ok (.iload_n 3, 1) := by decide +kernel
theorem dL_law_752 : decode cL_law 752 = .ok (.iconst 1, 1) := by decide +kernel
theorem dL_law_753 : decode cL_law 753 = .ok (.iadd, 1) := by decide +kernel
theorem dL_law_754 : decode cL_law 754 = .ok (.iaload, 1) := by decide +kernel
theorem dL_law_755 : decode cL_law 755 = .ok (.invokevirtual 88, 3) := by decide +kernel
theorem dL_law_758 : decode cL_law 758 = .ok (.if_icmp .eq 987, 3) := by decide +kernel
theorem dL_law_761 : decode cL_law 761 = .ok (.iconst 0, 1) := by decide +kernel
theorem dL_law_762 : decode cL_law 762 = .ok (.ireturn, 1) := by decide +kernel
theorem dL_law_763 : decode cL_law 763 = .ok (.aload_n 1, 1) := by decide +kernel
theorem dL_law_764 : decode cL_law 764 = .ok (.aload_n 0, 1) := by decide +kernel
theorem dL_law_765 : decode cL_law 765 = .ok (.iload_n 3, 1) := by decide +kernel
theorem dL_law_766 : decode cL_law 766 = .ok (.iconst 1, 1) := by decide +kernel
theorem dL_law_767 : decode cL_law 767 = .ok (.iadd, 1) := by decide +kernel
theorem dL_law_768 : decode cL_law 768 = .ok (.iaload, 1) := by decide +kernel
theorem dL_law_769 : decode cL_law 769 = .ok (.invokevirtual 89, 3) := by decide +kernel
theorem dL_law_772 : decode cL_law 772 = .ok (.aload_n 2, 1) := by decide +kernel
theorem dL_law_773 : decode cL_law 773 = .ok (.aload_n 0, 1) := by decide +kernel
theorem dL_law_774 : decode cL_law 774 = .ok (.iload_n 3, 1) := by decide +kernel
theorem dL_law_775 : decode cL_law 775 = .ok (.iconst 1, 1) := by decide +kernel
theorem dL_law_776 : decode cL_law 776 = .ok (.iadd, 1) := by decide +kernel
theorem dL_law_777 : decode cL_law 777 = .ok (.iaload, 1) := by decide +kernel
theorem dL_law_778 : decode cL_law 778 = .ok (.invokevirtual 92, 3) := by decide +kernel
theorem dL_law_781 : decode cL_law 781 = .ok (.if_icmp .eq 964, 3) := by decide +kernel
theorem dL_law_784 : decode cL_law 784 = .ok (.iconst 0, 1) := by decide +kernel
theorem dL_law_785 : decode cL_law 785 = .ok (.ireturn, 1) := by decide +kernel
theorem dL_law_786 : decode cL_law 786 = .ok (.aload_n 1, 1) := by decide +kernel
theorem dL_law_787 : decode cL_law 787 = .ok (.aload_n 0, 1) := by decide +kernel
theorem dL_law_788 : decode cL_law 788 = .ok (.iload_n 3, 1) := by decide +kernel
theorem dL_law_789 : decode cL_law 789 = .ok (.iconst 1, 1) := by decide +kernel
theorem dL_law_790 : decode cL_law 790 = .ok (.iadd, 1) := by decide +kernel
theorem dL_law_791 : decode cL_law 791 = .ok (.iaload, 1) := by decide +kernel
theorem dL_law_792 : decode cL_law 792 = .ok (.invokevirtual 93, 3) := by decide +kernel
theorem dL_law_795 : decode cL_law 795 = .ok (.aload_n 2, 1) := by decide +kernel
theorem dL_law_796 : decode cL_law 796 = .ok (.aload_n 0, 1) := by decide +kernel
theorem dL_law_797 : decode cL_law 797 = .ok (.iload_n 3, 1) := by decide +kernel
theorem dL_law_798 : decode cL_law 798 = .ok (.iconst 1, 1) := by decide +kernel
theorem dL_law_799 : decode cL_law 799 = .ok (.iadd, 1) := by decide +kernel
theorem dL_law_800 : decode cL_law 800 = .ok (.iaload, 1) := by decide +kernel
theorem dL_law_801 : decode cL_law 801 = .ok (.invokevirtual 96, 3) := by decide +kernel
theorem dL_law_804 : decode cL_law 804 = .ok (.if_icmp .eq 941, 3) := by decide +kernel
theorem dL_law_807 : decode cL_law 807 = .ok (.iconst 0, 1) := by decide +kernel
theorem dL_law_808 : decode cL_law 808 = .ok (.ireturn, 1) := by decide +kernel
theorem dL_law_809 : decode cL_law 809 = .ok (.aload_n 1, 1) := by decide +kernel
theorem dL_law_810 : decode cL_law 810 = .ok (.aload_n 0, 1) := by decide +kernel
theorem dL_law_811 : decode cL_law 811 = .ok (.iload_n 3, 1) := by decide +kernel
theorem dL_law_812 : decode cL_law 812 = .ok (.iconst 1, 1) := by decide +kernel
theorem dL_law_813 : decode cL_law 813 = .ok (.iadd, 1) := by decide +kernel
theorem dL_law_814 : decode cL_law 814 = .ok (.iaload, 1) := by decide +kernel
theorem dL_law_815 : decode cL_law 815 = .ok (.aload_n 0, 1) := by decide +kernel
theorem dL_law_816 : decode cL_law 816 = .ok (.iload_n 3, 1) := by decide +kernel
theorem dL_law_817 : decode cL_law 817 = .ok (.iconst 2, 1) := by decide +kernel
theorem dL_law_818 : decode cL_law 818 = .ok (.iadd, 1) := by decide +kernel
theorem dL_law_819 : decode cL_law 819 = .ok (.iaload, 1) := by decide +kernel
theorem dL_law_820 : decode cL_law 820 = .ok (.invokevirtual 97, 3) := by decide +kernel
theorem dL_law_823 : decode cL_law 823 = .ok (.aload_n 2, 1) := by decide +kernel
theorem dL_law_824 : decode cL_law 824 = .ok (.aload_n 0, 1) := by decide +kernel
theorem dL_law_825 : decode cL_law 825 = .ok (.iload_n 3, 1) := by decide +kernel
theorem dL_law_826 : decode cL_law 826 = .ok (.iconst 1, 1) := by decide +kernel
theorem dL_law_827 : decode cL_law 827 = .ok (.iadd, 1) := by decide +kernel
theorem dL_law_828 : decode cL_law 828 = .ok (.iaload, 1) := by decide +kernel
theorem dL_law_829 : decode cL_law 829 = .ok (.aload_n 0, 1) := by decide +kernel
theorem dL_law_830 : decode cL_law 830 = .ok (.iload_n 3, 1) := by decide +kernel
theorem dL_law_831 : decode cL_law 831 = .ok (.iconst 2, 1) := by decide +kernel
theorem dL_law_832 : decode cL_law 832 = .ok (.iadd, 1) := by decide +kernel
theorem dL_law_833 : decode cL_law 833 = .ok (.iaload, 1) := by decide +kernel
theorem dL_law_834 : decode cL_law 834 = .ok (.invokevirtual 100, 3) := by decide +kernel
theorem dL_law_837 : decode cL_law 837 = .ok (.if_icmp .eq 908, 3) := by decide +kernel
theorem dL_law_840 : decode cL_law 840 = .ok (.iconst 0, 1) := by decide +kernel
theorem dL_law_841 : decode cL_law 841 = .ok (.ireturn, 1) := by decide +kernel
theorem dL_law_842 : decode cL_law 842 = .ok (.aload_n 1, 1) := by decide +kernel
theorem dL_law_843 : decode cL_law 843 = .ok (.aload_n 0, 1) := by decide +kernel
theorem dL_law_844 : decode cL_law 844 = .ok (.iload_n 3, 1) := by decide +kernel
theorem dL_law_845 : decode cL_law 845 = .ok (.iconst 1, 1) := by decide +kernel
theorem dL_law_846 : decode cL_law 846 = .ok (.iadd, 1) := by decide +kernel
theorem dL_law_847 : decode cL_law 847 = .ok (.iaload, 1) := by decide +kernel
theorem dL_law_848 : decode cL_law 848 = .ok (.invokevirtual 101, 3) := by decide +kernel
theorem dL_law_851 : decode cL_law 851 = .ok (.aload_n 2, 1) := by decide +kernel
theorem dL_law_852 : decode cL_law 852 = .ok (.aload_n 0, 1) := by decide +kernel
theorem dL_law_853 : decode cL_law 853 = .ok (.iload_n 3, 1) := by decide +kernel
theorem dL_law_854 : decode cL_law 854 = .ok (.iconst 1, 1) := by decide +kernel
theorem dL_law_855 : decode cL_law 855 = .ok (.iadd, 1) := by decide +kernel
theorem dL_law_856 : decode cL_law 856 = .ok (.iaload, 1) := by decide +kernel
theorem dL_law_857 : decode cL_law 857 = .ok (.invokevirtual 104, 3) := by decide +kernel
theorem dL_law_860 : decode cL_law 860 = .ok (.if_icmp .eq 885, 3) := by decide +kernel
theorem dL_law_863 : decode cL_law 863 = .ok (.iconst 0, 1) := by decide +kernel
theorem dL_law_864 : decode cL_law 864 = .ok (.ireturn, 1) := by decide +kernel
theorem dL_law_865 : decode cL_law 865 = .ok (.aload_n 1, 1) := by decide +kernel
theorem dL_law_866 : decode cL_law 866 = .ok (.aload_n 0, 1) := by decide +kernel
theorem dL_law_867 : decode cL_law 867 = .ok (.iload_n 3, 1) := by decide +kernel
theorem dL_law_868 : decode cL_law 868 = .ok (.iconst 1, 1) := by decide +kernel
theorem dL_law_869 : decode cL_law 869 = .ok (.iadd, 1) := by decide +kernel
theorem dL_law_870 : decode cL_law 870 = .ok (.iaload, 1) := by decide +kernel
theorem dL_law_871 : decode cL_law 871 = .ok (.invokevirtual 105, 3) := by decide +kernel
theorem dL_law_874 : decode cL_law 874 = .ok (.aload_n 2, 1) := by decide +kernel
theorem dL_law_875 : decode cL_law 875 = .ok (.aload_n 0, 1) := by decide +kernel
theorem dL_law_876 : decode cL_law 876 = .ok (.iload_n 3, 1) := by decide +kernel
theorem dL_law_877 : decode cL_law 877 = .ok (.iconst 1, 1) := by decide +kernel
theorem dL_law_878 : decode cL_law 878 = .ok (.iadd, 1) := by decide +kernel
theorem dL_law_879 : decode cL_law 879 = .ok (.iaload, 1) := by decide +kernel
theorem dL_law_880 : decode cL_law 880 = .ok (.invokevirtual 108, 3) := by decide +kernel
theorem dL_law_883 : decode cL_law 883 = .ok (.if_icmp .eq 862, 3) := by decide +kernel
theorem dL_law_886 : decode cL_law 886 = .ok (.iconst 0, 1) := by decide +kernel
theorem dL_law_887 : decode cL_law 887 = .ok (.ireturn, 1) := by decide +kernel
theorem dL_law_888 : decode cL_law 888 = .ok (.aload_n 1, 1) := by decide +kernel
theorem dL_law_889 : decode cL_law 889 = .ok (.aload_n 0, 1) := by decide +kernel
theorem dL_law_890 : decode cL_law 890 = .ok (.iload_n 3, 1) := by decide +kernel
theorem dL_law_891 : decode cL_law 891 = .ok (.iconst 1, 1) := by decide +kernel
theorem dL_law_892 : decode cL_law 892 = .ok (.iadd, 1) := by decide +kernel
theorem dL_law_893 : decode cL_law 893 = .ok (.iaload, 1) := by decide +kernel
theorem dL_law_894 : decode cL_law 894 = .ok (.aload_n 0, 1) := by decide +kernel
theorem dL_law_895 : decode cL_law 895 = .ok (.iload_n 3, 1) := by decide +kernel
theorem dL_law_896 : decode cL_law 896 = .ok (.iconst 2, 1) := by decide +kernel
theorem dL_law_897 : decode cL_law 897 = .ok (.iadd, 1) := by decide +kernel
theorem dL_law_898 : decode cL_law 898 = .ok (.iaload, 1) := by decide +kernel
theorem dL_law_899 : decode cL_law 899 = .ok (.invokevirtual 109, 3) := by decide +kernel
theorem dL_law_902 : decode cL_law 902 = .ok (.aload_n 2, 1) := by decide +kernel
theorem dL_law_903 : decode cL_law 903 = .ok (.aload_n 0, 1) := by decide +kernel
theorem dL_law_904 : decode cL_law 904 = .ok (.iload_n 3, 1) := by decide +kernel
theorem dL_law_905 : decode cL_law 905 = .ok (.iconst 1, 1) := by decide +kernel
theorem dL_law_906 : decode cL_law 906 = .ok (.iadd, 1) := by decide +kernel
theorem dL_law_907 : decode cL_law 907 = .ok (.iaload, 1) := by decide +kernel
theorem dL_law_908 : decode cL_law 908 = .ok (.aload_n 0, 1) := by decide +kernel
theorem dL_law_909 : decode cL_law 909 = .ok (.iload_n 3, 1) := by decide +kernel
theorem dL_law_910 : decode cL_law 910 = .ok (.iconst 2, 1) := by decide +kernel
theorem dL_law_911 : decode cL_law 911 = .ok (.iadd, 1) := by decide +kernel
theorem dL_law_912 : decode cL_law 912 = .ok (.iaload, 1) := by decide +kernel
theorem dL_law_913 : decode cL_law 913 = .ok (.invokevirtual 112, 3) := by decide +kernel
theorem dL_law_916 : decode cL_law 916 = .ok (.if_icmp .eq 829, 3) := by decide +kernel
theorem dL_law_919 : decode cL_law 919 = .ok (.iconst 0, 1) := by decide +kernel
theorem dL_law_920 : decode cL_law 920 = .ok (.ireturn, 1) := by decide +kernel
theorem dL_law_921 : decode cL_law 921 = .ok (.aload_n 1, 1) := by decide +kernel
theorem dL_law_922 : decode cL_law 922 = .ok (.aload_n 0, 1) := by decide +kernel
theorem dL_law_923 : decode cL_law 923 = .ok (.iload_n 3, 1) := by decide +kernel
theorem dL_law_924 : decode cL_law 924 = .ok (.iconst 1, 1) := by decide +kernel
theorem dL_law_925 : decode cL_law 925 = .ok (.iadd, 1) := by decide +kernel
theorem dL_law_926 : decode cL_law 926 = .ok (.iaload, 1) := by decide +kernel
theorem dL_law_927 : decode cL_law 927 = .ok (.invokevirtual 113, 3) := by decide +kernel
theorem dL_law_930 : decode cL_law 930 = .ok (.aload_n 2, 1) := by decide +kernel
theorem dL_law_931 : decode cL_law 931 = .ok (.aload_n 0, 1) := by decide +kernel
theorem dL_law_932 : decode cL_law 932 = .ok (.iload_n 3, 1) := by decide +kernel
theorem dL_law_933 : decode cL_law 933 = .ok (.iconst 1, 1) := by decide +kernel
theorem dL_law_934 : decode cL_law 934 = .ok (.iadd, 1) := by decide +kernel
theorem dL_law_935 : decode cL_law 935 = .ok (.iaload, 1) := by decide +kernel
theorem dL_law_936 : decode cL_law 936 = .ok (.invokevirtual 116, 3) := by decide +kernel
theorem dL_law_939 : decode cL_law 939 = .ok (.if_icmp .eq 806, 3) := by decide +kernel
theorem dL_law_942 : decode cL_law 942 = .ok (.iconst 0, 1) := by decide +kernel
theorem dL_law_943 : decode cL_law 943 = .ok (.ireturn, 1) := by decide +kernel
theorem dL_law_944 : decode cL_law 944 = .ok (.aload_n 1, 1) := by decide +kernel
theorem dL_law_945 : decode cL_law 945 = .ok (.aload_n 0, 1) := by decide +kernel
theorem dL_law_946 : decode cL_law 946 = .ok (.iload_n 3, 1) := by decide +kernel
theorem dL_law_947 : decode cL_law 947 = .ok (.iconst 1, 1) := by decide +kernel
theorem dL_law_948 : decode cL_law 948 = .ok (.iadd, 1) := by decide +kernel
theorem dL_law_949 : decode cL_law 949 = .ok (.iaload, 1) := by decide +kernel
theorem dL_law_950 : decode cL_law 950 = .ok (.aload_n 0, 1) := by decide +kernel
theorem dL_law_951 : decode cL_law 951 = .ok (.iload_n 3, 1) := by decide +kernel
theorem dL_law_952 : decode cL_law 952 = .ok (.iconst 2, 1) := by decide +kernel
theorem dL_law_953 : decode cL_law 953 = .ok (.iadd, 1) := by decide +kernel
theorem dL_law_954 : decode cL_law 954 = .ok (.iaload, 1) := by decide +kernel
theorem dL_law_955 : decode cL_law 955 = .ok (.invokevirtual 117, 3) := by decide +kernel
theorem dL_law_958 : decode cL_law 958 = .ok (.aload_n 2, 1) := by decide +kernel
theorem dL_law_959 : decode cL_law 959 = .ok (.aload_n 0, 1) := by decide +kernel
theorem dL_law_960 : decode cL_law 960 = .ok (.iload_n 3, 1) := by decide +kernel
theorem dL_law_961 : decode cL_law 961 = .ok (.iconst 1, 1) := by decide +kernel
theorem dL_law_962 : decode cL_law 962 = .ok (.iadd, 1) := by decide +kernel
theorem dL_law_963 : decode cL_law 963 = .ok (.iaload, 1) := by decide +kernel
theorem dL_law_964 : decode cL_law 964 = .ok (.aload_n 0, 1) := by decide +kernel
theorem dL_law_965 : decode cL_law 965 = .ok (.iload_n 3, 1) := by decide +kernel
theorem dL_law_966 : decode cL_law 966 = .ok (.iconst 2, 1) := by decide +kernel
theorem dL_law_967 : decode cL_law 967 = .ok (.iadd, 1) := by decide +kernel
theorem dL_law_968 : decode cL_law 968 = .ok (.iaload, 1) := by decide +kernel
theorem dL_law_969 : decode cL_law 969 = .ok (.invokevirtual 120, 3) := by decide +kernel
theorem dL_law_972 : decode cL_law 972 = .ok (.if_icmp .eq 773, 3) := by decide +kernel
theorem dL_law_975 : decode cL_law 975 = .ok (.iconst 0, 1) := by decide +kernel
theorem dL_law_976 : decode cL_law 976 = .ok (.ireturn, 1) := by decide +kernel
theorem dL_law_977 : decode cL_law 977 = .ok (.aload_n 1, 1) := by decide +kernel
theorem dL_law_978 : decode cL_law 978 = .ok (.aload_n 0, 1) := by decide +kernel
theorem dL_law_979 : decode cL_law 979 = .ok (.iload_n 3, 1) := by decide +kernel
theorem dL_law_980 : decode cL_law 980 = .ok (.iconst 1, 1) := by decide +kernel
theorem dL_law_981 : decode cL_law 981 = .ok (.iadd, 1) := by decide +kernel
theorem dL_law_982 : decode cL_law 982 = .ok (.iaload, 1) := by decide +kernel
theorem dL_law_983 : decode cL_law 983 = .ok (.aload_n 0, 1) := by decide +kernel
theorem dL_law_984 : decode cL_law 984 = .ok (.iload_n 3, 1) := by decide +kernel
theorem dL_law_985 : decode cL_law 985 = .ok (.iconst 2, 1) := by decide +kernel
theorem dL_law_986 : decode cL_law 986 = .ok (.iadd, 1) := by decide +kernel
theorem dL_law_987 : decode cL_law 987 = .ok (.iaload, 1) := by decide +kernel
theorem dL_law_988 : decode cL_law 988 = .ok (.invokevirtual 121, 3) := by decide +kernel
theorem dL_law_991 : decode cL_law 991 = .ok (.aload_n 2, 1) := by decide +kernel
theorem dL_law_992 : decode cL_law 992 = .ok (.aload_n 0, 1) := by decide +kernel
theorem dL_law_993 : decode cL_law 993 = .ok (.iload_n 3, 1) := by decide +kernel
theorem dL_law_994 : decode cL_law 994 = .ok (.iconst 1, 1) := by decide +kernel
theorem dL_law_995 : decode cL_law 995 = .ok (.iadd, 1) := by decide +kernel
theorem dL_law_996 : decode cL_law 996 = .ok (.iaload, 1) := by decide +kernel
theorem dL_law_997 : decode cL_law 997 = .ok (.aload_n 0, 1) := by decide +kernel
theorem dL_law_998 : decode cL_law 998 = .ok (.iload_n 3, 1) := by decide +kernel
theorem dL_law_999 : decode cL_law 999 = .ok (.iconst 2, 1) := by decide +kernel
theorem dL_law_1000 : decode cL_law 1000 = .ok (.iadd, 1) := by decide +kernel
theorem dL_law_1001 : decode cL_law 1001 = .ok (.iaload, 1) := by decide +kernel
theorem dL_law_1002 : decode cL_law 1002 = .ok (.invokevirtual 124, 3) := by decide +kernel
theorem dL_law_1005 : decode cL_law 1005 = .ok (.if_icmp .eq 740, 3) := by decide +kernel
theorem dL_law_1008 : decode cL_law 1008 = .ok (.iconst 0, 1) := by decide +kernel
theorem dL_law_1009 : decode cL_law 1009 = .ok (.ireturn, 1) := by decide +kernel
theorem dL_law_1010 : decode cL_law 1010 = .ok (.aload_n 1, 1) := by decide +kernel
theorem dL_law_1011 : decode cL_law 1011 = .ok (.aload_n 0, 1) := by decide +kernel
theorem dL_law_1012 : decode cL_law 1012 = .ok (.iload_n 3, 1) := by decide +kernel
theorem dL_law_1013 : decode cL_law 1013 = .ok (.iconst 1, 1) := by decide +kernel
theorem dL_law_1014 : decode cL_law 1014 = .ok (.iadd, 1) := by decide +kernel
theorem dL_law_1015 : decode cL_law 1015 = .ok (.iaload, 1) := by decide +kernel
theorem dL_law_1016 : decode cL_law 1016 = .ok (.invokevirtual 125, 3) := by decide +kernel
theorem dL_law_1019 : decode cL_law 1019 = .ok (.aload_n 2, 1) := by decide +kernel
theorem dL_law_1020 : decode cL_law 1020 = .ok (.aload_n 0, 1) := by decide +kernel
theorem dL_law_1021 : decode cL_law 1021 = .ok (.iload_n 3, 1) := by decide +kernel
theorem dL_law_1022 : decode cL_law 1022 = .ok (.iconst 1, 1) := by decide +kernel
theorem dL_law_1023 : decode cL_law 1023 = .ok (.iadd, 1) := by decide +kernel
theorem dL_law_1024 : decode cL_law 1024 = .ok (.iaload, 1) := by decide +kernel
theorem dL_law_1025 : decode cL_law 1025 = .ok (.invokevirtual 128, 3) := by decide +kernel
theorem dL_law_1028 : decode cL_law 1028 = .ok (.if_icmp .eq 717, 3) := by decide +kernel
theorem dL_law_1031 : decode cL_law 1031 = .ok (.iconst 0, 1) := by decide +kernel
theorem dL_law_1032 : decode cL_law 1032 = .ok (.ireturn, 1) := by decide +kernel
theorem dL_law_1033 : decode cL_law 1033 = .ok (.aload_n 1, 1) := by decide +kernel
theorem dL_law_1034 : decode cL_law 1034 = .ok (.aload_n 0, 1) := by decide +kernel
theorem dL_law_1035 : decode cL_law 1035 = .ok (.iload_n 3, 1) := by decide +kernel
theorem dL_law_1036 : decode cL_law 1036 = .ok (.iconst 1, 1) := by decide +kernel
theorem dL_law_1037 : decode cL_law 1037 = .ok (.iadd, 1) := by decide +kernel
theorem dL_law_1038 : decode cL_law 1038 = .ok (.iaload, 1) := by decide +kernel
theorem dL_law_1039 : decode cL_law 1039 = .ok (.invokevirtual 129, 3) := by decide +kernel
theorem dL_law_1042 : decode cL_law 1042 = .ok (.aload_n 2, 1) := by decide +kernel
theorem dL_law_1043 : decode cL_law 1043 = .ok (.aload_n 0, 1) := by decide +kernel
theorem dL_law_1044 : decode cL_law 1044 = .ok (.iload_n 3, 1) := by decide +kernel
theorem dL_law_1045 : decode cL_law 1045 = .ok (.iconst 1, 1) := by decide +kernel
theorem dL_law_1046 : decode cL_law 1046 = .ok (.iadd, 1) := by decide +kernel
theorem dL_law_1047 : decode cL_law 1047 = .ok (.iaload, 1) := by decide +kernel
theorem dL_law_1048 : decode cL_law 1048 = .ok (.invokevirtual 132, 3) := by decide +kernel
theorem dL_law_1051 : decode cL_law 1051 = .ok (.if_icmp .eq 694, 3) := by decide +kernel
theorem dL_law_1054 : decode cL_law 1054 = .ok (.iconst 0, 1) := by decide +kernel
theorem dL_law_1055 : decode cL_law 1055 = .ok (.ireturn, 1) := by decide +kernel
theorem dL_law_1056 : decode cL_law 1056 = .ok (.aload_n 1, 1) := by decide +kernel
theorem dL_law_1057 : decode cL_law 1057 = .ok (.aload_n 0, 1) := by decide +kernel
theorem dL_law_1058 : decode cL_law 1058 = .ok (.iload_n 3, 1) := by decide +kernel
theorem dL_law_1059 : decode cL_law 1059 = .ok (.iconst 1, 1) := by decide +kernel
theorem dL_law_1060 : decode cL_law 1060 = .ok (.iadd, 1) := by decide +kernel
theorem dL_law_1061 : decode cL_law 1061 = .ok (.iaload, 1) := by decide +kernel
theorem dL_law_1062 : decode cL_law 1062 = .ok (.aload_n 0, 1) := by decide +kernel
theorem dL_law_1063 : decode cL_law 1063 = .ok (.iload_n 3, 1) := by decide +kernel
theorem dL_law_1064 : decode cL_law 1064 = .ok (.iconst 2, 1) := by decide +kernel
theorem dL_law_1065 : decode cL_law 1065 = .ok (.iadd, 1) := by decide +kernel
theorem dL_law_1066 : decode cL_law 1066 = .ok (.iaload, 1) := by decide +kernel
theorem dL_law_1067 : decode cL_law 1067 = .ok (.aload_n 0, 1) := by decide +kernel
theorem dL_law_1068 : decode cL_law 1068 = .ok (.iload_n 3, 1) := by decide +kernel
theorem dL_law_1069 : decode cL_law 1069 = .ok (.iconst 3, 1) := by decide +kernel
theorem dL_law_1070 : decode cL_law 1070 = .ok (.iadd, 1) := by decide +kernel
theorem dL_law_1071 : decode cL_law 1071 = .ok (.iaload, 1) := by decide +kernel
theorem dL_law_1072 : decode cL_law 1072 = .ok (.aload_n 0, 1) := by decide +kernel
theorem dL_law_1073 : decode cL_law 1073 = .ok (.iload_n 3, 1) := by decide +kernel
theorem dL_law_1074 : decode cL_law 1074 = .ok (.iconst 4, 1) := by decide +kernel
theorem dL_law_1075 : decode cL_law 1075 = .ok (.iadd, 1) := by decide +kernel
theorem dL_law_1076 : decode cL_law 1076 = .ok (.iaload, 1) := by decide +kernel
theorem dL_law_1077 : decode cL_law 1077 = .ok (.invokevirtual 133, 3) := by decide +kernel
theorem dL_law_1080 : decode cL_law 1080 = .ok (.aload_n 2, 1) := by decide +kernel
theorem dL_law_1081 : decode cL_law 1081 = .ok (.aload_n 0, 1) := by decide +kernel
theorem dL_law_1082 : decode cL_law 1082 = .ok (.iload_n 3, 1) := by decide +kernel
theorem dL_law_1083 : decode cL_law 1083 = .ok (.iconst 1, 1) := by decide +kernel
theorem dL_law_1084 : decode cL_law 1084 = .ok (.iadd, 1) := by decide +kernel
theorem dL_law_1085 : decode cL_law 1085 = .ok (.iaload, 1) := by decide +kernel
theorem dL_law_1086 : decode cL_law 1086 = .ok (.aload_n 0, 1) := by decide +kernel
theorem dL_law_1087 : decode cL_law 1087 = .ok (.iload_n 3, 1) := by decide +kernel
theorem dL_law_1088 : decode cL_law 1088 = .ok (.iconst 2, 1) := by decide +kernel
theorem dL_law_1089 : decode cL_law 1089 = .ok (.iadd, 1) := by decide +kernel
theorem dL_law_1090 : decode cL_law 1090 = .ok (.iaload, 1) := by decide +kernel
theorem dL_law_1091 : decode cL_law 1091 = .ok (.aload_n 0, 1) := by decide +kernel
theorem dL_law_1092 : decode cL_law 1092 = .ok (.iload_n 3, 1) := by decide +kernel
theorem dL_law_1093 : decode cL_law 1093 = .ok (.iconst 3, 1) := by decide +kernel
theorem dL_law_1094 : decode cL_law 1094 = .ok (.iadd, 1) := by decide +kernel
theorem dL_law_1095 : decode cL_law 1095 = .ok (.iaload, 1) := by decide +kernel
theorem dL_law_1096 : decode cL_law 1096 = .ok (.aload_n 0, 1) := by decide +kernel
theorem dL_law_1097 : decode cL_law 1097 = .ok (.iload_n 3, 1) := by decide +kernel
theorem dL_law_1098 : decode cL_law 1098 = .ok (.iconst 4, 1) := by decide +kernel
theorem dL_law_1099 : decode cL_law 1099 = .ok (.iadd, 1) := by decide +kernel
theorem dL_law_1100 : decode cL_law 1100 = .ok (.iaload, 1) := by decide +kernel
theorem dL_law_1101 : decode cL_law 1101 = .ok (.invokevirtual 136, 3) := by decide +kernel
theorem dL_law_1104 : decode cL_law 1104 = .ok (.if_icmp .eq 641, 3) := by decide +kernel
theorem dL_law_1107 : decode cL_law 1107 = .ok (.iconst 0, 1) := by decide +kernel
theorem dL_law_1108 : decode cL_law 1108 = .ok (.ireturn, 1) := by decide +kernel
theorem dL_law_1109 : decode cL_law 1109 = .ok (.aload_n 1, 1) := by decide +kernel
theorem dL_law_1110 : decode cL_law 1110 = .ok (.invokevirtual 137, 3) := by decide +kernel
theorem dL_law_1113 : decode cL_law 1113 = .ok (.aload_n 2, 1) := by decide +kernel
theorem dL_law_1114 : decode cL_law 1114 = .ok (.invokevirtual 140, 3) := by decide +kernel
theorem dL_law_1117 : decode cL_law 1117 = .ok (.if_icmp .eq 628, 3) := by decide +kernel
theorem dL_law_1120 : decode cL_law 1120 = .ok (.iconst 0, 1) := by decide +kernel
theorem dL_law_1121 : decode cL_law 1121 = .ok (.ireturn, 1) := by decide +kernel
theorem dL_law_1122 : decode cL_law 1122 = .ok (.aload_n 1, 1) := by decide +kernel
theorem dL_law_1123 : decode cL_law 1123 = .ok (.aload_n 0, 1) := by decide +kernel
theorem dL_law_1124 : decode cL_law 1124 = .ok (.iload_n 3, 1) := by decide +kernel
theorem dL_law_1125 : decode cL_law 1125 = .ok (.iconst 1, 1) := by decide +kernel
theorem dL_law_1126 : decode cL_law 1126 = .ok (.iadd, 1) := by decide +kernel
theorem dL_law_1127 : decode cL_law 1127 = .ok (.iaload, 1) := by decide +kernel
theorem dL_law_1128 : decode cL_law 1128 = .ok (.invokevirtual 141, 3) := by decide +kernel
theorem dL_law_1131 : decode cL_law 1131 = .ok (.aload_n 2, 1) := by decide +kernel
theorem dL_law_1132 : decode cL_law 1132 = .ok (.aload_n 0, 1) := by decide +kernel
theorem dL_law_1133 : decode cL_law 1133 = .ok (.iload_n 3, 1) := by decide +kernel
theorem dL_law_1134 : decode cL_law 1134 = .ok (.iconst 1, 1) := by decide +kernel
theorem dL_law_1135 : decode cL_law 1135 = .ok (.iadd, 1) := by decide +kernel
theorem dL_law_1136 : decode cL_law 1136 = .ok (.iaload, 1) := by decide +kernel
theorem dL_law_1137 : decode cL_law 1137 = .ok (.invokevirtual 144, 3) := by decide +kernel
theorem dL_law_1140 : decode cL_law 1140 = .ok (.if_icmp .eq 605, 3) := by decide +kernel
theorem dL_law_1143 : decode cL_law 1143 = .ok (.iconst 0, 1) := by decide +kernel
theorem dL_law_1144 : decode cL_law 1144 = .ok (.ireturn, 1) := by decide +kernel
theorem dL_law_1145 : decode cL_law 1145 = .ok (.aload_n 1, 1) := by decide +kernel
theorem dL_law_1146 : decode cL_law 1146 = .ok (.invokevirtual 145, 3) := by decide +kernel
theorem dL_law_1149 : decode cL_law 1149 = .ok (.aload_n 2, 1) := by decide +kernel
theorem dL_law_1150 : decode cL_law 1150 = .ok (.invokevirtual 148, 3) := by decide +kernel
theorem dL_law_1153 : decode cL_law 1153 = .ok (.if_icmp .eq 592, 3) := by decide +kernel
theorem dL_law_1156 : decode cL_law 1156 = .ok (.iconst 0, 1) := by decide +kernel
theorem dL_law_1157 : decode cL_law 1157 = .ok (.ireturn, 1) := by decide +kernel
theorem dL_law_1158 : decode cL_law 1158 = .ok (.aload_n 1, 1) := by decide +kernel
theorem dL_law_1159 : decode cL_law 1159 = .ok (.aload_n 0, 1) := by decide +kernel
theorem dL_law_1160 : decode cL_law 1160 = .ok (.iload_n 3, 1) := by decide +kernel
theorem dL_law_1161 : decode cL_law 1161 = .ok (.iconst 1, 1) := by decide +kernel
theorem dL_law_1162 : decode cL_law 1162 = .ok (.iadd, 1) := by decide +kernel
theorem dL_law_1163 : decode cL_law 1163 = .ok (.iaload, 1) := by decide +kernel
theorem dL_law_1164 : decode cL_law 1164 = .ok (.invokevirtual 149, 3) := by decide +kernel
theorem dL_law_1167 : decode cL_law 1167 = .ok (.aload_n 2, 1) := by decide +kernel
theorem dL_law_1168 : decode cL_law 1168 = .ok (.aload_n 0, 1) := by decide +kernel
theorem dL_law_1169 : decode cL_law 1169 = .ok (.iload_n 3, 1) := by decide +kernel
theorem dL_law_1170 : decode cL_law 1170 = .ok (.iconst 1, 1) := by decide +kernel
theorem dL_law_1171 : decode cL_law 1171 = .ok (.iadd, 1) := by decide +kernel
theorem dL_law_1172 : decode cL_law 1172 = .ok (.iaload, 1) := by decide +kernel
theorem dL_law_1173 : decode cL_law 1173 = .ok (.invokevirtual 152, 3) := by decide +kernel
theorem dL_law_1176 : decode cL_law 1176 = .ok (.if_icmp .eq 569, 3) := by decide +kernel
theorem dL_law_1179 : decode cL_law 1179 = .ok (.iconst 0, 1) := by decide +kernel
theorem dL_law_1180 : decode cL_law 1180 = .ok (.ireturn, 1) := by decide +kernel
theorem dL_law_1181 : decode cL_law 1181 = .ok (.aload_n 1, 1) := by decide +kernel
theorem dL_law_1182 : decode cL_law 1182 = .ok (.invokevirtual 153, 3) := by decide +kernel
theorem dL_law_1185 : decode cL_law 1185 = .ok (.aload_n 2, 1) := by decide +kernel
theorem dL_law_1186 : decode cL_law 1186 = .ok (.invokevirtual 156, 3) := by decide +kernel
theorem dL_law_1189 : decode cL_law 1189 = .ok (.if_icmp .eq 556, 3) := by decide +kernel
theorem dL_law_1192 : decode cL_law 1192 = .ok (.iconst 0, 1) := by decide +kernel
theorem dL_law_1193 : decode cL_law 1193 = .ok (.ireturn, 1) := by decide +kernel
theorem dL_law_1194 : decode cL_law 1194 = .ok (.aload_n 1, 1) := by decide +kernel
theorem dL_law_1195 : decode cL_law 1195 = .ok (.aload_n 0, 1) := by decide +kernel
theorem dL_law_1196 : decode cL_law 1196 = .ok (.iload_n 3, 1) := by decide +kernel
theorem dL_law_1197 : decode cL_law 1197 = .ok (.iconst 1, 1) := by decide +kernel
theorem dL_law_1198 : decode cL_law 1198 = .ok (.iadd, 1) := by decide +kernel
theorem dL_law_1199 : decode cL_law 1199 = .ok (.iaload, 1) := by decide +kernel
theorem dL_law_1200 : decode cL_law 1200 = .ok (.aload_n 0, 1) := by decide +kernel
theorem dL_law_1201 : decode cL_law 1201 = .ok (.iload_n 3, 1) := by decide +kernel
theorem dL_law_1202 : decode cL_law 1202 = .ok (.iconst 2, 1) := by decide +kernel
theorem dL_law_1203 : decode cL_law 1203 = .ok (.iadd, 1) := by decide +kernel
theorem dL_law_1204 : decode cL_law 1204 = .ok (.iaload, 1) := by decide +kernel
theorem dL_law_1205 : decode cL_law 1205 = .ok (.invokevirtual 157, 3) := by decide +kernel
theorem dL_law_1208 : decode cL_law 1208 = .ok (.aload_n 2, 1) := by decide +kernel
theorem dL_law_1209 : decode cL_law 1209 = .ok (.aload_n 0, 1) := by decide +kernel
theorem dL_law_1210 : decode cL_law 1210 = .ok (.iload_n 3, 1) := by decide +kernel
theorem dL_law_1211 : decode cL_law 1211 = .ok (.iconst 1, 1) := by decide +kernel
theorem dL_law_1212 : decode cL_law 1212 = .ok (.iadd, 1) := by decide +kernel
theorem dL_law_1213 : decode cL_law 1213 = .ok (.iaload, 1) := by decide +kernel
theorem dL_law_1214 : decode cL_law 1214 = .ok (.aload_n 0, 1) := by decide +kernel
theorem dL_law_1215 : decode cL_law 1215 = .ok (.iload_n 3, 1) := by decide +kernel
theorem dL_law_1216 : decode cL_law 1216 = .ok (.iconst 2, 1) := by decide +kernel
theorem dL_law_1217 : decode cL_law 1217 = .ok (.iadd, 1) := by decide +kernel
theorem dL_law_1218 : decode cL_law 1218 = .ok (.iaload, 1) := by decide +kernel
theorem dL_law_1219 : decode cL_law 1219 = .ok (.invokevirtual 160, 3) := by decide +kernel
theorem dL_law_1222 : decode cL_law 1222 = .ok (.if_icmp .eq 523, 3) := by decide +kernel
theorem dL_law_1225 : decode cL_law 1225 = .ok (.iconst 0, 1) := by decide +kernel
theorem dL_law_1226 : decode cL_law 1226 = .ok (.ireturn, 1) := by decide +kernel
theorem dL_law_1227 : decode cL_law 1227 = .ok (.aload_n 1, 1) := by decide +kernel
theorem dL_law_1228 : decode cL_law 1228 = .ok (.aload_n 0, 1) := by decide +kernel
theorem dL_law_1229 : decode cL_law 1229 = .ok (.iload_n 3, 1) := by decide +kernel
theorem dL_law_1230 : decode cL_law 1230 = .ok (.iconst 1, 1) := by decide +kernel
theorem dL_law_1231 : decode cL_law 1231 = .ok (.iadd, 1) := by decide +kernel
theorem dL_law_1232 : decode cL_law 1232 = .ok (.iaload, 1) := by decide +kernel
theorem dL_law_1233 : decode cL_law 1233 = .ok (.invokevirtual 161, 3) := by decide +kernel
theorem dL_law_1236 : decode cL_law 1236 = .ok (.aload_n 2, 1) := by decide +kernel
theorem dL_law_1237 : decode cL_law 1237 = .ok (.aload_n 0, 1) := by decide +kernel
theorem dL_law_1238 : decode cL_law 1238 = .ok (.iload_n 3, 1) := by decide +kernel
theorem dL_law_1239 : decode cL_law 1239 = .ok (.iconst 1, 1) := by decide +kernel
theorem dL_law_1240 : decode cL_law 1240 = .ok (.iadd, 1) := by decide +kernel
theorem dL_law_1241 : decode cL_law 1241 = .ok (.iaload, 1) := by decide +kernel
theorem dL_law_1242 : decode cL_law 1242 = .ok (.invokevirtual 164, 3) := by decide +kernel
theorem dL_law_1245 : decode cL_law 1245 = .ok (.if_icmp .eq 500, 3) := by decide +kernel
theorem dL_law_1248 : decode cL_law 1248 = .ok (.iconst 0, 1) := by decide +kernel
theorem dL_law_1249 : decode cL_law 1249 = .ok (.ireturn, 1) := by decide +kernel
theorem dL_law_1250 : decode cL_law 1250 = .ok (.aload_n 1, 1) := by decide +kernel
theorem dL_law_1251 : decode cL_law 1251 = .ok (.aload_n 0, 1) := by decide +kernel
theorem dL_law_1252 : decode cL_law 1252 = .ok (.iload_n 3, 1) := by decide +kernel
theorem dL_law_1253 : decode cL_law 1253 = .ok (.iconst 1, 1) := by decide +kernel
theorem dL_law_1254 : decode cL_law 1254 = .ok (.iadd, 1) := by decide +kernel
theorem dL_law_1255 : decode cL_law 1255 = .ok (.iaload, 1) := by decide +kernel
theorem dL_law_1256 : decode cL_law 1256 = .ok (.aload_n 0, 1) := by decide +kernel
theorem dL_law_1257 : decode cL_law 1257 = .ok (.iload_n 3, 1) := by decide +kernel
theorem dL_law_1258 : decode cL_law 1258 = .ok (.iconst 2, 1) := by decide +kernel
theorem dL_law_1259 : decode cL_law 1259 = .ok (.iadd, 1) := by decide +kernel
theorem dL_law_1260 : decode cL_law 1260 = .ok (.iaload, 1) := by decide +kernel
theorem dL_law_1261 : decode cL_law 1261 = .ok (.invokevirtual 165, 3) := by decide +kernel
theorem dL_law_1264 : decode cL_law 1264 = .ok (.aload_n 2, 1) := by decide +kernel
theorem dL_law_1265 : decode cL_law 1265 = .ok (.aload_n 0, 1) := by decide +kernel
theorem dL_law_1266 : decode cL_law 1266 = .ok (.iload_n 3, 1) := by decide +kernel
theorem dL_law_1267 : decode cL_law 1267 = .ok (.iconst 1, 1) := by decide +kernel
theorem dL_law_1268 : decode cL_law 1268 = .ok (.iadd, 1) := by decide +kernel
theorem dL_law_1269 : decode cL_law 1269 = .ok (.iaload, 1) := by decide +kernel
theorem dL_law_1270 : decode cL_law 1270 = .ok (.aload_n 0, 1) := by decide +kernel
theorem dL_law_1271 : decode cL_law 1271 = .ok (.iload_n 3, 1) := by decide +kernel
theorem dL_law_1272 : decode cL_law 1272 = .ok (.iconst 2, 1) := by decide +kernel
theorem dL_law_1273 : decode cL_law 1273 = .ok (.iadd, 1) := by decide +kernel
theorem dL_law_1274 : decode cL_law 1274 = .ok (.iaload, 1) := by decide +kernel
theorem dL_law_1275 : decode cL_law 1275 = .ok (.invokevirtual 168, 3) := by decide +kernel
theorem dL_law_1278 : decode cL_law 1278 = .ok (.if_icmp .eq 467, 3) := by decide +kernel
theorem dL_law_1281 : decode cL_law 1281 = .ok (.iconst 0, 1) := by decide +kernel
theorem dL_law_1282 : decode cL_law 1282 = .ok (.ireturn, 1) := by decide +kernel
theorem dL_law_1283 : decode cL_law 1283 = .ok (.aload_n 1, 1) := by decide +kernel
theorem dL_law_1284 : decode cL_law 1284 = .ok (.aload_n 0, 1) := by decide +kernel
theorem dL_law_1285 : decode cL_law 1285 = .ok (.iload_n 3, 1) := by decide +kernel
theorem dL_law_1286 : decode cL_law 1286 = .ok (.iconst 1, 1) := by decide +kernel
theorem dL_law_1287 : decode cL_law 1287 = .ok (.iadd, 1) := by decide +kernel
theorem dL_law_1288 : decode cL_law 1288 = .ok (.iaload, 1) := by decide +kernel
theorem dL_law_1289 : decode cL_law 1289 = .ok (.aload_n 0, 1) := by decide +kernel
theorem dL_law_1290 : decode cL_law 1290 = .ok (.iload_n 3, 1) := by decide +kernel
theorem dL_law_1291 : decode cL_law 1291 = .ok (.iconst 2, 1) := by decide +kernel
theorem dL_law_1292 : decode cL_law 1292 = .ok (.iadd, 1) := by decide +kernel
theorem dL_law_1293 : decode cL_law 1293 = .ok (.iaload, 1) := by decide +kernel
theorem dL_law_1294 : decode cL_law 1294 = .ok (.aload_n 0, 1) := by decide +kernel
theorem dL_law_1295 : decode cL_law 1295 = .ok (.iload_n 3, 1) := by decide +kernel
theorem dL_law_1296 : decode cL_law 1296 = .ok (.iconst 3, 1) := by decide +kernel
theorem dL_law_1297 : decode cL_law 1297 = .ok (.iadd, 1) := by decide +kernel
theorem dL_law_1298 : decode cL_law 1298 = .ok (.iaload, 1) := by decide +kernel
theorem dL_law_1299 : decode cL_law 1299 = .ok (.invokevirtual 169, 3) := by decide +kernel
theorem dL_law_1302 : decode cL_law 1302 = .ok (.aload_n 2, 1) := by decide +kernel
theorem dL_law_1303 : decode cL_law 1303 = .ok (.aload_n 0, 1) := by decide +kernel
theorem dL_law_1304 : decode cL_law 1304 = .ok (.iload_n 3, 1) := by decide +kernel
theorem dL_law_1305 : decode cL_law 1305 = .ok (.iconst 1, 1) := by decide +kernel
theorem dL_law_1306 : decode cL_law 1306 = .ok (.iadd, 1) := by decide +kernel
theorem dL_law_1307 : decode cL_law 1307 = .ok (.iaload, 1) := by decide +kernel
theorem dL_law_1308 : decode cL_law 1308 = .ok (.aload_n 0, 1) := by decide +kernel
theorem dL_law_1309 : decode cL_law 1309 = .ok (.iload_n 3, 1) := by decide +kernel
theorem dL_law_1310 : decode cL_law 1310 = .ok (.iconst 2, 1) := by decide +kernel
theorem dL_law_1311 : decode cL_law 1311 = .ok (.iadd, 1) := by decide +kernel
theorem dL_law_1312 : decode cL_law 1312 = .ok (.iaload, 1) := by decide +kernel
theorem dL_law_1313 : decode cL_law 1313 = .ok (.aload_n 0, 1) := by decide +kernel
theorem dL_law_1314 : decode cL_law 1314 = .ok (.iload_n 3, 1) := by decide +kernel
theorem dL_law_1315 : decode cL_law 1315 = .ok (.iconst 3, 1) := by decide +kernel
theorem dL_law_1316 : decode cL_law 1316 = .ok (.iadd, 1) := by decide +kernel
theorem dL_law_1317 : decode cL_law 1317 = .ok (.iaload, 1) := by decide +kernel
theorem dL_law_1318 : decode cL_law 1318 = .ok (.invokevirtual 172, 3) := by decide +kernel
theorem dL_law_1321 : decode cL_law 1321 = .ok (.if_icmp .eq 424, 3) := by decide +kernel
theorem dL_law_1324 : decode cL_law 1324 = .ok (.iconst 0, 1) := by decide +kernel
theorem dL_law_1325 : decode cL_law 1325 = .ok (.ireturn, 1) := by decide +kernel
theorem dL_law_1326 : decode cL_law 1326 = .ok (.aload_n 1, 1) := by decide +kernel
theorem dL_law_1327 : decode cL_law 1327 = .ok (.invokevirtual 173, 3) := by decide +kernel
theorem dL_law_1330 : decode cL_law 1330 = .ok (.aload_n 2, 1) := by decide +kernel
theorem dL_law_1331 : decode cL_law 1331 = .ok (.invokevirtual 176, 3) := by decide +kernel
theorem dL_law_1334 : decode cL_law 1334 = .ok (.if_icmp .eq 411, 3) := by decide +kernel
theorem dL_law_1337 : decode cL_law 1337 = .ok (.iconst 0, 1) := by decide +kernel
theorem dL_law_1338 : decode cL_law 1338 = .ok (.ireturn, 1) := by decide +kernel
theorem dL_law_1339 : decode cL_law 1339 = .ok (.aload_n 1, 1) := by decide +kernel
theorem dL_law_1340 : decode cL_law 1340 = .ok (.aload_n 0, 1) := by decide +kernel
theorem dL_law_1341 : decode cL_law 1341 = .ok (.iload_n 3, 1) := by decide +kernel
theorem dL_law_1342 : decode cL_law 1342 = .ok (.iconst 1, 1) := by decide +kernel
theorem dL_law_1343 : decode cL_law 1343 = .ok (.iadd, 1) := by decide +kernel
theorem dL_law_1344 : decode cL_law 1344 = .ok (.iaload, 1) := by decide +kernel
theorem dL_law_1345 : decode cL_law 1345 = .ok (.aload_n 0, 1) := by decide +kernel
theorem dL_law_1346 : decode cL_law 1346 = .ok (.iload_n 3, 1) := by decide +kernel
theorem dL_law_1347 : decode cL_law 1347 = .ok (.iconst 2, 1) := by decide +kernel
theorem dL_law_1348 : decode cL_law 1348 = .ok (.iadd, 1) := by decide +kernel
theorem dL_law_1349 : decode cL_law 1349 = .ok (.iaload, 1) := by decide +kernel
theorem dL_law_1350 : decode cL_law 1350 = .ok (.aload_n 0, 1) := by decide +kernel
theorem dL_law_1351 : decode cL_law 1351 = .ok (.iload_n 3, 1) := by decide +kernel
theorem dL_law_1352 : decode cL_law 1352 = .ok (.iconst 3, 1) := by decide +kernel
theorem dL_law_1353 : decode cL_law 1353 = .ok (.iadd, 1) := by decide +kernel
theorem dL_law_1354 : decode cL_law 1354 = .ok (.iaload, 1) := by decide +kernel
theorem dL_law_1355 : decode cL_law 1355 = .ok (.invokevirtual 177, 3) := by decide +kernel
theorem dL_law_1358 : decode cL_law 1358 = .ok (.aload_n 2, 1) := by decide +kernel
theorem dL_law_1359 : decode cL_law 1359 = .ok (.aload_n 0, 1) := by decide +kernel
theorem dL_law_1360 : decode cL_law 1360 = .ok (.iload_n 3, 1) := by decide +kernel
theorem dL_law_1361 : decode cL_law 1361 = .ok (.iconst 1, 1) := by decide +kernel
theorem dL_law_1362 : decode cL_law 1362 = .ok (.iadd, 1) := by decide +kernel
theorem dL_law_1363 : decode cL_law 1363 = .ok (.iaload, 1) := by decide +kernel
theorem dL_law_1364 : decode cL_law 1364 = .ok (.aload_n 0, 1) := by decide +kernel
theorem dL_law_1365 : decode cL_law 1365 = .ok (.iload_n 3, 1) := by decide +kernel
theorem dL_law_1366 : decode cL_law 1366 = .ok (.iconst 2, 1) := by decide +kernel
theorem dL_law_1367 : decode cL_law 1367 = .ok (.iadd, 1) := by decide +kernel
theorem dL_law_1368 : decode cL_law 1368 = .ok (.iaload, 1) := by decide +kernel
theorem dL_law_1369 : decode cL_law 1369 = .ok (.aload_n 0, 1) := by decide +kernel
theorem dL_law_1370 : decode cL_law 1370 = .ok (.iload_n 3, 1) := by decide +kernel
theorem dL_law_1371 : decode cL_law 1371 = .ok (.iconst 3, 1) := by decide +kernel
theorem dL_law_1372 : decode cL_law 1372 = .ok (.iadd, 1) := by decide +kernel
theorem dL_law_1373 : decode cL_law 1373 = .ok (.iaload, 1) := by decide +kernel
theorem dL_law_1374 : decode cL_law 1374 = .ok (.invokevirtual 180, 3) := by decide +kernel
theorem dL_law_1377 : decode cL_law 1377 = .ok (.if_icmp .eq 368, 3) := by decide +kernel
theorem dL_law_1380 : decode cL_law 1380 = .ok (.iconst 0, 1) := by decide +kernel
theorem dL_law_1381 : decode cL_law 1381 = .ok (.ireturn, 1) := by decide +kernel
theorem dL_law_1382 : decode cL_law 1382 = .ok (.aload_n 1, 1) := by decide +kernel
theorem dL_law_1383 : decode cL_law 1383 = .ok (.aload_n 0, 1) := by decide +kernel
theorem dL_law_1384 : decode cL_law 1384 = .ok (.iload_n 3, 1) := by decide +kernel
theorem dL_law_1385 : decode cL_law 1385 = .ok (.iconst 1, 1) := by decide +kernel
theorem dL_law_1386 : decode cL_law 1386 = .ok (.iadd, 1) := by decide +kernel
theorem dL_law_1387 : decode cL_law 1387 = .ok (.iaload, 1) := by decide +kernel
theorem dL_law_1388 : decode cL_law 1388 = .ok (.aload_n 0, 1) := by decide +kernel
theorem dL_law_1389 : decode cL_law 1389 = .ok (.iload_n 3, 1) := by decide +kernel
theorem dL_law_1390 : decode cL_law 1390 = .ok (.iconst 2, 1) := by decide +kernel
theorem dL_law_1391 : decode cL_law 1391 = .ok (.iadd, 1) := by decide +kernel
theorem dL_law_1392 : decode cL_law 1392 = .ok (.iaload, 1) := by decide +kernel
theorem dL_law_1393 : decode cL_law 1393 = .ok (.aload_n 0, 1) := by decide +kernel
theorem dL_law_1394 : decode cL_law 1394 = .ok (.iload_n 3, 1) := by decide +kernel
theorem dL_law_1395 : decode cL_law 1395 = .ok (.iconst 3, 1) := by decide +kernel
theorem dL_law_1396 : decode cL_law 1396 = .ok (.iadd, 1) := by decide +kernel
theorem dL_law_1397 : decode cL_law 1397 = .ok (.iaload, 1) := by decide +kernel
theorem dL_law_1398 : decode cL_law 1398 = .ok (.invokevirtual 181, 3) := by decide +kernel
theorem dL_law_1401 : decode cL_law 1401 = .ok (.aload_n 2, 1) := by decide +kernel
theorem dL_law_1402 : decode cL_law 1402 = .ok (.aload_n 0, 1) := by decide +kernel
theorem dL_law_1403 : decode cL_law 1403 = .ok (.iload_n 3, 1) := by decide +kernel
theorem dL_law_1404 : decode cL_law 1404 = .ok (.iconst 1, 1) := by decide +kernel
theorem dL_law_1405 : decode cL_law 1405 = .ok (.iadd, 1) := by decide +kernel
theorem dL_law_1406 : decode cL_law 1406 = .ok (.iaload, 1) := by decide +kernel
theorem dL_law_1407 : decode cL_law 1407 = .ok (.aload_n 0, 1) := by decide +kernel
theorem dL_law_1408 : decode cL_law 1408 = .ok (.iload_n 3, 1) := by decide +kernel
theorem dL_law_1409 : decode cL_law 1409 = .ok (.iconst 2, 1) := by decide +kernel
theorem dL_law_1410 : decode cL_law 1410 = .ok (.iadd, 1) := by decide +kernel
theorem dL_law_1411 : decode cL_law 1411 = .ok (.iaload, 1) := by decide +kernel
theorem dL_law_1412 : decode cL_law 1412 = .ok (.aload_n 0, 1) := by decide +kernel
theorem dL_law_1413 : decode cL_law 1413 = .ok (.iload_n 3, 1) := by decide +kernel
theorem dL_law_1414 : decode cL_law 1414 = .ok (.iconst 3, 1) := by decide +kernel
theorem dL_law_1415 : decode cL_law 1415 = .ok (.iadd, 1) := by decide +kernel
theorem dL_law_1416 : decode cL_law 1416 = .ok (.iaload, 1) := by decide +kernel
theorem dL_law_1417 : decode cL_law 1417 = .ok (.invokevirtual 184, 3) := by decide +kernel
theorem dL_law_1420 : decode cL_law 1420 = .ok (.if_icmp .eq 325, 3) := by decide +kernel
theorem dL_law_1423 : decode cL_law 1423 = .ok (.iconst 0, 1) := by decide +kernel
theorem dL_law_1424 : decode cL_law 1424 = .ok (.ireturn, 1) := by decide +kernel
theorem dL_law_1425 : decode cL_law 1425 = .ok (.aload_n 1, 1) := by decide +kernel
theorem dL_law_1426 : decode cL_law 1426 = .ok (.aload_n 0, 1) := by decide +kernel
theorem dL_law_1427 : decode cL_law 1427 = .ok (.iload_n 3, 1) := by decide +kernel
theorem dL_law_1428 : decode cL_law 1428 = .ok (.iconst 1, 1) := by decide +kernel
theorem dL_law_1429 : decode cL_law 1429 = .ok (.iadd, 1) := by decide +kernel
theorem dL_law_1430 : decode cL_law 1430 = .ok (.iaload, 1) := by decide +kernel
theorem dL_law_1431 : decode cL_law 1431 = .ok (.aload_n 0, 1) := by decide +kernel
theorem dL_law_1432 : decode cL_law 1432 = .ok (.iload_n 3, 1) := by decide +kernel
theorem dL_law_1433 : decode cL_law 1433 = .ok (.iconst 2, 1) := by decide +kernel
theorem dL_law_1434 : decode cL_law 1434 = .ok (.iadd, 1) := by decide +kernel
theorem dL_law_1435 : decode cL_law 1435 = .ok (.iaload, 1) := by decide +kernel
theorem dL_law_1436 : decode cL_law 1436 = .ok (.aload_n 0, 1) := by decide +kernel
theorem dL_law_1437 : decode cL_law 1437 = .ok (.iload_n 3, 1) := by decide +kernel
theorem dL_law_1438 : decode cL_law 1438 = .ok (.iconst 3, 1) := by decide +kernel
theorem dL_law_1439 : decode cL_law 1439 = .ok (.iadd, 1) := by decide +kernel
theorem dL_law_1440 : decode cL_law 1440 = .ok (.iaload, 1) := by decide +kernel
theorem dL_law_1441 : decode cL_law 1441 = .ok (.invokevirtual 185, 3) := by decide +kernel
theorem dL_law_1444 : decode cL_law 1444 = .ok (.aload_n 2, 1) := by decide +kernel
theorem dL_law_1445 : decode cL_law 1445 = .ok (.aload_n 0, 1) := by decide +kernel
theorem dL_law_1446 : decode cL_law 1446 = .ok (.iload_n 3, 1) := by decide +kernel
theorem dL_law_1447 : decode cL_law 1447 = .ok (.iconst 1, 1) := by decide +kernel
theorem dL_law_1448 : decode cL_law 1448 = .ok (.iadd, 1) := by decide +kernel
theorem dL_law_1449 : decode cL_law 1449 = .ok (.iaload, 1) := by decide +kernel
theorem dL_law_1450 : decode cL_law 1450 = .ok (.aload_n 0, 1) := by decide +kernel
theorem dL_law_1451 : decode cL_law 1451 = .ok (.iload_n 3, 1) := by decide +kernel
theorem dL_law_1452 : decode cL_law 1452 = .ok (.iconst 2, 1) := by decide +kernel
theorem dL_law_1453 : decode cL_law 1453 = .ok (.iadd, 1) := by decide +kernel
theorem dL_law_1454 : decode cL_law 1454 = .ok (.iaload, 1) := by decide +kernel
theorem dL_law_1455 : decode cL_law 1455 = .ok (.aload_n 0, 1) := by decide +kernel
theorem dL_law_1456 : decode cL_law 1456 = .ok (.iload_n 3, 1) := by decide +kernel
theorem dL_law_1457 : decode cL_law 1457 = .ok (.iconst 3, 1) := by decide +kernel
theorem dL_law_1458 : decode cL_law 1458 = .ok (.iadd, 1) := by decide +kernel
theorem dL_law_1459 : decode cL_law 1459 = .ok (.iaload, 1) := by decide +kernel
theorem dL_law_1460 : decode cL_law 1460 = .ok (.invokevirtual 188, 3) := by decide +kernel
theorem dL_law_1463 : decode cL_law 1463 = .ok (.if_icmp .eq 282, 3) := by decide +kernel
theorem dL_law_1466 : decode cL_law 1466 = .ok (.iconst 0, 1) := by decide +kernel
theorem dL_law_1467 : decode cL_law 1467 = .ok (.ireturn, 1) := by decide +kernel
theorem dL_law_1468 : decode cL_law 1468 = .ok (.aload_n 1, 1) := by decide +kernel
theorem dL_law_1469 : decode cL_law 1469 = .ok (.aload_n 0, 1) := by decide +kernel
theorem dL_law_1470 : decode cL_law 1470 = .ok (.iload_n 3, 1) := by decide +kernel
theorem dL_law_1471 : decode cL_law 1471 = .ok (.iconst 1, 1) := by decide +kernel
theorem dL_law_1472 : decode cL_law 1472 = .ok (.iadd, 1) := by decide +kernel
theorem dL_law_1473 : decode cL_law 1473 = .ok (.iaload, 1) := by decide +kernel
theorem dL_law_1474 : decode cL_law 1474 = .ok (.aload_n 0, 1) := by decide +kernel
theorem dL_law_1475 : decode cL_law 1475 = .ok (.iload_n 3, 1) := by decide +kernel
theorem dL_law_1476 : decode cL_law 1476 = .ok (.iconst 2, 1) := by decide +kernel
theorem dL_law_1477 : decode cL_law 1477 = .ok (.iadd, 1) := by decide +kernel
theorem dL_law_1478 : decode cL_law 1478 = .ok (.iaload, 1) := by decide +kernel
theorem dL_law_1479 : decode cL_law 1479 = .ok (.aload_n 0, 1) := by decide +kernel
theorem dL_law_1480 : decode cL_law 1480 = .ok (.iload_n 3, 1) := by decide +kernel
theorem dL_law_1481 : decode cL_law 1481 = .ok (.iconst 3, 1) := by decide +kernel
theorem dL_law_1482 : decode cL_law 1482 = .ok (.iadd, 1) := by decide +kernel
theorem dL_law_1483 : decode cL_law 1483 = .ok (.iaload, 1) := by decide +kernel
theorem dL_law_1484 : decode cL_law 1484 = .ok (.invokevirtual 189, 3) := by decide +kernel
theorem dL_law_1487 : decode cL_law 1487 = .ok (.aload_n 2, 1) := by decide +kernel
theorem dL_law_1488 : decode cL_law 1488 = .ok (.aload_n 0, 1) := by decide +kernel
theorem dL_law_1489 : decode cL_law 1489 = .ok (.iload_n 3, 1) := by decide +kernel
theorem dL_law_1490 : decode cL_law 1490 = .ok (.iconst 1, 1) := by decide +kernel
theorem dL_law_1491 : decode cL_law 1491 = .ok (.iadd, 1) := by decide +kernel
theorem dL_law_1492 : decode cL_law 1492 = .ok (.iaload, 1) := by decide +kernel
theorem dL_law_1493 : decode cL_law 1493 = .ok (.aload_n 0, 1) := by decide +kernel
theorem dL_law_1494 : decode cL_law 1494 = .ok (.iload_n 3, 1) := by decide +kernel
theorem dL_law_1495 : decode cL_law 1495 = .ok (.iconst 2, 1) := by decide +kernel
theorem dL_law_1496 : decode cL_law 1496 = .ok (.iadd, 1) := by decide +kernel
theorem dL_law_1497 : decode cL_law 1497 = .ok (.iaload, 1) := by decide +kernel
theorem dL_law_1498 : decode cL_law 1498 = .ok (.aload_n 0, 1) := by decide +kernel
theorem dL_law_1499 : decode cL_law 1499 = .ok (.iload_n 3, 1) := by decide +kernel
theorem dL_law_1500 : decode cL_law 1500 = .ok (.iconst 3, 1) := by decide +kernel
theorem dL_law_1501 : decode cL_law 1501 = .ok (.iadd, 1) := by decide +kernel
theorem dL_law_1502 : decode cL_law 1502 = .ok (.iaload, 1) := by decide +kernel
theorem dL_law_1503 : decode cL_law 1503 = .ok (.invokevirtual 192, 3) := by decide +kernel
theorem dL_law_1506 : decode cL_law 1506 = .ok (.if_icmp .eq 239, 3) := by decide +kernel
theorem dL_law_1509 : decode cL_law 1509 = .ok (.iconst 0, 1) := by decide +kernel
theorem dL_law_1510 : decode cL_law 1510 = .ok (.ireturn, 1) := by decide +kernel
theorem dL_law_1511 : decode cL_law 1511 = .ok (.aload_n 1, 1) := by decide +kernel
theorem dL_law_1512 : decode cL_law 1512 = .ok (.aload_n 0, 1) := by decide +kernel
theorem dL_law_1513 : decode cL_law 1513 = .ok (.iload_n 3, 1) := by decide +kernel
theorem dL_law_1514 : decode cL_law 1514 = .ok (.iconst 1, 1) := by decide +kernel
theorem dL_law_1515 : decode cL_law 1515 = .ok (.iadd, 1) := by decide +kernel
theorem dL_law_1516 : decode cL_law 1516 = .ok (.iaload, 1) := by decide +kernel
theorem dL_law_1517 : decode cL_law 1517 = .ok (.aload_n 0, 1) := by decide +kernel
theorem dL_law_1518 : decode cL_law 1518 = .ok (.iload_n 3, 1) := by decide +kernel
theorem dL_law_1519 : decode cL_law 1519 = .ok (.iconst 2, 1) := by decide +kernel
theorem dL_law_1520 : decode cL_law 1520 = .ok (.iadd, 1) := by decide +kernel
theorem dL_law_1521 : decode cL_law 1521 = .ok (.iaload, 1) := by decide +kernel
theorem dL_law_1522 : decode cL_law 1522 = .ok (.aload_n 0, 1) := by decide +kernel
theorem dL_law_1523 : decode cL_law 1523 = .ok (.iload_n 3, 1) := by decide +kernel
theorem dL_law_1524 : decode cL_law 1524 = .ok (.iconst 3, 1) := by decide +kernel
theorem dL_law_1525 : decode cL_law 1525 = .ok (.iadd, 1) := by decide +kernel
theorem dL_law_1526 : decode cL_law 1526 = .ok (.iaload, 1) := by decide +kernel
theorem dL_law_1527 : decode cL_law 1527 = .ok (.invokevirtual 193, 3) := by decide +kernel
theorem dL_law_1530 : decode cL_law 1530 = .ok (.aload_n 2, 1) := by decide +kernel
theorem dL_law_1531 : decode cL_law 1531 = .ok (.aload_n 0, 1) := by decide +kernel
theorem dL_law_1532 : decode cL_law 1532 = .ok (.iload_n 3, 1) := by decide +kernel
theorem dL_law_1533 : decode cL_law 1533 = .ok (.iconst 1, 1) := by decide +kernel
theorem dL_law_1534 : decode cL_law 1534 = .ok (.iadd, 1) := by decide +kernel
theorem dL_law_1535 : decode cL_law 1535 = .ok (.iaload, 1) := by decide +kernel
theorem dL_law_1536 : decode cL_law 1536 = .ok (.aload_n 0, 1) := by decide +kernel
theorem dL_law_1537 : decode cL_law 1537 = .ok (.iload_n 3, 1) := by decide +kernel
theorem dL_law_1538 : decode cL_law 1538 = .ok (.iconst 2, 1) := by decide +kernel
theorem dL_law_1539 : decode cL_law 1539 = .ok (.iadd, 1) := by decide +kernel
theorem dL_law_1540 : decode cL_law 1540 = .ok (.iaload, 1) := by decide +kernel
theorem dL_law_1541 : decode cL_law 1541 = .ok (.aload_n 0, 1) := by decide +kernel
theorem dL_law_1542 : decode cL_law 1542 = .ok (.iload_n 3, 1) := by decide +kernel
theorem dL_law_1543 : decode cL_law 1543 = .ok (.iconst 3, 1) := by decide +kernel
theorem dL_law_1544 : decode cL_law 1544 = .ok (.iadd, 1) := by decide +kernel
theorem dL_law_1545 : decode cL_law 1545 = .ok (.iaload, 1) := by decide +kernel
theorem dL_law_1546 : decode cL_law 1546 = .ok (.invokevirtual 196, 3) := by decide +kernel
theorem dL_law_1549 : decode cL_law 1549 = .ok (.if_icmp .eq 196, 3) := by decide +kernel
theorem dL_law_1552 : decode cL_law 1552 = .ok (.iconst 0, 1) := by decide +kernel
theorem dL_law_1553 : decode cL_law 1553 = .ok (.ireturn, 1) := by decide +kernel
theorem dL_law_1554 : decode cL_law 1554 = .ok (.aload_n 1, 1) := by decide +kernel
theorem dL_law_1555 : decode cL_law 1555 = .ok (.aload_n 0, 1) := by decide +kernel
theorem dL_law_1556 : decode cL_law 1556 = .ok (.iload_n 3, 1) := by decide +kernel
theorem dL_law_1557 : decode cL_law 1557 = .ok (.iconst 1, 1) := by decide +kernel
theorem dL_law_1558 : decode cL_law 1558 = .ok (.iadd, 1) := by decide +kernel
theorem dL_law_1559 : decode cL_law 1559 = .ok (.iaload, 1) := by decide +kernel
theorem dL_law_1560 : decode cL_law 1560 = .ok (.aload_n 0, 1) := by decide +kernel
theorem dL_law_1561 : decode cL_law 1561 = .ok (.iload_n 3, 1) := by decide +kernel
theorem dL_law_1562 : decode cL_law 1562 = .ok (.iconst 2, 1) := by decide +kernel
theorem dL_law_1563 : decode cL_law 1563 = .ok (.iadd, 1) := by decide +kernel
theorem dL_law_1564 : decode cL_law 1564 = .ok (.iaload, 1) := by decide +kernel
theorem dL_law_1565 : decode cL_law 1565 = .ok (.aload_n 0, 1) := by decide +kernel
theorem dL_law_1566 : decode cL_law 1566 = .ok (.iload_n 3, 1) := by decide +kernel
theorem dL_law_1567 : decode cL_law 1567 = .ok (.iconst 3, 1) := by decide +kernel
theorem dL_law_1568 : decode cL_law 1568 = .ok (.iadd, 1) := by decide +kernel
theorem dL_law_1569 : decode cL_law 1569 = .ok (.iaload, 1) := by decide +kernel
theorem dL_law_1570 : decode cL_law 1570 = .ok (.invokevirtual 197, 3) := by decide +kernel
theorem dL_law_1573 : decode cL_law 1573 = .ok (.aload_n 2, 1) := by decide +kernel
theorem dL_law_1574 : decode cL_law 1574 = .ok (.aload_n 0, 1) := by decide +kernel
theorem dL_law_1575 : decode cL_law 1575 = .ok (.iload_n 3, 1) := by decide +kernel
theorem dL_law_1576 : decode cL_law 1576 = .ok (.iconst 1, 1) := by decide +kernel
theorem dL_law_1577 : decode cL_law 1577 = .ok (.iadd, 1) := by decide +kernel
theorem dL_law_1578 : decode cL_law 1578 = .ok (.iaload, 1) := by decide +kernel
theorem dL_law_1579 : decode cL_law 1579 = .ok (.aload_n 0, 1) := by decide +kernel
theorem dL_law_1580 : decode cL_law 1580 = .ok (.iload_n 3, 1) := by decide +kernel
theorem dL_law_1581 : decode cL_law 1581 = .ok (.iconst 2, 1) := by decide +kernel
theorem dL_law_1582 : decode cL_law 1582 = .ok (.iadd, 1) := by decide +kernel
theorem dL_law_1583 : decode cL_law 1583 = .ok (.iaload, 1) := by decide +kernel
theorem dL_law_1584 : decode cL_law 1584 = .ok (.aload_n 0, 1) := by decide +kernel
theorem dL_law_1585 : decode cL_law 1585 = .ok (.iload_n 3, 1) := by decide +kernel
theorem dL_law_1586 : decode cL_law 1586 = .ok (.iconst 3, 1) := by decide +kernel
theorem dL_law_1587 : decode cL_law 1587 = .ok (.iadd, 1) := by decide +kernel
theorem dL_law_1588 : decode cL_law 1588 = .ok (.iaload, 1) := by decide +kernel
theorem dL_law_1589 : decode cL_law 1589 = .ok (.invokevirtual 200, 3) := by decide +kernel
theorem dL_law_1592 : decode cL_law 1592 = .ok (.if_icmp .eq 153, 3) := by decide +kernel
theorem dL_law_1595 : decode cL_law 1595 = .ok (.iconst 0, 1) := by decide +kernel
theorem dL_law_1596 : decode cL_law 1596 = .ok (.ireturn, 1) := by decide +kernel
theorem dL_law_1597 : decode cL_law 1597 = .ok (.aload_n 1, 1) := by decide +kernel
theorem dL_law_1598 : decode cL_law 1598 = .ok (.aload_n 0, 1) := by decide +kernel
theorem dL_law_1599 : decode cL_law 1599 = .ok (.iload_n 3, 1) := by decide +kernel
theorem dL_law_1600 : decode cL_law 1600 = .ok (.iconst 1, 1) := by decide +kernel
theorem dL_law_1601 : decode cL_law 1601 = .ok (.iadd, 1) := by decide +kernel
theorem dL_law_1602 : decode cL_law 1602 = .ok (.iaload, 1) := by decide +kernel
theorem dL_law_1603 : decode cL_law 1603 = .ok (.aload_n 0, 1) := by decide +kernel
theorem dL_law_1604 : decode cL_law 1604 = .ok (.iload_n 3, 1) := by decide +kernel
theorem dL_law_1605 : decode cL_law 1605 = .ok (.iconst 2, 1) := by decide +kernel
theorem dL_law_1606 : decode cL_law 1606 = .ok (.iadd, 1) := by decide +kernel
theorem dL_law_1607 : decode cL_law 1607 = .ok (.iaload, 1) := by decide +kernel
theorem dL_law_1608 : decode cL_law 1608 = .ok (.invokevirtual 201, 3) := by decide +kernel
theorem dL_law_1611 : decode cL_law 1611 = .ok (.aload_n 2, 1) := by decide +kernel
theorem dL_law_1612 : decode cL_law 1612 = .ok (.aload_n 0, 1) := by decide +kernel
theorem dL_law_1613 : decode cL_law 1613 = .ok (.iload_n 3, 1) := by decide +kernel
theorem dL_law_1614 : decode cL_law 1614 = .ok (.iconst 1, 1) := by decide +kernel
theorem dL_law_1615 : decode cL_law 1615 = .ok (.iadd, 1) := by decide +kernel
theorem dL_law_1616 : decode cL_law 1616 = .ok (.iaload, 1) := by decide +kernel
theorem dL_law_1617 : decode cL_law 1617 = .ok (.aload_n 0, 1) := by decide +kernel
theorem dL_law_1618 : decode cL_law 1618 = .ok (.iload_n 3, 1) := by decide +kernel
theorem dL_law_1619 : decode cL_law 1619 = .ok (.iconst 2, 1) := by decide +kernel
theorem dL_law_1620 : decode cL_law 1620 = .ok (.iadd, 1) := by decide +kernel
theorem dL_law_1621 : decode cL_law 1621 = .ok (.iaload, 1) := by decide +kernel
theorem dL_law_1622 : decode cL_law 1622 = .ok (.invokevirtual 204, 3) := by decide +kernel
theorem dL_law_1625 : decode cL_law 1625 = .ok (.if_icmp .eq 120, 3) := by decide +kernel
theorem dL_law_1628 : decode cL_law 1628 = .ok (.iconst 0, 1) := by decide +kernel
theorem dL_law_1629 : decode cL_law 1629 = .ok (.ireturn, 1) := by decide +kernel
theorem dL_law_1630 : decode cL_law 1630 = .ok (.aload_n 1, 1) := by decide +kernel
theorem dL_law_1631 : decode cL_law 1631 = .ok (.aload_n 0, 1) := by decide +kernel
theorem dL_law_1632 : decode cL_law 1632 = .ok (.iload_n 3, 1) := by decide +kernel
theorem dL_law_1633 : decode cL_law 1633 = .ok (.iconst 1, 1) := by decide +kernel
theorem dL_law_1634 : decode cL_law 1634 = .ok (.iadd, 1) := by decide +kernel
theorem dL_law_1635 : decode cL_law 1635 = .ok (.iaload, 1) := by decide +kernel
theorem dL_law_1636 : decode cL_law 1636 = .ok (.aload_n 0, 1) := by decide +kernel
theorem dL_law_1637 : decode cL_law 1637 = .ok (.iload_n 3, 1) := by decide +kernel
theorem dL_law_1638 : decode cL_law 1638 = .ok (.iconst 2, 1) := by decide +kernel
theorem dL_law_1639 : decode cL_law 1639 = .ok (.iadd, 1) := by decide +kernel
theorem dL_law_1640 : decode cL_law 1640 = .ok (.iaload, 1) := by decide +kernel
theorem dL_law_1641 : decode cL_law 1641 = .ok (.aload_n 0, 1) := by decide +kernel
theorem dL_law_1642 : decode cL_law 1642 = .ok (.iload_n 3, 1) := by decide +kernel
theorem dL_law_1643 : decode cL_law 1643 = .ok (.iconst 3, 1) := by decide +kernel
theorem dL_law_1644 : decode cL_law 1644 = .ok (.iadd, 1) := by decide +kernel
theorem dL_law_1645 : decode cL_law 1645 = .ok (.iaload, 1) := by decide +kernel
theorem dL_law_1646 : decode cL_law 1646 = .ok (.invokevirtual 205, 3) := by decide +kernel
theorem dL_law_1649 : decode cL_law 1649 = .ok (.aload_n 2, 1) := by decide +kernel
theorem dL_law_1650 : decode cL_law 1650 = .ok (.aload_n 0, 1) := by decide +kernel
theorem dL_law_1651 : decode cL_law 1651 = .ok (.iload_n 3, 1) := by decide +kernel
theorem dL_law_1652 : decode cL_law 1652 = .ok (.iconst 1, 1) := by decide +kernel
theorem dL_law_1653 : decode cL_law 1653 = .ok (.iadd, 1) := by decide +kernel
theorem dL_law_1654 : decode cL_law 1654 = .ok (.iaload, 1) := by decide +kernel
theorem dL_law_1655 : decode cL_law 1655 = .ok (.aload_n 0, 1) := by decide +kernel
theorem dL_law_1656 : decode cL_law 1656 = .ok (.iload_n 3, 1) := by decide +kernel
theorem dL_law_1657 : decode cL_law 1657 = .ok (.iconst 2, 1) := by decide +kernel
theorem dL_law_1658 : decode cL_law 1658 = .ok (.iadd, 1) := by decide +kernel
theorem dL_law_1659 : decode cL_law 1659 = .ok (.iaload, 1) := by decide +kernel
theorem dL_law_1660 : decode cL_law 1660 = .ok (.aload_n 0, 1) := by decide +kernel
theorem dL_law_1661 : decode cL_law 1661 = .ok (.iload_n 3, 1) := by decide +kernel
theorem dL_law_1662 : decode cL_law 1662 = .ok (.iconst 3, 1) := by decide +kernel
theorem dL_law_1663 : decode cL_law 1663 = .ok (.iadd, 1) := by decide +kernel
theorem dL_law_1664 : decode cL_law 1664 = .ok (.iaload, 1) := by decide +kernel
theorem dL_law_1665 : decode cL_law 1665 = .ok (.invokevirtual 208, 3) := by decide +kernel
theorem dL_law_1668 : decode cL_law 1668 = .ok (.if_icmp .eq 77, 3) := by decide +kernel
theorem dL_law_1671 : decode cL_law 1671 = .ok (.iconst 0, 1) := by decide +kernel
theorem dL_law_1672 : decode cL_law 1672 = .ok (.ireturn, 1) := by decide +kernel
theorem dL_law_1673 : decode cL_law 1673 = .ok (.aload_n 1, 1) := by decide +kernel
theorem dL_law_1674 : decode cL_law 1674 = .ok (.aload_n 0, 1) := by decide +kernel
theorem dL_law_1675 : decode cL_law 1675 = .ok (.iload_n 3, 1) := by decide +kernel
theorem dL_law_1676 : decode cL_law 1676 = .ok (.iconst 1, 1) := by decide +kernel
theorem dL_law_1677 : decode cL_law 1677 = .ok (.iadd, 1) := by decide +kernel
theorem dL_law_1678 : decode cL_law 1678 = .ok (.iaload, 1) := by decide +kernel
theorem dL_law_1679 : decode cL_law 1679 = .ok (.invokevirtual 209, 3) := by decide +kernel
theorem dL_law_1682 : decode cL_law 1682 = .ok (.aload_n 2, 1) := by decide +kernel
theorem dL_law_1683 : decode cL_law 1683 = .ok (.aload_n 0, 1) := by decide +kernel
theorem dL_law_1684 : decode cL_law 1684 = .ok (.iload_n 3, 1) := by decide +kernel
theorem dL_law_1685 : decode cL_law 1685 = .ok (.iconst 1, 1) := by decide +kernel
theorem dL_law_1686 : decode cL_law 1686 = .ok (.iadd, 1) := by decide +kernel
theorem dL_law_1687 : decode cL_law 1687 = .ok (.iaload, 1) := by decide +kernel
theorem dL_law_1688 : decode cL_law 1688 = .ok (.invokevirtual 212, 3) := by decide +kernel
theorem dL_law_1691 : decode cL_law 1691 = .ok (.if_icmp .eq 54, 3) := by decide +kernel
theorem dL_law_1694 : decode cL_law 1694 = .ok (.iconst 0, 1) := by decide +kernel
theorem dL_law_1695 : decode cL_law 1695 = .ok (.ireturn, 1) := by decide +kernel
theorem dL_law_1696 : decode cL_law 1696 = .ok (.aload_n 1, 1) := by decide +kernel
theorem dL_law_1697 : decode cL_law 1697 = .ok (.aload_n 0, 1) := by decide +kernel
theorem dL_law_1698 : decode cL_law 1698 = .ok (.iload_n 3, 1) := by decide +kernel
theorem dL_law_1699 : decode cL_law 1699 = .ok (.iconst 1, 1) := by decide +kernel
theorem dL_law_1700 : decode cL_law 1700 = .ok (.iadd, 1) := by decide +kernel
theorem dL_law_1701 : decode cL_law 1701 = .ok (.iaload, 1) := by decide +kernel
theorem dL_law_1702 : decode cL_law 1702 = .ok (.invokevirtual 213, 3) := by decide +kernel
theorem dL_law_1705 : decode cL_law 1705 = .ok (.aload_n 2, 1) := by decide +kernel
theorem dL_law_1706 : decode cL_law 1706 = .ok (.aload_n 0, 1) := by decide +kernel
theorem dL_law_1707 : decode cL_law 1707 = .ok (.iload_n 3, 1) := by decide +kernel
theorem dL_law_1708 : decode cL_law 1708 = .ok (.iconst 1, 1) := by decide +kernel
theorem dL_law_1709 : decode cL_law 1709 = .ok (.iadd, 1) := by decide +kernel
theorem dL_law_1710 : decode cL_law 1710 = .ok (.iaload, 1) := by decide +kernel
theorem dL_law_1711 : decode cL_law 1711 = .ok (.invokevirtual 216, 3) := by decide +kernel
theorem dL_law_1714 : decode cL_law 1714 = .ok (.if_icmp .eq 31, 3) := by decide +kernel
theorem dL_law_1717 : decode cL_law 1717 = .ok (.iconst 0, 1) := by decide +kernel
theorem dL_law_1718 : decode cL_law 1718 = .ok (.ireturn, 1) := by decide +kernel
theorem dL_law_1719 : decode cL_law 1719 = .ok (.aload_n 1, 1) := by decide +kernel
theorem dL_law_1720 : decode cL_law 1720 = .ok (.invokevirtual 217, 3) := by decide +kernel
theorem dL_law_1723 : decode cL_law 1723 = .ok (.aload_n 2, 1) := by decide +kernel
theorem dL_law_1724 : decode cL_law 1724 = .ok (.invokevirtual 220, 3) := by decide +kernel
theorem dL_law_1727 : decode cL_law 1727 = .ok (.if_icmp .eq 18, 3) := by decide +kernel
theorem dL_law_1730 : decode cL_law 1730 = .ok (.iconst 0, 1) := by decide +kernel
theorem dL_law_1731 : decode cL_law 1731 = .ok (.ireturn, 1) := by decide +kernel
theorem dL_law_1732 : decode cL_law 1732 = .ok (.aload_n 1, 1) := by decide +kernel
theorem dL_law_1733 : decode cL_law 1733 = .ok (.invokevirtual 221, 3) := by decide +kernel
theorem dL_law_1736 : decode cL_law 1736 = .ok (.aload_n 2, 1) := by decide +kernel
theorem dL_law_1737 : decode cL_law 1737 = .ok (.invokevirtual 224, 3) := by decide +kernel
theorem dL_law_1740 : decode cL_law 1740 = .ok (.if_icmp .eq 5, 3) := by decide +kernel
theorem dL_law_1743 : decode cL_law 1743 = .ok (.iconst 0, 1) := by decide +kernel
theorem dL_law_1744 : decode cL_law 1744 = .ok (.ireturn, 1) := by decide +kernel
theorem dL_law_1745 : decode cL_law 1745 = .ok (.iinc 3 5, 3) := by decide +kernel
theorem dL_law_1748 : decode cL_law 1748 = .ok (.goto (-1730), 3) := by decide +kernel
theorem dL_law_1751 : decode cL_law 1751 = .ok (.iconst 1, 1) := by decide +kernel
theorem dL_law_1752 : decode cL_law 1752 = .ok (.ireturn, 1) := by decide +kernel
