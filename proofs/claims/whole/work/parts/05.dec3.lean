theorem dX12_piece_19 : decode cX12_piece 19 = .ok (.invokestatic 101, 3) := by decide +kernel
theorem dX12_piece_22 : decode cX12_piece 22 = .ok (.ifCond .eq 11, 3) := by decide +kernel
theorem dX12_piece_25 : decode cX12_piece 25 = .ok (.iload 4, 2) := by decide +kernel
theorem dX12_piece_27 : decode cX12_piece 27 = .ok (.invokestatic 97, 3) := by decide +kernel
theorem dX12_piece_30 : decode cX12_piece 30 = .ok (.ifCond .ne 5, 3) := by decide +kernel
theorem dX12_piece_33 : decode cX12_piece 33 = .ok (.iconst (-1), 1) := by decide +kernel
theorem dX12_piece_34 : decode cX12_piece 34 = .ok (.ireturn, 1) := by decide +kernel
theorem dX12_piece_35 : decode cX12_piece 35 = .ok (.aload_n 0, 1) := by decide +kernel
theorem dX12_piece_36 : decode cX12_piece 36 = .ok (.getfield 9, 3) := by decide +kernel
theorem dX12_piece_39 : decode cX12_piece 39 = .ok (.iconst 4, 1) := by decide +kernel
theorem dX12_piece_40 : decode cX12_piece 40 = .ok (.iaload, 1) := by decide +kernel
theorem dX12_piece_41 : decode cX12_piece 41 = .ok (.istore 5, 2) := by decide +kernel
theorem dX12_piece_43 : decode cX12_piece 43 = .ok (.iload 5, 2) := by decide +kernel
theorem dX12_piece_45 : decode cX12_piece 45 = .ok (.bipush 6, 2) := by decide +kernel
theorem dX12_piece_47 : decode cX12_piece 47 = .ok (.if_icmp .ne 6, 3) := by decide +kernel
theorem dX12_piece_50 : decode cX12_piece 50 = .ok (.bipush (-2), 2) := by decide +kernel
theorem dX12_piece_52 : decode cX12_piece 52 = .ok (.ireturn, 1) := by decide +kernel
theorem dX12_piece_53 : decode cX12_piece 53 = .ok (.aload_n 0, 1) := by decide +kernel
theorem dX12_piece_54 : decode cX12_piece 54 = .ok (.getfield 9, 3) := by decide +kernel
theorem dX12_piece_57 : decode cX12_piece 57 = .ok (.iconst 4, 1) := by decide +kernel
theorem dX12_piece_58 : decode cX12_piece 58 = .ok (.dup2, 1) := by decide +kernel
theorem dX12_piece_59 : decode cX12_piece 59 = .ok (.iaload, 1) := by decide +kernel
theorem dX12_piece_60 : decode cX12_piece 60 = .ok (.iconst 1, 1) := by decide +kernel
theorem dX12_piece_61 : decode cX12_piece 61 = .ok (.iadd, 1) := by decide +kernel
theorem dX12_piece_62 : decode cX12_piece 62 = .ok (.iastore, 1) := by decide +kernel
theorem dX12_piece_63 : decode cX12_piece 63 = .ok (.aload_n 0, 1) := by decide +kernel
theorem dX12_piece_64 : decode cX12_piece 64 = .ok (.iload 5, 2) := by decide +kernel
theorem dX12_piece_66 : decode cX12_piece 66 = .ok (.iconst 0, 1) := by decide +kernel
theorem dX12_piece_67 : decode cX12_piece 67 = .ok (.iload_n 1, 1) := by decide +kernel
theorem dX12_piece_68 : decode cX12_piece 68 = .ok (.invokevirtual 105, 3) := by decide +kernel
theorem dX12_piece_71 : decode cX12_piece 71 = .ok (.aload_n 0, 1) := by decide +kernel
theorem dX12_piece_72 : decode cX12_piece 72 = .ok (.iload 5, 2) := by decide +kernel
theorem dX12_piece_74 : decode cX12_piece 74 = .ok (.iconst 1, 1) := by decide +kernel
theorem dX12_piece_75 : decode cX12_piece 75 = .ok (.iload_n 2, 1) := by decide +kernel
theorem dX12_piece_76 : decode cX12_piece 76 = .ok (.invokevirtual 105, 3) := by decide +kernel
theorem dX12_piece_79 : decode cX12_piece 79 = .ok (.aload_n 0, 1) := by decide +kernel
theorem dX12_piece_80 : decode cX12_piece 80 = .ok (.iload 5, 2) := by decide +kernel
theorem dX12_piece_82 : decode cX12_piece 82 = .ok (.iconst 2, 1) := by decide +kernel
theorem dX12_piece_83 : decode cX12_piece 83 = .ok (.iload_n 3, 1) := by decide +kernel
theorem dX12_piece_84 : decode cX12_piece 84 = .ok (.invokevirtual 105, 3) := by decide +kernel
theorem dX12_piece_87 : decode cX12_piece 87 = .ok (.aload_n 0, 1) := by decide +kernel
theorem dX12_piece_88 : decode cX12_piece 88 = .ok (.iload 5, 2) := by decide +kernel
theorem dX12_piece_90 : decode cX12_piece 90 = .ok (.iconst 3, 1) := by decide +kernel
theorem dX12_piece_91 : decode cX12_piece 91 = .ok (.iload 4, 2) := by decide +kernel
theorem dX12_piece_93 : decode cX12_piece 93 = .ok (.invokevirtual 105, 3) := by decide +kernel
theorem dX12_piece_96 : decode cX12_piece 96 = .ok (.aload_n 0, 1) := by decide +kernel
theorem dX12_piece_97 : decode cX12_piece 97 = .ok (.iload 5, 2) := by decide +kernel
theorem dX12_piece_99 : decode cX12_piece 99 = .ok (.iconst 4, 1) := by decide +kernel
theorem dX12_piece_100 : decode cX12_piece 100 = .ok (.iconst 0, 1) := by decide +kernel
theorem dX12_piece_101 : decode cX12_piece 101 = .ok (.invokevirtual 105, 3) := by decide +kernel
theorem dX12_piece_104 : decode cX12_piece 104 = .ok (.iload 5, 2) := by decide +kernel
theorem dX12_piece_106 : decode cX12_piece 106 = .ok (.ireturn, 1) := by decide +kernel
theorem dX12_pieceOf_0 : decode cX12_pieceOf 0 = .ok (.aload_n 0, 1) := by decide +kernel
theorem dX12_pieceOf_1 : decode cX12_pieceOf 1 = .ok (.iload_n 1, 1) := by decide +kernel
theorem dX12_pieceOf_2 : decode cX12_pieceOf 2 = .ok (.invokevirtual 109, 3) := by decide +kernel
theorem dX12_pieceOf_5 : decode cX12_pieceOf 5 = .ok (.ifCond .eq 13, 3) := by decide +kernel
theorem dX12_pieceOf_8 : decode cX12_pieceOf 8 = .ok (.iload_n 2, 1) := by decide +kernel
theorem dX12_pieceOf_9 : decode cX12_pieceOf 9 = .ok (.iconst 0, 1) := by decide +kernel
theorem dX12_pieceOf_10 : decode cX12_pieceOf 10 = .ok (.bipush 9, 2) := by decide +kernel
theorem dX12_pieceOf_12 : decode cX12_pieceOf 12 = .ok (.invokestatic 61, 3) := by decide +kernel
theorem dX12_pieceOf_15 : decode cX12_pieceOf 15 = .ok (.ifCond .ne 5, 3) := by decide +kernel
theorem dX12_pieceOf_18 : decode cX12_pieceOf 18 = .ok (.iconst (-1), 1) := by decide +kernel
theorem dX12_pieceOf_19 : decode cX12_pieceOf 19 = .ok (.ireturn, 1) := by decide +kernel
theorem dX12_pieceOf_20 : decode cX12_pieceOf 20 = .ok (.iload_n 2, 1) := by decide +kernel
theorem dX12_pieceOf_21 : decode cX12_pieceOf 21 = .ok (.tableswitch 73 5 9 #[35, 41, 47, 53, 67], 35) := by decide +kernel
theorem dX12_pieceOf_56 : decode cX12_pieceOf 56 = .ok (.aload_n 0, 1) := by decide +kernel
theorem dX12_pieceOf_57 : decode cX12_pieceOf 57 = .ok (.iload_n 1, 1) := by decide +kernel
theorem dX12_pieceOf_58 : decode cX12_pieceOf 58 = .ok (.invokevirtual 112, 3) := by decide +kernel
theorem dX12_pieceOf_61 : decode cX12_pieceOf 61 = .ok (.ireturn, 1) := by decide +kernel
theorem dX12_pieceOf_62 : decode cX12_pieceOf 62 = .ok (.aload_n 0, 1) := by decide +kernel
theorem dX12_pieceOf_63 : decode cX12_pieceOf 63 = .ok (.iload_n 1, 1) := by decide +kernel
theorem dX12_pieceOf_64 : decode cX12_pieceOf 64 = .ok (.invokevirtual 88, 3) := by decide +kernel
theorem dX12_pieceOf_67 : decode cX12_pieceOf 67 = .ok (.ireturn, 1) := by decide +kernel
theorem dX12_pieceOf_68 : decode cX12_pieceOf 68 = .ok (.aload_n 0, 1) := by decide +kernel
theorem dX12_pieceOf_69 : decode cX12_pieceOf 69 = .ok (.iload_n 1, 1) := by decide +kernel
theorem dX12_pieceOf_70 : decode cX12_pieceOf 70 = .ok (.invokevirtual 91, 3) := by decide +kernel
theorem dX12_pieceOf_73 : decode cX12_pieceOf 73 = .ok (.ireturn, 1) := by decide +kernel
theorem dX12_pieceOf_74 : decode cX12_pieceOf 74 = .ok (.aload_n 0, 1) := by decide +kernel
theorem dX12_pieceOf_75 : decode cX12_pieceOf 75 = .ok (.iload_n 1, 1) := by decide +kernel
theorem dX12_pieceOf_76 : decode cX12_pieceOf 76 = .ok (.invokevirtual 115, 3) := by decide +kernel
theorem dX12_pieceOf_79 : decode cX12_pieceOf 79 = .ok (.ifCond .eq 7, 3) := by decide +kernel
theorem dX12_pieceOf_82 : decode cX12_pieceOf 82 = .ok (.iconst 1, 1) := by decide +kernel
theorem dX12_pieceOf_83 : decode cX12_pieceOf 83 = .ok (.goto 4, 3) := by decide +kernel
theorem dX12_pieceOf_86 : decode cX12_pieceOf 86 = .ok (.iconst 0, 1) := by decide +kernel
theorem dX12_pieceOf_87 : decode cX12_pieceOf 87 = .ok (.ireturn, 1) := by decide +kernel
theorem dX12_pieceOf_88 : decode cX12_pieceOf 88 = .ok (.aload_n 0, 1) := by decide +kernel
theorem dX12_pieceOf_89 : decode cX12_pieceOf 89 = .ok (.iload_n 1, 1) := by decide +kernel
theorem dX12_pieceOf_90 : decode cX12_pieceOf 90 = .ok (.invokevirtual 94, 3) := by decide +kernel
theorem dX12_pieceOf_93 : decode cX12_pieceOf 93 = .ok (.ireturn, 1) := by decide +kernel
theorem dX12_pieceOf_94 : decode cX12_pieceOf 94 = .ok (.aload_n 0, 1) := by decide +kernel
theorem dX12_pieceOf_95 : decode cX12_pieceOf 95 = .ok (.iload_n 1, 1) := by decide +kernel
theorem dX12_pieceOf_96 : decode cX12_pieceOf 96 = .ok (.iload_n 2, 1) := by decide +kernel
theorem dX12_pieceOf_97 : decode cX12_pieceOf 97 = .ok (.invokevirtual 69, 3) := by decide +kernel
theorem dX12_pieceOf_100 : decode cX12_pieceOf 100 = .ok (.ireturn, 1) := by decide +kernel
theorem dX12_change_0 : decode cX12_change 0 = .ok (.aload_n 0, 1) := by decide +kernel
theorem dX12_change_1 : decode cX12_change 1 = .ok (.iload_n 1, 1) := by decide +kernel
theorem dX12_change_2 : decode cX12_change 2 = .ok (.invokevirtual 109, 3) := by decide +kernel
theorem dX12_change_5 : decode cX12_change 5 = .ok (.ifCond .eq 27, 3) := by decide +kernel
theorem dX12_change_8 : decode cX12_change 8 = .ok (.iload_n 2, 1) := by decide +kernel
theorem dX12_change_9 : decode cX12_change 9 = .ok (.iload_n 3, 1) := by decide +kernel
theorem dX12_change_10 : decode cX12_change 10 = .ok (.invokestatic 101, 3) := by decide +kernel
theorem dX12_change_13 : decode cX12_change 13 = .ok (.ifCond .eq 19, 3) := by decide +kernel
theorem dX12_change_16 : decode cX12_change 16 = .ok (.aload_n 0, 1) := by decide +kernel
theorem dX12_change_17 : decode cX12_change 17 = .ok (.bipush 35, 2) := by decide +kernel
theorem dX12_change_19 : decode cX12_change 19 = .ok (.iconst 5, 1) := by decide +kernel
theorem dX12_change_20 : decode cX12_change 20 = .ok (.iload_n 1, 1) := by decide +kernel
theorem dX12_change_21 : decode cX12_change 21 = .ok (.imul, 1) := by decide +kernel
theorem dX12_change_22 : decode cX12_change 22 = .ok (.iadd, 1) := by decide +kernel
theorem dX12_change_23 : decode cX12_change 23 = .ok (.iload_n 2, 1) := by decide +kernel
theorem dX12_change_24 : decode cX12_change 24 = .ok (.iadd, 1) := by decide +kernel
theorem dX12_change_25 : decode cX12_change 25 = .ok (.iload_n 3, 1) := by decide +kernel
theorem dX12_change_26 : decode cX12_change 26 = .ok (.invokevirtual 118, 3) := by decide +kernel
theorem dX12_change_29 : decode cX12_change 29 = .ok (.goto 4, 3) := by decide +kernel
theorem dX12_change_32 : decode cX12_change 32 = .ok (.iconst (-1), 1) := by decide +kernel
theorem dX12_change_33 : decode cX12_change 33 = .ok (.ireturn, 1) := by decide +kernel
theorem dX12_remake_0 : decode cX12_remake 0 = .ok (.aload_n 0, 1) := by decide +kernel
theorem dX12_remake_1 : decode cX12_remake 1 = .ok (.iload_n 1, 1) := by decide +kernel
theorem dX12_remake_2 : decode cX12_remake 2 = .ok (.invokevirtual 109, 3) := by decide +kernel
theorem dX12_remake_5 : decode cX12_remake 5 = .ok (.ifCond .eq 26, 3) := by decide +kernel
theorem dX12_remake_8 : decode cX12_remake 8 = .ok (.iload_n 2, 1) := by decide +kernel
theorem dX12_remake_9 : decode cX12_remake 9 = .ok (.iconst 1, 1) := by decide +kernel
theorem dX12_remake_10 : decode cX12_remake 10 = .ok (.iconst 5, 1) := by decide +kernel
theorem dX12_remake_11 : decode cX12_remake 11 = .ok (.invokestatic 61, 3) := by decide +kernel
theorem dX12_remake_14 : decode cX12_remake 14 = .ok (.ifCond .eq 17, 3) := by decide +kernel
theorem dX12_remake_17 : decode cX12_remake 17 = .ok (.aload_n 0, 1) := by decide +kernel
theorem dX12_remake_18 : decode cX12_remake 18 = .ok (.bipush 35, 2) := by decide +kernel
theorem dX12_remake_20 : decode cX12_remake 20 = .ok (.iconst 5, 1) := by decide +kernel
theorem dX12_remake_21 : decode cX12_remake 21 = .ok (.iload_n 1, 1) := by decide +kernel
theorem dX12_remake_22 : decode cX12_remake 22 = .ok (.imul, 1) := by decide +kernel
theorem dX12_remake_23 : decode cX12_remake 23 = .ok (.iadd, 1) := by decide +kernel
theorem dX12_remake_24 : decode cX12_remake 24 = .ok (.iload_n 2, 1) := by decide +kernel
theorem dX12_remake_25 : decode cX12_remake 25 = .ok (.invokevirtual 118, 3) := by decide +kernel
theorem dX12_remake_28 : decode cX12_remake 28 = .ok (.goto 4, 3) := by decide +kernel
theorem dX12_remake_31 : decode cX12_remake 31 = .ok (.iconst (-1), 1) := by decide +kernel
theorem dX12_remake_32 : decode cX12_remake 32 = .ok (.ireturn, 1) := by decide +kernel
theorem dX12_saying_0 : decode cX12_saying 0 = .ok (.iload_n 1, 1) := by decide +kernel
theorem dX12_saying_1 : decode cX12_saying 1 = .ok (.iconst 0, 1) := by decide +kernel
theorem dX12_saying_2 : decode cX12_saying 2 = .ok (.bipush 15, 2) := by decide +kernel
theorem dX12_saying_4 : decode cX12_saying 4 = .ok (.invokestatic 61, 3) := by decide +kernel
theorem dX12_saying_7 : decode cX12_saying 7 = .ok (.ifCond .eq 25, 3) := by decide +kernel
theorem dX12_saying_10 : decode cX12_saying 10 = .ok (.iload_n 2, 1) := by decide +kernel
theorem dX12_saying_11 : decode cX12_saying 11 = .ok (.iconst 0, 1) := by decide +kernel
theorem dX12_saying_12 : decode cX12_saying 12 = .ok (.bipush 15, 2) := by decide +kernel
theorem dX12_saying_14 : decode cX12_saying 14 = .ok (.invokestatic 61, 3) := by decide +kernel
theorem dX12_saying_17 : decode cX12_saying 17 = .ok (.ifCond .eq 15, 3) := by decide +kernel
theorem dX12_saying_20 : decode cX12_saying 20 = .ok (.aload_n 0, 1) := by decide +kernel
theorem dX12_saying_21 : decode cX12_saying 21 = .ok (.bipush 7, 2) := by decide +kernel
theorem dX12_saying_23 : decode cX12_saying 23 = .ok (.iload_n 1, 1) := by decide +kernel
theorem dX12_saying_24 : decode cX12_saying 24 = .ok (.iadd, 1) := by decide +kernel
theorem dX12_saying_25 : decode cX12_saying 25 = .ok (.iload_n 2, 1) := by decide +kernel
theorem dX12_saying_26 : decode cX12_saying 26 = .ok (.invokevirtual 118, 3) := by decide +kernel
theorem dX12_saying_29 : decode cX12_saying 29 = .ok (.goto 4, 3) := by decide +kernel
theorem dX12_saying_32 : decode cX12_saying 32 = .ok (.iconst (-1), 1) := by decide +kernel
theorem dX12_saying_33 : decode cX12_saying 33 = .ok (.ireturn, 1) := by decide +kernel
theorem dX12_room_0 : decode cX12_room 0 = .ok (.iload_n 1, 1) := by decide +kernel
theorem dX12_room_1 : decode cX12_room 1 = .ok (.invokestatic 97, 3) := by decide +kernel
theorem dX12_room_4 : decode cX12_room 4 = .ok (.ifCond .eq 38, 3) := by decide +kernel
theorem dX12_room_7 : decode cX12_room 7 = .ok (.iload_n 2, 1) := by decide +kernel
theorem dX12_room_8 : decode cX12_room 8 = .ok (.iconst 0, 1) := by decide +kernel
theorem dX12_room_9 : decode cX12_room 9 = .ok (.iconst 1, 1) := by decide +kernel
theorem dX12_room_10 : decode cX12_room 10 = .ok (.invokestatic 61, 3) := by decide +kernel
theorem dX12_room_13 : decode cX12_room 13 = .ok (.ifCond .eq 29, 3) := by decide +kernel
theorem dX12_room_16 : decode cX12_room 16 = .ok (.iload_n 3, 1) := by decide +kernel
theorem dX12_room_17 : decode cX12_room 17 = .ok (.iconst 0, 1) := by decide +kernel
theorem dX12_room_18 : decode cX12_room 18 = .ok (.bipush 9, 2) := by decide +kernel
theorem dX12_room_20 : decode cX12_room 20 = .ok (.invokestatic 61, 3) := by decide +kernel
theorem dX12_room_23 : decode cX12_room 23 = .ok (.ifCond .eq 19, 3) := by decide +kernel
theorem dX12_room_26 : decode cX12_room 26 = .ok (.aload_n 0, 1) := by decide +kernel
theorem dX12_room_27 : decode cX12_room 27 = .ok (.bipush 23, 2) := by decide +kernel
theorem dX12_room_29 : decode cX12_room 29 = .ok (.iconst 2, 1) := by decide +kernel
theorem dX12_room_30 : decode cX12_room 30 = .ok (.iload_n 1, 1) := by decide +kernel
theorem dX12_room_31 : decode cX12_room 31 = .ok (.imul, 1) := by decide +kernel
theorem dX12_room_32 : decode cX12_room 32 = .ok (.iadd, 1) := by decide +kernel
theorem dX12_room_33 : decode cX12_room 33 = .ok (.iload_n 2, 1) := by decide +kernel
theorem dX12_room_34 : decode cX12_room 34 = .ok (.iadd, 1) := by decide +kernel
theorem dX12_room_35 : decode cX12_room 35 = .ok (.iload_n 3, 1) := by decide +kernel
theorem dX12_room_36 : decode cX12_room 36 = .ok (.invokevirtual 118, 3) := by decide +kernel
theorem dX12_room_39 : decode cX12_room 39 = .ok (.goto 4, 3) := by decide +kernel
theorem dX12_room_42 : decode cX12_room 42 = .ok (.iconst (-1), 1) := by decide +kernel
theorem dX12_room_43 : decode cX12_room 43 = .ok (.ireturn, 1) := by decide +kernel
theorem dX12_roomOf_0 : decode cX12_roomOf 0 = .ok (.iload_n 1, 1) := by decide +kernel
theorem dX12_roomOf_1 : decode cX12_roomOf 1 = .ok (.invokestatic 97, 3) := by decide +kernel
theorem dX12_roomOf_4 : decode cX12_roomOf 4 = .ok (.ifCond .eq 28, 3) := by decide +kernel
theorem dX12_roomOf_7 : decode cX12_roomOf 7 = .ok (.iload_n 2, 1) := by decide +kernel
theorem dX12_roomOf_8 : decode cX12_roomOf 8 = .ok (.iconst 0, 1) := by decide +kernel
theorem dX12_roomOf_9 : decode cX12_roomOf 9 = .ok (.iconst 1, 1) := by decide +kernel
theorem dX12_roomOf_10 : decode cX12_roomOf 10 = .ok (.invokestatic 61, 3) := by decide +kernel
theorem dX12_roomOf_13 : decode cX12_roomOf 13 = .ok (.ifCond .eq 19, 3) := by decide +kernel
theorem dX12_roomOf_16 : decode cX12_roomOf 16 = .ok (.aload_n 0, 1) := by decide +kernel
theorem dX12_roomOf_17 : decode cX12_roomOf 17 = .ok (.getfield 9, 3) := by decide +kernel
theorem dX12_roomOf_20 : decode cX12_roomOf 20 = .ok (.bipush 23, 2) := by decide +kernel
theorem dX12_roomOf_22 : decode cX12_roomOf 22 = .ok (.iconst 2, 1) := by decide +kernel
theorem dX12_roomOf_23 : decode cX12_roomOf 23 = .ok (.iload_n 1, 1) := by decide +kernel
theorem dX12_roomOf_24 : decode cX12_roomOf 24 = .ok (.imul, 1) := by decide +kernel
theorem dX12_roomOf_25 : decode cX12_roomOf 25 = .ok (.iadd, 1) := by decide +kernel
theorem dX12_roomOf_26 : decode cX12_roomOf 26 = .ok (.iload_n 2, 1) := by decide +kernel
theorem dX12_roomOf_27 : decode cX12_roomOf 27 = .ok (.iadd, 1) := by decide +kernel
theorem dX12_roomOf_28 : decode cX12_roomOf 28 = .ok (.iaload, 1) := by decide +kernel
theorem dX12_roomOf_29 : decode cX12_roomOf 29 = .ok (.goto 4, 3) := by decide +kernel
theorem dX12_roomOf_32 : decode cX12_roomOf 32 = .ok (.iconst (-1), 1) := by decide +kernel
theorem dX12_roomOf_33 : decode cX12_roomOf 33 = .ok (.ireturn, 1) := by decide +kernel
theorem dX12_ends_0 : decode cX12_ends 0 = .ok (.iload_n 1, 1) := by decide +kernel
theorem dX12_ends_1 : decode cX12_ends 1 = .ok (.iconst 1, 1) := by decide +kernel
theorem dX12_ends_2 : decode cX12_ends 2 = .ok (.bipush 16, 2) := by decide +kernel
theorem dX12_ends_4 : decode cX12_ends 4 = .ok (.invokestatic 61, 3) := by decide +kernel
theorem dX12_ends_7 : decode cX12_ends 7 = .ok (.ifCond .ne 5, 3) := by decide +kernel
theorem dX12_ends_10 : decode cX12_ends 10 = .ok (.iconst (-1), 1) := by decide +kernel
theorem dX12_ends_11 : decode cX12_ends 11 = .ok (.ireturn, 1) := by decide +kernel
theorem dX12_ends_12 : decode cX12_ends 12 = .ok (.iload_n 1, 1) := by decide +kernel
theorem dX12_ends_13 : decode cX12_ends 13 = .ok (.aload_n 0, 1) := by decide +kernel
theorem dX12_ends_14 : decode cX12_ends 14 = .ok (.getfield 9, 3) := by decide +kernel
theorem dX12_ends_17 : decode cX12_ends 17 = .ok (.iconst 1, 1) := by decide +kernel
theorem dX12_ends_18 : decode cX12_ends 18 = .ok (.iaload, 1) := by decide +kernel
theorem dX12_ends_19 : decode cX12_ends 19 = .ok (.if_icmp .ge 8, 3) := by decide +kernel
theorem dX12_ends_22 : decode cX12_ends 22 = .ok (.bipush (-4), 2) := by decide +kernel
theorem dX12_ends_24 : decode cX12_ends 24 = .ok (.goto 9, 3) := by decide +kernel
theorem dX12_ends_27 : decode cX12_ends 27 = .ok (.aload_n 0, 1) := by decide +kernel
theorem dX12_ends_28 : decode cX12_ends 28 = .ok (.iconst 0, 1) := by decide +kernel
theorem dX12_ends_29 : decode cX12_ends 29 = .ok (.iload_n 1, 1) := by decide +kernel
theorem dX12_ends_30 : decode cX12_ends 30 = .ok (.invokevirtual 118, 3) := by decide +kernel
theorem dX12_ends_33 : decode cX12_ends 33 = .ok (.ireturn, 1) := by decide +kernel
theorem dX12_anew_0 : decode cX12_anew 0 = .ok (.aload_n 0, 1) := by decide +kernel
theorem dX12_anew_1 : decode cX12_anew 1 = .ok (.getfield 9, 3) := by decide +kernel
theorem dX12_anew_4 : decode cX12_anew 4 = .ok (.iconst 1, 1) := by decide +kernel
theorem dX12_anew_5 : decode cX12_anew 5 = .ok (.iaload, 1) := by decide +kernel
theorem dX12_anew_6 : decode cX12_anew 6 = .ok (.istore_n 1, 1) := by decide +kernel
theorem dX12_anew_7 : decode cX12_anew 7 = .ok (.aload_n 0, 1) := by decide +kernel
theorem dX12_anew_8 : decode cX12_anew 8 = .ok (.getfield 9, 3) := by decide +kernel
theorem dX12_anew_11 : decode cX12_anew 11 = .ok (.iconst 1, 1) := by decide +kernel
theorem dX12_anew_12 : decode cX12_anew 12 = .ok (.iconst 0, 1) := by decide +kernel
theorem dX12_anew_13 : decode cX12_anew 13 = .ok (.iastore, 1) := by decide +kernel
theorem dX12_anew_14 : decode cX12_anew 14 = .ok (.aload_n 0, 1) := by decide +kernel
theorem dX12_anew_15 : decode cX12_anew 15 = .ok (.getfield 9, 3) := by decide +kernel
theorem dX12_anew_18 : decode cX12_anew 18 = .ok (.iconst 2, 1) := by decide +kernel
theorem dX12_anew_19 : decode cX12_anew 19 = .ok (.iconst 0, 1) := by decide +kernel
theorem dX12_anew_20 : decode cX12_anew 20 = .ok (.iastore, 1) := by decide +kernel
theorem dX12_anew_21 : decode cX12_anew 21 = .ok (.iconst 0, 1) := by decide +kernel
theorem dX12_anew_22 : decode cX12_anew 22 = .ok (.istore_n 2, 1) := by decide +kernel
theorem dX12_anew_23 : decode cX12_anew 23 = .ok (.iload_n 2, 1) := by decide +kernel
theorem dX12_anew_24 : decode cX12_anew 24 = .ok (.aload_n 0, 1) := by decide +kernel
theorem dX12_anew_25 : decode cX12_anew 25 = .ok (.getfield 9, 3) := by decide +kernel
theorem dX12_anew_28 : decode cX12_anew 28 = .ok (.iconst 4, 1) := by decide +kernel
theorem dX12_anew_29 : decode cX12_anew 29 = .ok (.iaload, 1) := by decide +kernel
theorem dX12_anew_30 : decode cX12_anew 30 = .ok (.if_icmp .ge 16, 3) := by decide +kernel
theorem dX12_anew_33 : decode cX12_anew 33 = .ok (.aload_n 0, 1) := by decide +kernel
theorem dX12_anew_34 : decode cX12_anew 34 = .ok (.iload_n 2, 1) := by decide +kernel
theorem dX12_anew_35 : decode cX12_anew 35 = .ok (.iconst 4, 1) := by decide +kernel
theorem dX12_anew_36 : decode cX12_anew 36 = .ok (.iconst 0, 1) := by decide +kernel
theorem dX12_anew_37 : decode cX12_anew 37 = .ok (.invokevirtual 105, 3) := by decide +kernel
theorem dX12_anew_40 : decode cX12_anew 40 = .ok (.iinc 2 1, 3) := by decide +kernel
theorem dX12_anew_43 : decode cX12_anew 43 = .ok (.goto (-20), 3) := by decide +kernel
theorem dX12_anew_46 : decode cX12_anew 46 = .ok (.iload_n 1, 1) := by decide +kernel
theorem dX12_anew_47 : decode cX12_anew 47 = .ok (.ireturn, 1) := by decide +kernel
theorem dX12_allLean_0 : decode cX12_allLean 0 = .ok (.iconst 0, 1) := by decide +kernel
theorem dX12_allLean_1 : decode cX12_allLean 1 = .ok (.istore_n 1, 1) := by decide +kernel
theorem dX12_allLean_2 : decode cX12_allLean 2 = .ok (.iconst 0, 1) := by decide +kernel
theorem dX12_allLean_3 : decode cX12_allLean 3 = .ok (.istore_n 2, 1) := by decide +kernel
theorem dX12_allLean_4 : decode cX12_allLean 4 = .ok (.iload_n 2, 1) := by decide +kernel
theorem dX12_allLean_5 : decode cX12_allLean 5 = .ok (.aload_n 0, 1) := by decide +kernel
theorem dX12_allLean_6 : decode cX12_allLean 6 = .ok (.getfield 9, 3) := by decide +kernel
theorem dX12_allLean_9 : decode cX12_allLean 9 = .ok (.iconst 4, 1) := by decide +kernel
theorem dX12_allLean_10 : decode cX12_allLean 10 = .ok (.iaload, 1) := by decide +kernel
theorem dX12_allLean_11 : decode cX12_allLean 11 = .ok (.if_icmp .ge 18, 3) := by decide +kernel
theorem dX12_allLean_14 : decode cX12_allLean 14 = .ok (.iload_n 1, 1) := by decide +kernel
theorem dX12_allLean_15 : decode cX12_allLean 15 = .ok (.aload_n 0, 1) := by decide +kernel
theorem dX12_allLean_16 : decode cX12_allLean 16 = .ok (.iload_n 2, 1) := by decide +kernel
theorem dX12_allLean_17 : decode cX12_allLean 17 = .ok (.iconst 1, 1) := by decide +kernel
theorem dX12_allLean_18 : decode cX12_allLean 18 = .ok (.invokevirtual 69, 3) := by decide +kernel
theorem dX12_allLean_21 : decode cX12_allLean 21 = .ok (.iadd, 1) := by decide +kernel
theorem dX12_allLean_22 : decode cX12_allLean 22 = .ok (.istore_n 1, 1) := by decide +kernel
theorem dX12_allLean_23 : decode cX12_allLean 23 = .ok (.iinc 2 1, 3) := by decide +kernel
theorem dX12_allLean_26 : decode cX12_allLean 26 = .ok (.goto (-22), 3) := by decide +kernel
theorem dX12_allLean_29 : decode cX12_allLean 29 = .ok (.iload_n 1, 1) := by decide +kernel
theorem dX12_allLean_30 : decode cX12_allLean 30 = .ok (.ireturn, 1) := by decide +kernel
theorem dX12_state_0 : decode cX12_state 0 = .ok (.iload_n 1, 1) := by decide +kernel
theorem dX12_state_1 : decode cX12_state 1 = .ok (.tableswitch 98 0 6 #[43, 50, 57, 64, 77, 82, 93], 43) := by decide +kernel
theorem dX12_state_44 : decode cX12_state 44 = .ok (.aload_n 0, 1) := by decide +kernel
theorem dX12_state_45 : decode cX12_state 45 = .ok (.getfield 9, 3) := by decide +kernel
theorem dX12_state_48 : decode cX12_state 48 = .ok (.iconst 1, 1) := by decide +kernel
theorem dX12_state_49 : decode cX12_state 49 = .ok (.iaload, 1) := by decide +kernel
theorem dX12_state_50 : decode cX12_state 50 = .ok (.ireturn, 1) := by decide +kernel
theorem dX12_state_51 : decode cX12_state 51 = .ok (.aload_n 0, 1) := by decide +kernel
theorem dX12_state_52 : decode cX12_state 52 = .ok (.getfield 9, 3) := by decide +kernel
theorem dX12_state_55 : decode cX12_state 55 = .ok (.iconst 0, 1) := by decide +kernel
theorem dX12_state_56 : decode cX12_state 56 = .ok (.iaload, 1) := by decide +kernel
theorem dX12_state_57 : decode cX12_state 57 = .ok (.ireturn, 1) := by decide +kernel
theorem dX12_state_58 : decode cX12_state 58 = .ok (.aload_n 0, 1) := by decide +kernel
theorem dX12_state_59 : decode cX12_state 59 = .ok (.getfield 9, 3) := by decide +kernel
theorem dX12_state_62 : decode cX12_state 62 = .ok (.iconst 2, 1) := by decide +kernel
theorem dX12_state_63 : decode cX12_state 63 = .ok (.iaload, 1) := by decide +kernel
theorem dX12_state_64 : decode cX12_state 64 = .ok (.ireturn, 1) := by decide +kernel
theorem dX12_state_65 : decode cX12_state 65 = .ok (.aload_n 0, 1) := by decide +kernel
theorem dX12_state_66 : decode cX12_state 66 = .ok (.invokevirtual 121, 3) := by decide +kernel
theorem dX12_state_69 : decode cX12_state 69 = .ok (.ifCond .eq 7, 3) := by decide +kernel
theorem dX12_state_72 : decode cX12_state 72 = .ok (.iconst 1, 1) := by decide +kernel
theorem dX12_state_73 : decode cX12_state 73 = .ok (.goto 4, 3) := by decide +kernel
theorem dX12_state_76 : decode cX12_state 76 = .ok (.iconst 0, 1) := by decide +kernel
theorem dX12_state_77 : decode cX12_state 77 = .ok (.ireturn, 1) := by decide +kernel
theorem dX12_state_78 : decode cX12_state 78 = .ok (.aload_n 0, 1) := by decide +kernel
theorem dX12_state_79 : decode cX12_state 79 = .ok (.invokevirtual 125, 3) := by decide +kernel
theorem dX12_state_82 : decode cX12_state 82 = .ok (.ireturn, 1) := by decide +kernel
theorem dX12_state_83 : decode cX12_state 83 = .ok (.aload_n 0, 1) := by decide +kernel
theorem dX12_state_84 : decode cX12_state 84 = .ok (.aload_n 0, 1) := by decide +kernel
theorem dX12_state_85 : decode cX12_state 85 = .ok (.getfield 9, 3) := by decide +kernel
theorem dX12_state_88 : decode cX12_state 88 = .ok (.iconst 1, 1) := by decide +kernel
theorem dX12_state_89 : decode cX12_state 89 = .ok (.iaload, 1) := by decide +kernel
theorem dX12_state_90 : decode cX12_state 90 = .ok (.invokevirtual 65, 3) := by decide +kernel
theorem dX12_state_93 : decode cX12_state 93 = .ok (.ireturn, 1) := by decide +kernel
theorem dX12_state_94 : decode cX12_state 94 = .ok (.aload_n 0, 1) := by decide +kernel
theorem dX12_state_95 : decode cX12_state 95 = .ok (.invokevirtual 128, 3) := by decide +kernel
theorem dX12_state_98 : decode cX12_state 98 = .ok (.ireturn, 1) := by decide +kernel
theorem dX12_state_99 : decode cX12_state 99 = .ok (.iconst (-1), 1) := by decide +kernel
theorem dX12_state_100 : decode cX12_state 100 = .ok (.ireturn, 1) := by decide +kernel
theorem dX12_feed_0 : decode cX12_feed 0 = .ok (.iload_n 3, 1) := by decide +kernel
theorem dX12_feed_1 : decode cX12_feed 1 = .ok (.iconst 1, 1) := by decide +kernel
theorem dX12_feed_2 : decode cX12_feed 2 = .ok (.bipush 8, 2) := by decide +kernel
theorem dX12_feed_4 : decode cX12_feed 4 = .ok (.invokestatic 61, 3) := by decide +kernel
theorem dX12_feed_7 : decode cX12_feed 7 = .ok (.ifCond .ne 5, 3) := by decide +kernel
theorem dX12_feed_10 : decode cX12_feed 10 = .ok (.iconst (-1), 1) := by decide +kernel
theorem dX12_feed_11 : decode cX12_feed 11 = .ok (.ireturn, 1) := by decide +kernel
theorem dX12_feed_12 : decode cX12_feed 12 = .ok (.aload_n 0, 1) := by decide +kernel
theorem dX12_feed_13 : decode cX12_feed 13 = .ok (.getfield 131, 3) := by decide +kernel
theorem dX12_feed_16 : decode cX12_feed 16 = .ok (.iload_n 3, 1) := by decide +kernel
theorem dX12_feed_17 : decode cX12_feed 17 = .ok (.iadd, 1) := by decide +kernel
theorem dX12_feed_18 : decode cX12_feed 18 = .ok (.sipush 200, 3) := by decide +kernel
theorem dX12_feed_21 : decode cX12_feed 21 = .ok (.if_icmp .le 6, 3) := by decide +kernel
theorem dX12_feed_24 : decode cX12_feed 24 = .ok (.bipush (-2), 2) := by decide +kernel
theorem dX12_feed_26 : decode cX12_feed 26 = .ok (.ireturn, 1) := by decide +kernel
theorem dX12_feed_27 : decode cX12_feed 27 = .ok (.iconst 0, 1) := by decide +kernel
theorem dX12_feed_28 : decode cX12_feed 28 = .ok (.istore 4, 2) := by decide +kernel
theorem dX12_feed_30 : decode cX12_feed 30 = .ok (.iload 4, 2) := by decide +kernel
theorem dX12_feed_32 : decode cX12_feed 32 = .ok (.iload_n 3, 1) := by decide +kernel
theorem dX12_feed_33 : decode cX12_feed 33 = .ok (.if_icmp .ge 40, 3) := by decide +kernel
theorem dX12_feed_36 : decode cX12_feed 36 = .ok (.aload_n 0, 1) := by decide +kernel
theorem dX12_feed_37 : decode cX12_feed 37 = .ok (.getfield 19, 3) := by decide +kernel
theorem dX12_feed_40 : decode cX12_feed 40 = .ok (.aload_n 0, 1) := by decide +kernel
theorem dX12_feed_41 : decode cX12_feed 41 = .ok (.getfield 131, 3) := by decide +kernel
theorem dX12_feed_44 : decode cX12_feed 44 = .ok (.lload_n 1, 1) := by decide +kernel
theorem dX12_feed_45 : decode cX12_feed 45 = .ok (.bipush 8, 2) := by decide +kernel
theorem dX12_feed_47 : decode cX12_feed 47 = .ok (.iload 4, 2) := by decide +kernel
theorem dX12_feed_49 : decode cX12_feed 49 = .ok (.imul, 1) := by decide +kernel
theorem dX12_feed_50 : decode cX12_feed 50 = .ok (.lshr, 1) := by decide +kernel
theorem dX12_feed_51 : decode cX12_feed 51 = .ok (.ldc2_w 135, 3) := by decide +kernel
theorem dX12_feed_54 : decode cX12_feed 54 = .ok (.land, 1) := by decide +kernel
theorem dX12_feed_55 : decode cX12_feed 55 = .ok (.l2i, 1) := by decide +kernel
theorem dX12_feed_56 : decode cX12_feed 56 = .ok (.iastore, 1) := by decide +kernel
theorem dX12_feed_57 : decode cX12_feed 57 = .ok (.aload_n 0, 1) := by decide +kernel
theorem dX12_feed_58 : decode cX12_feed 58 = .ok (.dup, 1) := by decide +kernel
theorem dX12_feed_59 : decode cX12_feed 59 = .ok (.getfield 131, 3) := by decide +kernel
theorem dX12_feed_62 : decode cX12_feed 62 = .ok (.iconst 1, 1) := by decide +kernel
theorem dX12_feed_63 : decode cX12_feed 63 = .ok (.iadd, 1) := by decide +kernel
theorem dX12_feed_64 : decode cX12_feed 64 = .ok (.putfield 131, 3) := by decide +kernel
theorem dX12_feed_67 : decode cX12_feed 67 = .ok (.iinc 4 1, 3) := by decide +kernel
theorem dX12_feed_70 : decode cX12_feed 70 = .ok (.goto (-40), 3) := by decide +kernel
theorem dX12_feed_73 : decode cX12_feed 73 = .ok (.aload_n 0, 1) := by decide +kernel
theorem dX12_feed_74 : decode cX12_feed 74 = .ok (.getfield 131, 3) := by decide +kernel
theorem dX12_feed_77 : decode cX12_feed 77 = .ok (.ireturn, 1) := by decide +kernel
theorem dX12_isByte_0 : decode cX12_isByte 0 = .ok (.iload_n 1, 1) := by decide +kernel
theorem dX12_isByte_1 : decode cX12_isByte 1 = .ok (.aload_n 0, 1) := by decide +kernel
theorem dX12_isByte_2 : decode cX12_isByte 2 = .ok (.getfield 131, 3) := by decide +kernel
theorem dX12_isByte_5 : decode cX12_isByte 5 = .ok (.if_icmp .ge 21, 3) := by decide +kernel
theorem dX12_isByte_8 : decode cX12_isByte 8 = .ok (.aload_n 0, 1) := by decide +kernel
theorem dX12_isByte_9 : decode cX12_isByte 9 = .ok (.getfield 19, 3) := by decide +kernel
theorem dX12_isByte_12 : decode cX12_isByte 12 = .ok (.iload_n 1, 1) := by decide +kernel
theorem dX12_isByte_13 : decode cX12_isByte 13 = .ok (.iaload, 1) := by decide +kernel
theorem dX12_isByte_14 : decode cX12_isByte 14 = .ok (.iload_n 2, 1) := by decide +kernel
theorem dX12_isByte_15 : decode cX12_isByte 15 = .ok (.iload_n 3, 1) := by decide +kernel
theorem dX12_isByte_16 : decode cX12_isByte 16 = .ok (.invokestatic 61, 3) := by decide +kernel
theorem dX12_isByte_19 : decode cX12_isByte 19 = .ok (.ifCond .eq 7, 3) := by decide +kernel
theorem dX12_isByte_22 : decode cX12_isByte 22 = .ok (.iconst 1, 1) := by decide +kernel
theorem dX12_isByte_23 : decode cX12_isByte 23 = .ok (.goto 4, 3) := by decide +kernel
theorem dX12_isByte_26 : decode cX12_isByte 26 = .ok (.iconst 0, 1) := by decide +kernel
theorem dX12_isByte_27 : decode cX12_isByte 27 = .ok (.ireturn, 1) := by decide +kernel
theorem dX12_isName_0 : decode cX12_isName 0 = .ok (.iload_n 2, 1) := by decide +kernel
theorem dX12_isName_1 : decode cX12_isName 1 = .ok (.bipush 7, 2) := by decide +kernel
theorem dX12_isName_3 : decode cX12_isName 3 = .ok (.if_icmp .gt 26, 3) := by decide +kernel
theorem dX12_isName_6 : decode cX12_isName 6 = .ok (.iload_n 2, 1) := by decide +kernel
theorem dX12_isName_7 : decode cX12_isName 7 = .ok (.bipush 7, 2) := by decide +kernel
theorem dX12_isName_9 : decode cX12_isName 9 = .ok (.if_icmp .eq 16, 3) := by decide +kernel
theorem dX12_isName_12 : decode cX12_isName 12 = .ok (.getstatic 137, 3) := by decide +kernel
theorem dX12_isName_15 : decode cX12_isName 15 = .ok (.bipush 7, 2) := by decide +kernel
theorem dX12_isName_17 : decode cX12_isName 17 = .ok (.iload_n 1, 1) := by decide +kernel
theorem dX12_isName_18 : decode cX12_isName 18 = .ok (.imul, 1) := by decide +kernel
theorem dX12_isName_19 : decode cX12_isName 19 = .ok (.iload_n 2, 1) := by decide +kernel
theorem dX12_isName_20 : decode cX12_isName 20 = .ok (.iadd, 1) := by decide +kernel
theorem dX12_isName_21 : decode cX12_isName 21 = .ok (.iaload, 1) := by decide +kernel
theorem dX12_isName_22 : decode cX12_isName 22 = .ok (.ifCond .ne 7, 3) := by decide +kernel
theorem dX12_isName_25 : decode cX12_isName 25 = .ok (.iconst 1, 1) := by decide +kernel
theorem dX12_isName_26 : decode cX12_isName 26 = .ok (.goto 4, 3) := by decide +kernel
theorem dX12_isName_29 : decode cX12_isName 29 = .ok (.iconst 0, 1) := by decide +kernel
theorem dX12_isName_30 : decode cX12_isName 30 = .ok (.istore_n 3, 1) := by decide +kernel
theorem dX12_isName_31 : decode cX12_isName 31 = .ok (.iconst 0, 1) := by decide +kernel
theorem dX12_isName_32 : decode cX12_isName 32 = .ok (.istore 4, 2) := by decide +kernel
theorem dX12_isName_34 : decode cX12_isName 34 = .ok (.iload 4, 2) := by decide +kernel
theorem dX12_isName_36 : decode cX12_isName 36 = .ok (.iload_n 2, 1) := by decide +kernel
theorem dX12_isName_37 : decode cX12_isName 37 = .ok (.if_icmp .ge 45, 3) := by decide +kernel
theorem dX12_isName_40 : decode cX12_isName 40 = .ok (.iload_n 3, 1) := by decide +kernel
theorem dX12_isName_41 : decode cX12_isName 41 = .ok (.ifCond .eq 41, 3) := by decide +kernel
theorem dX12_isName_44 : decode cX12_isName 44 = .ok (.getstatic 137, 3) := by decide +kernel
theorem dX12_isName_47 : decode cX12_isName 47 = .ok (.bipush 7, 2) := by decide +kernel
theorem dX12_isName_49 : decode cX12_isName 49 = .ok (.iload_n 1, 1) := by decide +kernel
theorem dX12_isName_50 : decode cX12_isName 50 = .ok (.imul, 1) := by decide +kernel
theorem dX12_isName_51 : decode cX12_isName 51 = .ok (.iload 4, 2) := by decide +kernel
theorem dX12_isName_53 : decode cX12_isName 53 = .ok (.iadd, 1) := by decide +kernel
theorem dX12_isName_54 : decode cX12_isName 54 = .ok (.iaload, 1) := by decide +kernel
theorem dX12_isName_55 : decode cX12_isName 55 = .ok (.aload_n 0, 1) := by decide +kernel
theorem dX12_isName_56 : decode cX12_isName 56 = .ok (.getfield 19, 3) := by decide +kernel
theorem dX12_isName_59 : decode cX12_isName 59 = .ok (.aload_n 0, 1) := by decide +kernel
theorem dX12_isName_60 : decode cX12_isName 60 = .ok (.getfield 140, 3) := by decide +kernel
theorem dX12_isName_63 : decode cX12_isName 63 = .ok (.iload 4, 2) := by decide +kernel
theorem dX12_isName_65 : decode cX12_isName 65 = .ok (.iadd, 1) := by decide +kernel
theorem dX12_isName_66 : decode cX12_isName 66 = .ok (.iaload, 1) := by decide +kernel
theorem dX12_isName_67 : decode cX12_isName 67 = .ok (.if_icmp .ne 7, 3) := by decide +kernel
theorem dX12_isName_70 : decode cX12_isName 70 = .ok (.iconst 1, 1) := by decide +kernel
theorem dX12_isName_71 : decode cX12_isName 71 = .ok (.goto 4, 3) := by decide +kernel
theorem dX12_isName_74 : decode cX12_isName 74 = .ok (.iconst 0, 1) := by decide +kernel
theorem dX12_isName_75 : decode cX12_isName 75 = .ok (.istore_n 3, 1) := by decide +kernel
theorem dX12_isName_76 : decode cX12_isName 76 = .ok (.iinc 4 1, 3) := by decide +kernel
theorem dX12_isName_79 : decode cX12_isName 79 = .ok (.goto (-45), 3) := by decide +kernel
theorem dX12_isName_82 : decode cX12_isName 82 = .ok (.iload_n 3, 1) := by decide +kernel
theorem dX12_isName_83 : decode cX12_isName 83 = .ok (.ireturn, 1) := by decide +kernel
theorem dX12_wordHere_0 : decode cX12_wordHere 0 = .ok (.iconst 0, 1) := by decide +kernel
theorem dX12_wordHere_1 : decode cX12_wordHere 1 = .ok (.istore_n 1, 1) := by decide +kernel
theorem dX12_wordHere_2 : decode cX12_wordHere 2 = .ok (.iload_n 1, 1) := by decide +kernel
theorem dX12_wordHere_3 : decode cX12_wordHere 3 = .ok (.bipush 18, 2) := by decide +kernel
theorem dX12_wordHere_5 : decode cX12_wordHere 5 = .ok (.if_icmp .ge 26, 3) := by decide +kernel
theorem dX12_wordHere_8 : decode cX12_wordHere 8 = .ok (.aload_n 0, 1) := by decide +kernel
theorem dX12_wordHere_9 : decode cX12_wordHere 9 = .ok (.iload_n 1, 1) := by decide +kernel
theorem dX12_wordHere_10 : decode cX12_wordHere 10 = .ok (.aload_n 0, 1) := by decide +kernel
theorem dX12_wordHere_11 : decode cX12_wordHere 11 = .ok (.getfield 143, 3) := by decide +kernel
theorem dX12_wordHere_14 : decode cX12_wordHere 14 = .ok (.aload_n 0, 1) := by decide +kernel
theorem dX12_wordHere_15 : decode cX12_wordHere 15 = .ok (.getfield 140, 3) := by decide +kernel
theorem dX12_wordHere_18 : decode cX12_wordHere 18 = .ok (.isub, 1) := by decide +kernel
theorem dX12_wordHere_19 : decode cX12_wordHere 19 = .ok (.invokevirtual 146, 3) := by decide +kernel
theorem dX12_wordHere_22 : decode cX12_wordHere 22 = .ok (.ifCond .ne 9, 3) := by decide +kernel
theorem dX12_wordHere_25 : decode cX12_wordHere 25 = .ok (.iinc 1 1, 3) := by decide +kernel
theorem dX12_wordHere_28 : decode cX12_wordHere 28 = .ok (.goto (-26), 3) := by decide +kernel
theorem dX12_wordHere_31 : decode cX12_wordHere 31 = .ok (.iload_n 1, 1) := by decide +kernel
theorem dX12_wordHere_32 : decode cX12_wordHere 32 = .ok (.bipush 18, 2) := by decide +kernel
theorem dX12_wordHere_34 : decode cX12_wordHere 34 = .ok (.if_icmp .ge 7, 3) := by decide +kernel
theorem dX12_wordHere_37 : decode cX12_wordHere 37 = .ok (.iload_n 1, 1) := by decide +kernel
theorem dX12_wordHere_38 : decode cX12_wordHere 38 = .ok (.goto 5, 3) := by decide +kernel
theorem dX12_wordHere_41 : decode cX12_wordHere 41 = .ok (.bipush 26, 2) := by decide +kernel
theorem dX12_wordHere_43 : decode cX12_wordHere 43 = .ok (.ireturn, 1) := by decide +kernel
theorem dX12_signOf_0 : decode cX12_signOf 0 = .ok (.iload_n 0, 1) := by decide +kernel
theorem dX12_signOf_1 : decode cX12_signOf 1 = .ok (.lookupswitch 71 #[(40, 62), (41, 65), (59, 68), (60, 59), (61, 59), (62, 59)], 59) := by decide +kernel
theorem dX12_signOf_60 : decode cX12_signOf 60 = .ok (.bipush 21, 2) := by decide +kernel
theorem dX12_signOf_62 : decode cX12_signOf 62 = .ok (.ireturn, 1) := by decide +kernel
theorem dX12_signOf_63 : decode cX12_signOf 63 = .ok (.bipush 22, 2) := by decide +kernel
theorem dX12_signOf_65 : decode cX12_signOf 65 = .ok (.ireturn, 1) := by decide +kernel
theorem dX12_signOf_66 : decode cX12_signOf 66 = .ok (.bipush 23, 2) := by decide +kernel
theorem dX12_signOf_68 : decode cX12_signOf 68 = .ok (.ireturn, 1) := by decide +kernel
theorem dX12_signOf_69 : decode cX12_signOf 69 = .ok (.bipush 24, 2) := by decide +kernel
theorem dX12_signOf_71 : decode cX12_signOf 71 = .ok (.ireturn, 1) := by decide +kernel
theorem dX12_signOf_72 : decode cX12_signOf 72 = .ok (.bipush 26, 2) := by decide +kernel
theorem dX12_signOf_74 : decode cX12_signOf 74 = .ok (.ireturn, 1) := by decide +kernel
theorem dX12_reads_0 : decode cX12_reads 0 = .ok (.aload_n 0, 1) := by decide +kernel
theorem dX12_reads_1 : decode cX12_reads 1 = .ok (.aload_n 0, 1) := by decide +kernel
theorem dX12_reads_2 : decode cX12_reads 2 = .ok (.getfield 143, 3) := by decide +kernel
theorem dX12_reads_5 : decode cX12_reads 5 = .ok (.bipush 32, 2) := by decide +kernel
theorem dX12_reads_7 : decode cX12_reads 7 = .ok (.bipush 32, 2) := by decide +kernel
theorem dX12_reads_9 : decode cX12_reads 9 = .ok (.invokevirtual 149, 3) := by decide +kernel
theorem dX12_reads_12 : decode cX12_reads 12 = .ok (.ifCond .eq 16, 3) := by decide +kernel
theorem dX12_reads_15 : decode cX12_reads 15 = .ok (.aload_n 0, 1) := by decide +kernel
theorem dX12_reads_16 : decode cX12_reads 16 = .ok (.dup, 1) := by decide +kernel
theorem dX12_reads_17 : decode cX12_reads 17 = .ok (.getfield 143, 3) := by decide +kernel
theorem dX12_reads_20 : decode cX12_reads 20 = .ok (.iconst 1, 1) := by decide +kernel
theorem dX12_reads_21 : decode cX12_reads 21 = .ok (.iadd, 1) := by decide +kernel
theorem dX12_reads_22 : decode cX12_reads 22 = .ok (.putfield 143, 3) := by decide +kernel
theorem dX12_reads_25 : decode cX12_reads 25 = .ok (.goto (-25), 3) := by decide +kernel
theorem dX12_reads_28 : decode cX12_reads 28 = .ok (.aload_n 0, 1) := by decide +kernel
theorem dX12_reads_29 : decode cX12_reads 29 = .ok (.aload_n 0, 1) := by decide +kernel
theorem dX12_reads_30 : decode cX12_reads 30 = .ok (.getfield 143, 3) := by decide +kernel
theorem dX12_reads_33 : decode cX12_reads 33 = .ok (.putfield 140, 3) := by decide +kernel
theorem dX12_reads_36 : decode cX12_reads 36 = .ok (.aload_n 0, 1) := by decide +kernel
theorem dX12_reads_37 : decode cX12_reads 37 = .ok (.iconst 0, 1) := by decide +kernel
theorem dX12_reads_38 : decode cX12_reads 38 = .ok (.putfield 152, 3) := by decide +kernel
theorem dX12_reads_41 : decode cX12_reads 41 = .ok (.aload_n 0, 1) := by decide +kernel
theorem dX12_reads_42 : decode cX12_reads 42 = .ok (.getfield 143, 3) := by decide +kernel
theorem dX12_reads_45 : decode cX12_reads 45 = .ok (.aload_n 0, 1) := by decide +kernel
theorem dX12_reads_46 : decode cX12_reads 46 = .ok (.getfield 131, 3) := by decide +kernel
theorem dX12_reads_49 : decode cX12_reads 49 = .ok (.if_icmp .ne 12, 3) := by decide +kernel
theorem dX12_reads_52 : decode cX12_reads 52 = .ok (.aload_n 0, 1) := by decide +kernel
theorem dX12_reads_53 : decode cX12_reads 53 = .ok (.bipush 25, 2) := by decide +kernel
theorem dX12_reads_55 : decode cX12_reads 55 = .ok (.putfield 155, 3) := by decide +kernel
theorem dX12_reads_58 : decode cX12_reads 58 = .ok (.goto 210, 3) := by decide +kernel
theorem dX12_reads_61 : decode cX12_reads 61 = .ok (.aload_n 0, 1) := by decide +kernel
theorem dX12_reads_62 : decode cX12_reads 62 = .ok (.aload_n 0, 1) := by decide +kernel
theorem dX12_reads_63 : decode cX12_reads 63 = .ok (.getfield 143, 3) := by decide +kernel
theorem dX12_reads_66 : decode cX12_reads 66 = .ok (.bipush 97, 2) := by decide +kernel
theorem dX12_reads_68 : decode cX12_reads 68 = .ok (.bipush 122, 2) := by decide +kernel
theorem dX12_reads_70 : decode cX12_reads 70 = .ok (.invokevirtual 149, 3) := by decide +kernel
theorem dX12_reads_73 : decode cX12_reads 73 = .ok (.ifCond .eq 42, 3) := by decide +kernel
theorem dX12_reads_76 : decode cX12_reads 76 = .ok (.aload_n 0, 1) := by decide +kernel
theorem dX12_reads_77 : decode cX12_reads 77 = .ok (.aload_n 0, 1) := by decide +kernel
theorem dX12_reads_78 : decode cX12_reads 78 = .ok (.getfield 143, 3) := by decide +kernel
theorem dX12_reads_81 : decode cX12_reads 81 = .ok (.bipush 97, 2) := by decide +kernel
theorem dX12_reads_83 : decode cX12_reads 83 = .ok (.bipush 122, 2) := by decide +kernel
theorem dX12_reads_85 : decode cX12_reads 85 = .ok (.invokevirtual 149, 3) := by decide +kernel
theorem dX12_reads_88 : decode cX12_reads 88 = .ok (.ifCond .eq 16, 3) := by decide +kernel
theorem dX12_reads_91 : decode cX12_reads 91 = .ok (.aload_n 0, 1) := by decide +kernel
theorem dX12_reads_92 : decode cX12_reads 92 = .ok (.dup, 1) := by decide +kernel
theorem dX12_reads_93 : decode cX12_reads 93 = .ok (.getfield 143, 3) := by decide +kernel
theorem dX12_reads_96 : decode cX12_reads 96 = .ok (.iconst 1, 1) := by decide +kernel
theorem dX12_reads_97 : decode cX12_reads 97 = .ok (.iadd, 1) := by decide +kernel
theorem dX12_reads_98 : decode cX12_reads 98 = .ok (.putfield 143, 3) := by decide +kernel
theorem dX12_reads_101 : decode cX12_reads 101 = .ok (.goto (-25), 3) := by decide +kernel
theorem dX12_reads_104 : decode cX12_reads 104 = .ok (.aload_n 0, 1) := by decide +kernel
theorem dX12_reads_105 : decode cX12_reads 105 = .ok (.aload_n 0, 1) := by decide +kernel
theorem dX12_reads_106 : decode cX12_reads 106 = .ok (.invokevirtual 158, 3) := by decide +kernel
theorem dX12_reads_109 : decode cX12_reads 109 = .ok (.putfield 155, 3) := by decide +kernel
theorem dX12_reads_112 : decode cX12_reads 112 = .ok (.goto 156, 3) := by decide +kernel
theorem dX12_reads_115 : decode cX12_reads 115 = .ok (.aload_n 0, 1) := by decide +kernel
theorem dX12_reads_116 : decode cX12_reads 116 = .ok (.aload_n 0, 1) := by decide +kernel
theorem dX12_reads_117 : decode cX12_reads 117 = .ok (.getfield 143, 3) := by decide +kernel
theorem dX12_reads_120 : decode cX12_reads 120 = .ok (.bipush 48, 2) := by decide +kernel
theorem dX12_reads_122 : decode cX12_reads 122 = .ok (.bipush 57, 2) := by decide +kernel
theorem dX12_reads_124 : decode cX12_reads 124 = .ok (.invokevirtual 149, 3) := by decide +kernel
theorem dX12_reads_127 : decode cX12_reads 127 = .ok (.ifCond .eq 102, 3) := by decide +kernel
theorem dX12_reads_130 : decode cX12_reads 130 = .ok (.aload_n 0, 1) := by decide +kernel
theorem dX12_reads_131 : decode cX12_reads 131 = .ok (.aload_n 0, 1) := by decide +kernel
theorem dX12_reads_132 : decode cX12_reads 132 = .ok (.getfield 143, 3) := by decide +kernel
theorem dX12_reads_135 : decode cX12_reads 135 = .ok (.bipush 48, 2) := by decide +kernel
theorem dX12_reads_137 : decode cX12_reads 137 = .ok (.bipush 57, 2) := by decide +kernel
theorem dX12_reads_139 : decode cX12_reads 139 = .ok (.invokevirtual 149, 3) := by decide +kernel
theorem dX12_reads_142 : decode cX12_reads 142 = .ok (.ifCond .eq 60, 3) := by decide +kernel
theorem dX12_reads_145 : decode cX12_reads 145 = .ok (.aload_n 0, 1) := by decide +kernel
theorem dX12_reads_146 : decode cX12_reads 146 = .ok (.aload_n 0, 1) := by decide +kernel
theorem dX12_reads_147 : decode cX12_reads 147 = .ok (.getfield 143, 3) := by decide +kernel
theorem dX12_reads_150 : decode cX12_reads 150 = .ok (.aload_n 0, 1) := by decide +kernel
theorem dX12_reads_151 : decode cX12_reads 151 = .ok (.getfield 140, 3) := by decide +kernel
theorem dX12_reads_154 : decode cX12_reads 154 = .ok (.isub, 1) := by decide +kernel
theorem dX12_reads_155 : decode cX12_reads 155 = .ok (.iconst 3, 1) := by decide +kernel
theorem dX12_reads_156 : decode cX12_reads 156 = .ok (.if_icmp .le 10, 3) := by decide +kernel
theorem dX12_reads_159 : decode cX12_reads 159 = .ok (.aload_n 0, 1) := by decide +kernel
theorem dX12_reads_160 : decode cX12_reads 160 = .ok (.getfield 152, 3) := by decide +kernel
theorem dX12_reads_163 : decode cX12_reads 163 = .ok (.goto 23, 3) := by decide +kernel
theorem dX12_reads_166 : decode cX12_reads 166 = .ok (.bipush 10, 2) := by decide +kernel
theorem dX12_reads_168 : decode cX12_reads 168 = .ok (.aload_n 0, 1) := by decide +kernel
theorem dX12_reads_169 : decode cX12_reads 169 = .ok (.getfield 152, 3) := by decide +kernel
theorem dX12_reads_172 : decode cX12_reads 172 = .ok (.imul, 1) := by decide +kernel
theorem dX12_reads_173 : decode cX12_reads 173 = .ok (.aload_n 0, 1) := by decide +kernel
theorem dX12_reads_174 : decode cX12_reads 174 = .ok (.getfield 19, 3) := by decide +kernel
theorem dX12_reads_177 : decode cX12_reads 177 = .ok (.aload_n 0, 1) := by decide +kernel
theorem dX12_reads_178 : decode cX12_reads 178 = .ok (.getfield 143, 3) := by decide +kernel
theorem dX12_reads_181 : decode cX12_reads 181 = .ok (.iaload, 1) := by decide +kernel
theorem dX12_reads_182 : decode cX12_reads 182 = .ok (.iadd, 1) := by decide +kernel
theorem dX12_reads_183 : decode cX12_reads 183 = .ok (.bipush 48, 2) := by decide +kernel
theorem dX12_reads_185 : decode cX12_reads 185 = .ok (.isub, 1) := by decide +kernel
theorem dX12_reads_186 : decode cX12_reads 186 = .ok (.putfield 152, 3) := by decide +kernel
theorem dX12_reads_189 : decode cX12_reads 189 = .ok (.aload_n 0, 1) := by decide +kernel
theorem dX12_reads_190 : decode cX12_reads 190 = .ok (.dup, 1) := by decide +kernel
theorem dX12_reads_191 : decode cX12_reads 191 = .ok (.getfield 143, 3) := by decide +kernel
theorem dX12_reads_194 : decode cX12_reads 194 = .ok (.iconst 1, 1) := by decide +kernel
theorem dX12_reads_195 : decode cX12_reads 195 = .ok (.iadd, 1) := by decide +kernel
theorem dX12_reads_196 : decode cX12_reads 196 = .ok (.putfield 143, 3) := by decide +kernel
theorem dX12_reads_199 : decode cX12_reads 199 = .ok (.goto (-69), 3) := by decide +kernel
theorem dX12_reads_202 : decode cX12_reads 202 = .ok (.aload_n 0, 1) := by decide +kernel
theorem dX12_reads_203 : decode cX12_reads 203 = .ok (.aload_n 0, 1) := by decide +kernel
theorem dX12_reads_204 : decode cX12_reads 204 = .ok (.getfield 143, 3) := by decide +kernel
theorem dX12_reads_207 : decode cX12_reads 207 = .ok (.aload_n 0, 1) := by decide +kernel
theorem dX12_reads_208 : decode cX12_reads 208 = .ok (.getfield 140, 3) := by decide +kernel
theorem dX12_reads_211 : decode cX12_reads 211 = .ok (.isub, 1) := by decide +kernel
theorem dX12_reads_212 : decode cX12_reads 212 = .ok (.iconst 4, 1) := by decide +kernel
theorem dX12_reads_213 : decode cX12_reads 213 = .ok (.if_icmp .le 8, 3) := by decide +kernel
theorem dX12_reads_216 : decode cX12_reads 216 = .ok (.bipush 26, 2) := by decide +kernel
theorem dX12_reads_218 : decode cX12_reads 218 = .ok (.goto 5, 3) := by decide +kernel
theorem dX12_reads_221 : decode cX12_reads 221 = .ok (.bipush 20, 2) := by decide +kernel
theorem dX12_reads_223 : decode cX12_reads 223 = .ok (.putfield 155, 3) := by decide +kernel
theorem dX12_reads_226 : decode cX12_reads 226 = .ok (.goto 42, 3) := by decide +kernel
theorem dX12_reads_229 : decode cX12_reads 229 = .ok (.aload_n 0, 1) := by decide +kernel
theorem dX12_reads_230 : decode cX12_reads 230 = .ok (.aload_n 0, 1) := by decide +kernel
theorem dX12_reads_231 : decode cX12_reads 231 = .ok (.getfield 19, 3) := by decide +kernel
theorem dX12_reads_234 : decode cX12_reads 234 = .ok (.aload_n 0, 1) := by decide +kernel
theorem dX12_reads_235 : decode cX12_reads 235 = .ok (.getfield 143, 3) := by decide +kernel
theorem dX12_reads_238 : decode cX12_reads 238 = .ok (.iaload, 1) := by decide +kernel
theorem dX12_reads_239 : decode cX12_reads 239 = .ok (.invokestatic 161, 3) := by decide +kernel
theorem dX12_reads_242 : decode cX12_reads 242 = .ok (.putfield 155, 3) := by decide +kernel
theorem dX12_reads_245 : decode cX12_reads 245 = .ok (.aload_n 0, 1) := by decide +kernel
theorem dX12_reads_246 : decode cX12_reads 246 = .ok (.aload_n 0, 1) := by decide +kernel
theorem dX12_reads_247 : decode cX12_reads 247 = .ok (.getfield 19, 3) := by decide +kernel
theorem dX12_reads_250 : decode cX12_reads 250 = .ok (.aload_n 0, 1) := by decide +kernel
theorem dX12_reads_251 : decode cX12_reads 251 = .ok (.getfield 143, 3) := by decide +kernel
theorem dX12_reads_254 : decode cX12_reads 254 = .ok (.iaload, 1) := by decide +kernel
theorem dX12_reads_255 : decode cX12_reads 255 = .ok (.putfield 152, 3) := by decide +kernel
theorem dX12_reads_258 : decode cX12_reads 258 = .ok (.aload_n 0, 1) := by decide +kernel
theorem dX12_reads_259 : decode cX12_reads 259 = .ok (.dup, 1) := by decide +kernel
theorem dX12_reads_260 : decode cX12_reads 260 = .ok (.getfield 143, 3) := by decide +kernel
theorem dX12_reads_263 : decode cX12_reads 263 = .ok (.iconst 1, 1) := by decide +kernel
theorem dX12_reads_264 : decode cX12_reads 264 = .ok (.iadd, 1) := by decide +kernel
theorem dX12_reads_265 : decode cX12_reads 265 = .ok (.putfield 143, 3) := by decide +kernel
theorem dX12_reads_268 : decode cX12_reads 268 = .ok (.return_, 1) := by decide +kernel
theorem dX12_passes_0 : decode cX12_passes 0 = .ok (.aload_n 0, 1) := by decide +kernel
theorem dX12_passes_1 : decode cX12_passes 1 = .ok (.getfield 164, 3) := by decide +kernel
theorem dX12_passes_4 : decode cX12_passes 4 = .ok (.ifCond .ne 11, 3) := by decide +kernel
theorem dX12_passes_7 : decode cX12_passes 7 = .ok (.aload_n 0, 1) := by decide +kernel
theorem dX12_passes_8 : decode cX12_passes 8 = .ok (.getfield 155, 3) := by decide +kernel
theorem dX12_passes_11 : decode cX12_passes 11 = .ok (.iload_n 1, 1) := by decide +kernel
theorem dX12_passes_12 : decode cX12_passes 12 = .ok (.if_icmp .eq 5, 3) := by decide +kernel
theorem dX12_passes_15 : decode cX12_passes 15 = .ok (.iconst 0, 1) := by decide +kernel
theorem dX12_passes_16 : decode cX12_passes 16 = .ok (.ireturn, 1) := by decide +kernel
theorem dX12_passes_17 : decode cX12_passes 17 = .ok (.aload_n 0, 1) := by decide +kernel
theorem dX12_passes_18 : decode cX12_passes 18 = .ok (.invokevirtual 168, 3) := by decide +kernel
theorem dX12_passes_21 : decode cX12_passes 21 = .ok (.iconst 1, 1) := by decide +kernel
theorem dX12_passes_22 : decode cX12_passes 22 = .ok (.ireturn, 1) := by decide +kernel
theorem dX12_step_0 : decode cX12_step 0 = .ok (.aload_n 0, 1) := by decide +kernel
theorem dX12_step_1 : decode cX12_step 1 = .ok (.getfield 9, 3) := by decide +kernel
theorem dX12_step_4 : decode cX12_step 4 = .ok (.bipush 121, 2) := by decide +kernel
theorem dX12_step_6 : decode cX12_step 6 = .ok (.aload_n 0, 1) := by decide +kernel
theorem dX12_step_7 : decode cX12_step 7 = .ok (.getfield 171, 3) := by decide +kernel
theorem dX12_step_10 : decode cX12_step 10 = .ok (.iadd, 1) := by decide +kernel
theorem dX12_step_11 : decode cX12_step 11 = .ok (.iload_n 1, 1) := by decide +kernel
theorem dX12_step_12 : decode cX12_step 12 = .ok (.iastore, 1) := by decide +kernel
theorem dX12_step_13 : decode cX12_step 13 = .ok (.aload_n 0, 1) := by decide +kernel
theorem dX12_step_14 : decode cX12_step 14 = .ok (.dup, 1) := by decide +kernel
theorem dX12_step_15 : decode cX12_step 15 = .ok (.getfield 171, 3) := by decide +kernel
theorem dX12_step_18 : decode cX12_step 18 = .ok (.iconst 1, 1) := by decide +kernel
theorem dX12_step_19 : decode cX12_step 19 = .ok (.iadd, 1) := by decide +kernel
theorem dX12_step_20 : decode cX12_step 20 = .ok (.putfield 171, 3) := by decide +kernel
theorem dX12_step_23 : decode cX12_step 23 = .ok (.return_, 1) := by decide +kernel
theorem dX12_side_0 : decode cX12_side 0 = .ok (.aload_n 0, 1) := by decide +kernel
theorem dX12_side_1 : decode cX12_side 1 = .ok (.getfield 155, 3) := by decide +kernel
theorem dX12_side_4 : decode cX12_side 4 = .ok (.bipush 20, 2) := by decide +kernel
theorem dX12_side_6 : decode cX12_side 6 = .ok (.if_icmp .ne 10, 3) := by decide +kernel
theorem dX12_side_9 : decode cX12_side 9 = .ok (.aload_n 0, 1) := by decide +kernel
theorem dX12_side_10 : decode cX12_side 10 = .ok (.getfield 152, 3) := by decide +kernel
theorem dX12_side_13 : decode cX12_side 13 = .ok (.goto 10, 3) := by decide +kernel
theorem dX12_side_16 : decode cX12_side 16 = .ok (.bipush 8, 2) := by decide +kernel
theorem dX12_side_18 : decode cX12_side 18 = .ok (.aload_n 0, 1) := by decide +kernel
theorem dX12_side_19 : decode cX12_side 19 = .ok (.getfield 155, 3) := by decide +kernel
theorem dX12_side_22 : decode cX12_side 22 = .ok (.isub, 1) := by decide +kernel
theorem dX12_side_23 : decode cX12_side 23 = .ok (.istore_n 1, 1) := by decide +kernel
theorem dX12_side_24 : decode cX12_side 24 = .ok (.aload_n 0, 1) := by decide +kernel
theorem dX12_side_25 : decode cX12_side 25 = .ok (.aload_n 0, 1) := by decide +kernel
theorem dX12_side_26 : decode cX12_side 26 = .ok (.getfield 164, 3) := by decide +kernel
theorem dX12_side_29 : decode cX12_side 29 = .ok (.ifCond .ne 26, 3) := by decide +kernel
theorem dX12_side_32 : decode cX12_side 32 = .ok (.aload_n 0, 1) := by decide +kernel
theorem dX12_side_33 : decode cX12_side 33 = .ok (.getfield 155, 3) := by decide +kernel
theorem dX12_side_36 : decode cX12_side 36 = .ok (.bipush 20, 2) := by decide +kernel
theorem dX12_side_38 : decode cX12_side 38 = .ok (.if_icmp .eq 21, 3) := by decide +kernel
theorem dX12_side_41 : decode cX12_side 41 = .ok (.aload_n 0, 1) := by decide +kernel
theorem dX12_side_42 : decode cX12_side 42 = .ok (.getfield 155, 3) := by decide +kernel
theorem dX12_side_45 : decode cX12_side 45 = .ok (.bipush 9, 2) := by decide +kernel
theorem dX12_side_47 : decode cX12_side 47 = .ok (.bipush 13, 2) := by decide +kernel
theorem dX12_side_49 : decode cX12_side 49 = .ok (.invokestatic 61, 3) := by decide +kernel
theorem dX12_side_52 : decode cX12_side 52 = .ok (.ifCond .ne 7, 3) := by decide +kernel
theorem dX12_side_55 : decode cX12_side 55 = .ok (.iconst 1, 1) := by decide +kernel
theorem dX12_side_56 : decode cX12_side 56 = .ok (.goto 4, 3) := by decide +kernel
theorem dX12_side_59 : decode cX12_side 59 = .ok (.iconst 0, 1) := by decide +kernel
theorem dX12_side_60 : decode cX12_side 60 = .ok (.putfield 164, 3) := by decide +kernel
theorem dX12_side_63 : decode cX12_side 63 = .ok (.aload_n 0, 1) := by decide +kernel
theorem dX12_side_64 : decode cX12_side 64 = .ok (.getfield 164, 3) := by decide +kernel
theorem dX12_side_67 : decode cX12_side 67 = .ok (.ifCond .ne 7, 3) := by decide +kernel
theorem dX12_side_70 : decode cX12_side 70 = .ok (.aload_n 0, 1) := by decide +kernel
theorem dX12_side_71 : decode cX12_side 71 = .ok (.invokevirtual 168, 3) := by decide +kernel
theorem dX12_side_74 : decode cX12_side 74 = .ok (.iload_n 1, 1) := by decide +kernel
theorem dX12_side_75 : decode cX12_side 75 = .ok (.ireturn, 1) := by decide +kernel
theorem dX12_one_0 : decode cX12_one 0 = .ok (.iconst 0, 1) := by decide +kernel
theorem dX12_one_1 : decode cX12_one 1 = .ok (.istore_n 1, 1) := by decide +kernel
theorem dX12_one_2 : decode cX12_one 2 = .ok (.aload_n 0, 1) := by decide +kernel
theorem dX12_one_3 : decode cX12_one 3 = .ok (.bipush 17, 2) := by decide +kernel
theorem dX12_one_5 : decode cX12_one 5 = .ok (.invokevirtual 174, 3) := by decide +kernel
theorem dX12_one_8 : decode cX12_one 8 = .ok (.ifCond .eq 9, 3) := by decide +kernel
theorem dX12_one_11 : decode cX12_one 11 = .ok (.iinc 1 1, 3) := by decide +kernel
theorem dX12_one_14 : decode cX12_one 14 = .ok (.goto (-12), 3) := by decide +kernel
theorem dX12_one_17 : decode cX12_one 17 = .ok (.aload_n 0, 1) := by decide +kernel
theorem dX12_one_18 : decode cX12_one 18 = .ok (.getfield 155, 3) := by decide +kernel
theorem dX12_one_21 : decode cX12_one 21 = .ok (.bipush 22, 2) := by decide +kernel
theorem dX12_one_23 : decode cX12_one 23 = .ok (.if_icmp .ne 72, 3) := by decide +kernel
theorem dX12_one_26 : decode cX12_one 26 = .ok (.aload_n 0, 1) := by decide +kernel
theorem dX12_one_27 : decode cX12_one 27 = .ok (.getfield 177, 3) := by decide +kernel
theorem dX12_one_30 : decode cX12_one 30 = .ok (.iconst 3, 1) := by decide +kernel
theorem dX12_one_31 : decode cX12_one 31 = .ok (.if_icmp .ge 64, 3) := by decide +kernel
theorem dX12_one_34 : decode cX12_one 34 = .ok (.aload_n 0, 1) := by decide +kernel
theorem dX12_one_35 : decode cX12_one 35 = .ok (.bipush 22, 2) := by decide +kernel
theorem dX12_one_37 : decode cX12_one 37 = .ok (.invokevirtual 174, 3) := by decide +kernel
theorem dX12_one_40 : decode cX12_one 40 = .ok (.ifCond .eq 55, 3) := by decide +kernel
theorem dX12_one_43 : decode cX12_one 43 = .ok (.aload_n 0, 1) := by decide +kernel
theorem dX12_one_44 : decode cX12_one 44 = .ok (.dup, 1) := by decide +kernel
theorem dX12_one_45 : decode cX12_one 45 = .ok (.getfield 177, 3) := by decide +kernel
theorem dX12_one_48 : decode cX12_one 48 = .ok (.iconst 1, 1) := by decide +kernel
theorem dX12_one_49 : decode cX12_one 49 = .ok (.iadd, 1) := by decide +kernel
theorem dX12_one_50 : decode cX12_one 50 = .ok (.putfield 177, 3) := by decide +kernel
theorem dX12_one_53 : decode cX12_one 53 = .ok (.aload_n 0, 1) := by decide +kernel
theorem dX12_one_54 : decode cX12_one 54 = .ok (.invokevirtual 180, 3) := by decide +kernel
theorem dX12_one_57 : decode cX12_one 57 = .ok (.aload_n 0, 1) := by decide +kernel
theorem dX12_one_58 : decode cX12_one 58 = .ok (.aload_n 0, 1) := by decide +kernel
theorem dX12_one_59 : decode cX12_one 59 = .ok (.getfield 164, 3) := by decide +kernel
theorem dX12_one_62 : decode cX12_one 62 = .ok (.ifCond .ne 12, 3) := by decide +kernel
theorem dX12_one_65 : decode cX12_one 65 = .ok (.aload_n 0, 1) := by decide +kernel
theorem dX12_one_66 : decode cX12_one 66 = .ok (.bipush 23, 2) := by decide +kernel
theorem dX12_one_68 : decode cX12_one 68 = .ok (.invokevirtual 174, 3) := by decide +kernel
theorem dX12_one_71 : decode cX12_one 71 = .ok (.ifCond .ne 7, 3) := by decide +kernel
theorem dX12_one_74 : decode cX12_one 74 = .ok (.iconst 1, 1) := by decide +kernel
theorem dX12_one_75 : decode cX12_one 75 = .ok (.goto 4, 3) := by decide +kernel
theorem dX12_one_78 : decode cX12_one 78 = .ok (.iconst 0, 1) := by decide +kernel
theorem dX12_one_79 : decode cX12_one 79 = .ok (.putfield 164, 3) := by decide +kernel
theorem dX12_one_82 : decode cX12_one 82 = .ok (.aload_n 0, 1) := by decide +kernel
theorem dX12_one_83 : decode cX12_one 83 = .ok (.dup, 1) := by decide +kernel
theorem dX12_one_84 : decode cX12_one 84 = .ok (.getfield 177, 3) := by decide +kernel
theorem dX12_one_87 : decode cX12_one 87 = .ok (.iconst 1, 1) := by decide +kernel
theorem dX12_one_88 : decode cX12_one 88 = .ok (.isub, 1) := by decide +kernel
theorem dX12_one_89 : decode cX12_one 89 = .ok (.putfield 177, 3) := by decide +kernel
theorem dX12_one_92 : decode cX12_one 92 = .ok (.goto 67, 3) := by decide +kernel
theorem dX12_one_95 : decode cX12_one 95 = .ok (.aload_n 0, 1) := by decide +kernel
theorem dX12_one_96 : decode cX12_one 96 = .ok (.invokevirtual 183, 3) := by decide +kernel
theorem dX12_one_99 : decode cX12_one 99 = .ok (.istore_n 2, 1) := by decide +kernel
theorem dX12_one_100 : decode cX12_one 100 = .ok (.aload_n 0, 1) := by decide +kernel
theorem dX12_one_101 : decode cX12_one 101 = .ok (.getfield 152, 3) := by decide +kernel
theorem dX12_one_104 : decode cX12_one 104 = .ok (.istore_n 3, 1) := by decide +kernel
theorem dX12_one_105 : decode cX12_one 105 = .ok (.aload_n 0, 1) := by decide +kernel
theorem dX12_one_106 : decode cX12_one 106 = .ok (.aload_n 0, 1) := by decide +kernel
theorem dX12_one_107 : decode cX12_one 107 = .ok (.getfield 164, 3) := by decide +kernel
theorem dX12_one_110 : decode cX12_one 110 = .ok (.ifCond .ne 12, 3) := by decide +kernel
theorem dX12_one_113 : decode cX12_one 113 = .ok (.aload_n 0, 1) := by decide +kernel
theorem dX12_one_114 : decode cX12_one 114 = .ok (.bipush 21, 2) := by decide +kernel
theorem dX12_one_116 : decode cX12_one 116 = .ok (.invokevirtual 174, 3) := by decide +kernel
theorem dX12_one_119 : decode cX12_one 119 = .ok (.ifCond .ne 7, 3) := by decide +kernel
theorem dX12_one_122 : decode cX12_one 122 = .ok (.iconst 1, 1) := by decide +kernel
theorem dX12_one_123 : decode cX12_one 123 = .ok (.goto 4, 3) := by decide +kernel
theorem dX12_one_126 : decode cX12_one 126 = .ok (.iconst 0, 1) := by decide +kernel
theorem dX12_one_127 : decode cX12_one 127 = .ok (.putfield 164, 3) := by decide +kernel
theorem dX12_one_130 : decode cX12_one 130 = .ok (.aload_n 0, 1) := by decide +kernel
theorem dX12_one_131 : decode cX12_one 131 = .ok (.invokevirtual 183, 3) := by decide +kernel
theorem dX12_one_134 : decode cX12_one 134 = .ok (.istore 4, 2) := by decide +kernel
theorem dX12_one_136 : decode cX12_one 136 = .ok (.aload_n 0, 1) := by decide +kernel
theorem dX12_one_137 : decode cX12_one 137 = .ok (.getfield 164, 3) := by decide +kernel
theorem dX12_one_140 : decode cX12_one 140 = .ok (.ifCond .ne 19, 3) := by decide +kernel
theorem dX12_one_143 : decode cX12_one 143 = .ok (.aload_n 0, 1) := by decide +kernel
theorem dX12_one_144 : decode cX12_one 144 = .ok (.iload_n 3, 1) := by decide +kernel
theorem dX12_one_145 : decode cX12_one 145 = .ok (.invokevirtual 186, 3) := by decide +kernel
theorem dX12_one_148 : decode cX12_one 148 = .ok (.aload_n 0, 1) := by decide +kernel
theorem dX12_one_149 : decode cX12_one 149 = .ok (.iload_n 2, 1) := by decide +kernel
theorem dX12_one_150 : decode cX12_one 150 = .ok (.invokevirtual 186, 3) := by decide +kernel
theorem dX12_one_153 : decode cX12_one 153 = .ok (.aload_n 0, 1) := by decide +kernel
theorem dX12_one_154 : decode cX12_one 154 = .ok (.iload 4, 2) := by decide +kernel
theorem dX12_one_156 : decode cX12_one 156 = .ok (.invokevirtual 186, 3) := by decide +kernel
theorem dX12_one_159 : decode cX12_one 159 = .ok (.iconst 0, 1) := by decide +kernel
theorem dX12_one_160 : decode cX12_one 160 = .ok (.istore_n 2, 1) := by decide +kernel
theorem dX12_one_161 : decode cX12_one 161 = .ok (.iload_n 2, 1) := by decide +kernel
theorem dX12_one_162 : decode cX12_one 162 = .ok (.iload_n 1, 1) := by decide +kernel
theorem dX12_one_163 : decode cX12_one 163 = .ok (.if_icmp .ge 22, 3) := by decide +kernel
theorem dX12_one_166 : decode cX12_one 166 = .ok (.aload_n 0, 1) := by decide +kernel
theorem dX12_one_167 : decode cX12_one 167 = .ok (.getfield 164, 3) := by decide +kernel
theorem dX12_one_170 : decode cX12_one 170 = .ok (.ifCond .ne 15, 3) := by decide +kernel
theorem dX12_one_173 : decode cX12_one 173 = .ok (.aload_n 0, 1) := by decide +kernel
theorem dX12_one_174 : decode cX12_one 174 = .ok (.bipush 17, 2) := by decide +kernel
theorem dX12_one_176 : decode cX12_one 176 = .ok (.invokevirtual 186, 3) := by decide +kernel
theorem dX12_one_179 : decode cX12_one 179 = .ok (.iinc 2 1, 3) := by decide +kernel
theorem dX12_one_182 : decode cX12_one 182 = .ok (.goto (-21), 3) := by decide +kernel
theorem dX12_one_185 : decode cX12_one 185 = .ok (.return_, 1) := by decide +kernel
theorem dX12_all_0 : decode cX12_all 0 = .ok (.aload_n 0, 1) := by decide +kernel
theorem dX12_all_1 : decode cX12_all 1 = .ok (.invokevirtual 190, 3) := by decide +kernel
theorem dX12_all_4 : decode cX12_all 4 = .ok (.aload_n 0, 1) := by decide +kernel
theorem dX12_all_5 : decode cX12_all 5 = .ok (.bipush 16, 2) := by decide +kernel
theorem dX12_all_7 : decode cX12_all 7 = .ok (.invokevirtual 174, 3) := by decide +kernel
theorem dX12_all_10 : decode cX12_all 10 = .ok (.ifCond .eq 16, 3) := by decide +kernel
theorem dX12_all_13 : decode cX12_all 13 = .ok (.aload_n 0, 1) := by decide +kernel
theorem dX12_all_14 : decode cX12_all 14 = .ok (.invokevirtual 190, 3) := by decide +kernel
theorem dX12_all_17 : decode cX12_all 17 = .ok (.aload_n 0, 1) := by decide +kernel
theorem dX12_all_18 : decode cX12_all 18 = .ok (.bipush 16, 2) := by decide +kernel
theorem dX12_all_20 : decode cX12_all 20 = .ok (.invokevirtual 186, 3) := by decide +kernel
theorem dX12_all_23 : decode cX12_all 23 = .ok (.goto (-19), 3) := by decide +kernel
theorem dX12_all_26 : decode cX12_all 26 = .ok (.return_, 1) := by decide +kernel
theorem dX12_condition_0 : decode cX12_condition 0 = .ok (.aload_n 0, 1) := by decide +kernel
theorem dX12_condition_1 : decode cX12_condition 1 = .ok (.invokevirtual 193, 3) := by decide +kernel
theorem dX12_condition_4 : decode cX12_condition 4 = .ok (.aload_n 0, 1) := by decide +kernel
theorem dX12_condition_5 : decode cX12_condition 5 = .ok (.bipush 15, 2) := by decide +kernel
theorem dX12_condition_7 : decode cX12_condition 7 = .ok (.invokevirtual 174, 3) := by decide +kernel
theorem dX12_condition_10 : decode cX12_condition 10 = .ok (.ifCond .eq 16, 3) := by decide +kernel
theorem dX12_condition_13 : decode cX12_condition 13 = .ok (.aload_n 0, 1) := by decide +kernel
theorem dX12_condition_14 : decode cX12_condition 14 = .ok (.invokevirtual 193, 3) := by decide +kernel
theorem dX12_condition_17 : decode cX12_condition 17 = .ok (.aload_n 0, 1) := by decide +kernel
theorem dX12_condition_18 : decode cX12_condition 18 = .ok (.bipush 15, 2) := by decide +kernel
theorem dX12_condition_20 : decode cX12_condition 20 = .ok (.invokevirtual 186, 3) := by decide +kernel
theorem dX12_condition_23 : decode cX12_condition 23 = .ok (.goto (-19), 3) := by decide +kernel
theorem dX12_condition_26 : decode cX12_condition 26 = .ok (.return_, 1) := by decide +kernel
theorem dX12_ruleHere_0 : decode cX12_ruleHere 0 = .ok (.bipush 89, 2) := by decide +kernel
theorem dX12_ruleHere_2 : decode cX12_ruleHere 2 = .ok (.iconst 4, 1) := by decide +kernel
theorem dX12_ruleHere_3 : decode cX12_ruleHere 3 = .ok (.aload_n 0, 1) := by decide +kernel
theorem dX12_ruleHere_4 : decode cX12_ruleHere 4 = .ok (.getfield 9, 3) := by decide +kernel
theorem dX12_ruleHere_7 : decode cX12_ruleHere 7 = .ok (.bipush 6, 2) := by decide +kernel
theorem dX12_ruleHere_9 : decode cX12_ruleHere 9 = .ok (.iaload, 1) := by decide +kernel
theorem dX12_ruleHere_10 : decode cX12_ruleHere 10 = .ok (.imul, 1) := by decide +kernel
theorem dX12_ruleHere_11 : decode cX12_ruleHere 11 = .ok (.iadd, 1) := by decide +kernel
theorem dX12_ruleHere_12 : decode cX12_ruleHere 12 = .ok (.istore_n 1, 1) := by decide +kernel
theorem dX12_ruleHere_13 : decode cX12_ruleHere 13 = .ok (.aload_n 0, 1) := by decide +kernel
theorem dX12_ruleHere_14 : decode cX12_ruleHere 14 = .ok (.aload_n 0, 1) := by decide +kernel
theorem dX12_ruleHere_15 : decode cX12_ruleHere 15 = .ok (.getfield 155, 3) := by decide +kernel
theorem dX12_ruleHere_18 : decode cX12_ruleHere 18 = .ok (.iconst 5, 1) := by decide +kernel
theorem dX12_ruleHere_19 : decode cX12_ruleHere 19 = .ok (.if_icmp .gt 15, 3) := by decide +kernel
theorem dX12_ruleHere_22 : decode cX12_ruleHere 22 = .ok (.aload_n 0, 1) := by decide +kernel
theorem dX12_ruleHere_23 : decode cX12_ruleHere 23 = .ok (.getfield 9, 3) := by decide +kernel
theorem dX12_ruleHere_26 : decode cX12_ruleHere 26 = .ok (.bipush 6, 2) := by decide +kernel
theorem dX12_ruleHere_28 : decode cX12_ruleHere 28 = .ok (.iaload, 1) := by decide +kernel
theorem dX12_ruleHere_29 : decode cX12_ruleHere 29 = .ok (.bipush 8, 2) := by decide +kernel
theorem dX12_ruleHere_31 : decode cX12_ruleHere 31 = .ok (.if_icmp .ne 7, 3) := by decide +kernel
theorem dX12_ruleHere_34 : decode cX12_ruleHere 34 = .ok (.iconst 1, 1) := by decide +kernel
theorem dX12_ruleHere_35 : decode cX12_ruleHere 35 = .ok (.goto 4, 3) := by decide +kernel
theorem dX12_ruleHere_38 : decode cX12_ruleHere 38 = .ok (.iconst 0, 1) := by decide +kernel
theorem dX12_ruleHere_39 : decode cX12_ruleHere 39 = .ok (.putfield 164, 3) := by decide +kernel
theorem dX12_ruleHere_42 : decode cX12_ruleHere 42 = .ok (.aload_n 0, 1) := by decide +kernel
theorem dX12_ruleHere_43 : decode cX12_ruleHere 43 = .ok (.getfield 164, 3) := by decide +kernel
theorem dX12_ruleHere_46 : decode cX12_ruleHere 46 = .ok (.ifCond .eq 4, 3) := by decide +kernel
theorem dX12_ruleHere_49 : decode cX12_ruleHere 49 = .ok (.return_, 1) := by decide +kernel
theorem dX12_ruleHere_50 : decode cX12_ruleHere 50 = .ok (.aload_n 0, 1) := by decide +kernel
theorem dX12_ruleHere_51 : decode cX12_ruleHere 51 = .ok (.getfield 9, 3) := by decide +kernel
theorem dX12_ruleHere_54 : decode cX12_ruleHere 54 = .ok (.iload_n 1, 1) := by decide +kernel
theorem dX12_ruleHere_55 : decode cX12_ruleHere 55 = .ok (.aload_n 0, 1) := by decide +kernel
theorem dX12_ruleHere_56 : decode cX12_ruleHere 56 = .ok (.getfield 155, 3) := by decide +kernel
theorem dX12_ruleHere_59 : decode cX12_ruleHere 59 = .ok (.iastore, 1) := by decide +kernel
theorem dX12_ruleHere_60 : decode cX12_ruleHere 60 = .ok (.aload_n 0, 1) := by decide +kernel
theorem dX12_ruleHere_61 : decode cX12_ruleHere 61 = .ok (.getfield 9, 3) := by decide +kernel
theorem dX12_ruleHere_64 : decode cX12_ruleHere 64 = .ok (.iload_n 1, 1) := by decide +kernel
theorem dX12_ruleHere_65 : decode cX12_ruleHere 65 = .ok (.iconst 2, 1) := by decide +kernel
theorem dX12_ruleHere_66 : decode cX12_ruleHere 66 = .ok (.iadd, 1) := by decide +kernel
theorem dX12_ruleHere_67 : decode cX12_ruleHere 67 = .ok (.aload_n 0, 1) := by decide +kernel
theorem dX12_ruleHere_68 : decode cX12_ruleHere 68 = .ok (.getfield 171, 3) := by decide +kernel
theorem dX12_ruleHere_71 : decode cX12_ruleHere 71 = .ok (.iastore, 1) := by decide +kernel
theorem dX12_ruleHere_72 : decode cX12_ruleHere 72 = .ok (.aload_n 0, 1) := by decide +kernel
theorem dX12_ruleHere_73 : decode cX12_ruleHere 73 = .ok (.invokevirtual 168, 3) := by decide +kernel
theorem dX12_ruleHere_76 : decode cX12_ruleHere 76 = .ok (.aload_n 0, 1) := by decide +kernel
theorem dX12_ruleHere_77 : decode cX12_ruleHere 77 = .ok (.bipush 14, 2) := by decide +kernel
theorem dX12_ruleHere_79 : decode cX12_ruleHere 79 = .ok (.invokevirtual 174, 3) := by decide +kernel
theorem dX12_ruleHere_82 : decode cX12_ruleHere 82 = .ok (.ifCond .eq 7, 3) := by decide +kernel
theorem dX12_ruleHere_85 : decode cX12_ruleHere 85 = .ok (.aload_n 0, 1) := by decide +kernel
theorem dX12_ruleHere_86 : decode cX12_ruleHere 86 = .ok (.invokevirtual 180, 3) := by decide +kernel
theorem dX12_ruleHere_89 : decode cX12_ruleHere 89 = .ok (.aload_n 0, 1) := by decide +kernel
theorem dX12_ruleHere_90 : decode cX12_ruleHere 90 = .ok (.getfield 9, 3) := by decide +kernel
theorem dX12_ruleHere_93 : decode cX12_ruleHere 93 = .ok (.iload_n 1, 1) := by decide +kernel
theorem dX12_ruleHere_94 : decode cX12_ruleHere 94 = .ok (.iconst 3, 1) := by decide +kernel
theorem dX12_ruleHere_95 : decode cX12_ruleHere 95 = .ok (.iadd, 1) := by decide +kernel
theorem dX12_ruleHere_96 : decode cX12_ruleHere 96 = .ok (.aload_n 0, 1) := by decide +kernel
theorem dX12_ruleHere_97 : decode cX12_ruleHere 97 = .ok (.getfield 171, 3) := by decide +kernel
theorem dX12_ruleHere_100 : decode cX12_ruleHere 100 = .ok (.iastore, 1) := by decide +kernel
theorem dX12_ruleHere_101 : decode cX12_ruleHere 101 = .ok (.aload_n 0, 1) := by decide +kernel
theorem dX12_ruleHere_102 : decode cX12_ruleHere 102 = .ok (.getfield 9, 3) := by decide +kernel
theorem dX12_ruleHere_105 : decode cX12_ruleHere 105 = .ok (.iload_n 1, 1) := by decide +kernel
theorem dX12_ruleHere_106 : decode cX12_ruleHere 106 = .ok (.iconst 1, 1) := by decide +kernel
theorem dX12_ruleHere_107 : decode cX12_ruleHere 107 = .ok (.iadd, 1) := by decide +kernel
theorem dX12_ruleHere_108 : decode cX12_ruleHere 108 = .ok (.aload_n 0, 1) := by decide +kernel
theorem dX12_ruleHere_109 : decode cX12_ruleHere 109 = .ok (.getfield 155, 3) := by decide +kernel
theorem dX12_ruleHere_112 : decode cX12_ruleHere 112 = .ok (.bipush 6, 2) := by decide +kernel
theorem dX12_ruleHere_114 : decode cX12_ruleHere 114 = .ok (.isub, 1) := by decide +kernel
theorem dX12_ruleHere_115 : decode cX12_ruleHere 115 = .ok (.iastore, 1) := by decide +kernel
theorem dX12_ruleHere_116 : decode cX12_ruleHere 116 = .ok (.aload_n 0, 1) := by decide +kernel
theorem dX12_ruleHere_117 : decode cX12_ruleHere 117 = .ok (.aload_n 0, 1) := by decide +kernel
theorem dX12_ruleHere_118 : decode cX12_ruleHere 118 = .ok (.getfield 164, 3) := by decide +kernel
theorem dX12_ruleHere_121 : decode cX12_ruleHere 121 = .ok (.ifCond .ne 17, 3) := by decide +kernel
theorem dX12_ruleHere_124 : decode cX12_ruleHere 124 = .ok (.aload_n 0, 1) := by decide +kernel
theorem dX12_ruleHere_125 : decode cX12_ruleHere 125 = .ok (.getfield 155, 3) := by decide +kernel
theorem dX12_ruleHere_128 : decode cX12_ruleHere 128 = .ok (.bipush 6, 2) := by decide +kernel
theorem dX12_ruleHere_130 : decode cX12_ruleHere 130 = .ok (.bipush 8, 2) := by decide +kernel
theorem dX12_ruleHere_132 : decode cX12_ruleHere 132 = .ok (.invokestatic 61, 3) := by decide +kernel
theorem dX12_ruleHere_135 : decode cX12_ruleHere 135 = .ok (.ifCond .ne 7, 3) := by decide +kernel
theorem dX12_ruleHere_138 : decode cX12_ruleHere 138 = .ok (.iconst 1, 1) := by decide +kernel
theorem dX12_ruleHere_139 : decode cX12_ruleHere 139 = .ok (.goto 4, 3) := by decide +kernel
theorem dX12_ruleHere_142 : decode cX12_ruleHere 142 = .ok (.iconst 0, 1) := by decide +kernel
theorem dX12_ruleHere_143 : decode cX12_ruleHere 143 = .ok (.putfield 164, 3) := by decide +kernel
theorem dX12_ruleHere_146 : decode cX12_ruleHere 146 = .ok (.aload_n 0, 1) := by decide +kernel
theorem dX12_ruleHere_147 : decode cX12_ruleHere 147 = .ok (.getfield 164, 3) := by decide +kernel
theorem dX12_ruleHere_150 : decode cX12_ruleHere 150 = .ok (.ifCond .ne 36, 3) := by decide +kernel
theorem dX12_ruleHere_153 : decode cX12_ruleHere 153 = .ok (.aload_n 0, 1) := by decide +kernel
theorem dX12_ruleHere_154 : decode cX12_ruleHere 154 = .ok (.invokevirtual 168, 3) := by decide +kernel
theorem dX12_ruleHere_157 : decode cX12_ruleHere 157 = .ok (.aload_n 0, 1) := by decide +kernel
theorem dX12_ruleHere_158 : decode cX12_ruleHere 158 = .ok (.aload_n 0, 1) := by decide +kernel
theorem dX12_ruleHere_159 : decode cX12_ruleHere 159 = .ok (.bipush 24, 2) := by decide +kernel
theorem dX12_ruleHere_161 : decode cX12_ruleHere 161 = .ok (.invokevirtual 174, 3) := by decide +kernel
theorem dX12_ruleHere_164 : decode cX12_ruleHere 164 = .ok (.ifCond .ne 7, 3) := by decide +kernel
theorem dX12_ruleHere_167 : decode cX12_ruleHere 167 = .ok (.iconst 1, 1) := by decide +kernel
theorem dX12_ruleHere_168 : decode cX12_ruleHere 168 = .ok (.goto 4, 3) := by decide +kernel
theorem dX12_ruleHere_171 : decode cX12_ruleHere 171 = .ok (.iconst 0, 1) := by decide +kernel
theorem dX12_ruleHere_172 : decode cX12_ruleHere 172 = .ok (.putfield 164, 3) := by decide +kernel
theorem dX12_ruleHere_175 : decode cX12_ruleHere 175 = .ok (.aload_n 0, 1) := by decide +kernel
theorem dX12_ruleHere_176 : decode cX12_ruleHere 176 = .ok (.getfield 9, 3) := by decide +kernel
theorem dX12_ruleHere_179 : decode cX12_ruleHere 179 = .ok (.bipush 6, 2) := by decide +kernel
theorem dX12_ruleHere_181 : decode cX12_ruleHere 181 = .ok (.dup2, 1) := by decide +kernel
theorem dX12_ruleHere_182 : decode cX12_ruleHere 182 = .ok (.iaload, 1) := by decide +kernel
theorem dX12_ruleHere_183 : decode cX12_ruleHere 183 = .ok (.iconst 1, 1) := by decide +kernel
theorem dX12_ruleHere_184 : decode cX12_ruleHere 184 = .ok (.iadd, 1) := by decide +kernel
theorem dX12_ruleHere_185 : decode cX12_ruleHere 185 = .ok (.iastore, 1) := by decide +kernel
theorem dX12_ruleHere_186 : decode cX12_ruleHere 186 = .ok (.return_, 1) := by decide +kernel
theorem dX12_rules_0 : decode cX12_rules 0 = .ok (.aload_n 0, 1) := by decide +kernel
theorem dX12_rules_1 : decode cX12_rules 1 = .ok (.invokevirtual 196, 3) := by decide +kernel
theorem dX12_rules_4 : decode cX12_rules 4 = .ok (.aload_n 0, 1) := by decide +kernel
theorem dX12_rules_5 : decode cX12_rules 5 = .ok (.getfield 9, 3) := by decide +kernel
theorem dX12_rules_8 : decode cX12_rules 8 = .ok (.bipush 6, 2) := by decide +kernel
theorem dX12_rules_10 : decode cX12_rules 10 = .ok (.iconst 0, 1) := by decide +kernel
theorem dX12_rules_11 : decode cX12_rules 11 = .ok (.iastore, 1) := by decide +kernel
theorem dX12_rules_12 : decode cX12_rules 12 = .ok (.aload_n 0, 1) := by decide +kernel
theorem dX12_rules_13 : decode cX12_rules 13 = .ok (.iconst 0, 1) := by decide +kernel
theorem dX12_rules_14 : decode cX12_rules 14 = .ok (.putfield 143, 3) := by decide +kernel
theorem dX12_rules_17 : decode cX12_rules 17 = .ok (.aload_n 0, 1) := by decide +kernel
theorem dX12_rules_18 : decode cX12_rules 18 = .ok (.iconst 0, 1) := by decide +kernel
theorem dX12_rules_19 : decode cX12_rules 19 = .ok (.putfield 164, 3) := by decide +kernel
theorem dX12_rules_22 : decode cX12_rules 22 = .ok (.aload_n 0, 1) := by decide +kernel
theorem dX12_rules_23 : decode cX12_rules 23 = .ok (.iconst 0, 1) := by decide +kernel
theorem dX12_rules_24 : decode cX12_rules 24 = .ok (.putfield 177, 3) := by decide +kernel
theorem dX12_rules_27 : decode cX12_rules 27 = .ok (.aload_n 0, 1) := by decide +kernel
theorem dX12_rules_28 : decode cX12_rules 28 = .ok (.iconst 0, 1) := by decide +kernel
theorem dX12_rules_29 : decode cX12_rules 29 = .ok (.putfield 171, 3) := by decide +kernel
theorem dX12_rules_32 : decode cX12_rules 32 = .ok (.aload_n 0, 1) := by decide +kernel
theorem dX12_rules_33 : decode cX12_rules 33 = .ok (.invokevirtual 168, 3) := by decide +kernel
theorem dX12_rules_36 : decode cX12_rules 36 = .ok (.aload_n 0, 1) := by decide +kernel
theorem dX12_rules_37 : decode cX12_rules 37 = .ok (.getfield 164, 3) := by decide +kernel
theorem dX12_rules_40 : decode cX12_rules 40 = .ok (.ifCond .ne 19, 3) := by decide +kernel
theorem dX12_rules_43 : decode cX12_rules 43 = .ok (.aload_n 0, 1) := by decide +kernel
theorem dX12_rules_44 : decode cX12_rules 44 = .ok (.getfield 155, 3) := by decide +kernel
theorem dX12_rules_47 : decode cX12_rules 47 = .ok (.bipush 25, 2) := by decide +kernel
theorem dX12_rules_49 : decode cX12_rules 49 = .ok (.if_icmp .eq 10, 3) := by decide +kernel
theorem dX12_rules_52 : decode cX12_rules 52 = .ok (.aload_n 0, 1) := by decide +kernel
theorem dX12_rules_53 : decode cX12_rules 53 = .ok (.invokevirtual 199, 3) := by decide +kernel
theorem dX12_rules_56 : decode cX12_rules 56 = .ok (.goto (-20), 3) := by decide +kernel
theorem dX12_rules_59 : decode cX12_rules 59 = .ok (.aload_n 0, 1) := by decide +kernel
theorem dX12_rules_60 : decode cX12_rules 60 = .ok (.iconst 0, 1) := by decide +kernel
theorem dX12_rules_61 : decode cX12_rules 61 = .ok (.putfield 131, 3) := by decide +kernel
theorem dX12_rules_64 : decode cX12_rules 64 = .ok (.aload_n 0, 1) := by decide +kernel
theorem dX12_rules_65 : decode cX12_rules 65 = .ok (.getfield 164, 3) := by decide +kernel
theorem dX12_rules_68 : decode cX12_rules 68 = .ok (.ifCond .eq 15, 3) := by decide +kernel
theorem dX12_rules_71 : decode cX12_rules 71 = .ok (.aload_n 0, 1) := by decide +kernel
theorem dX12_rules_72 : decode cX12_rules 72 = .ok (.invokevirtual 202, 3) := by decide +kernel
theorem dX12_rules_75 : decode cX12_rules 75 = .ok (.bipush (-100), 2) := by decide +kernel
theorem dX12_rules_77 : decode cX12_rules 77 = .ok (.aload_n 0, 1) := by decide +kernel
theorem dX12_rules_78 : decode cX12_rules 78 = .ok (.getfield 140, 3) := by decide +kernel
theorem dX12_rules_81 : decode cX12_rules 81 = .ok (.isub, 1) := by decide +kernel
theorem dX12_rules_82 : decode cX12_rules 82 = .ok (.ireturn, 1) := by decide +kernel
theorem dX12_rules_83 : decode cX12_rules 83 = .ok (.aload_n 0, 1) := by decide +kernel
theorem dX12_rules_84 : decode cX12_rules 84 = .ok (.getfield 9, 3) := by decide +kernel
theorem dX12_rules_87 : decode cX12_rules 87 = .ok (.bipush 6, 2) := by decide +kernel
theorem dX12_rules_89 : decode cX12_rules 89 = .ok (.iaload, 1) := by decide +kernel
theorem dX12_rules_90 : decode cX12_rules 90 = .ok (.ireturn, 1) := by decide +kernel
theorem dX12_factOf_0 : decode cX12_factOf 0 = .ok (.iload_n 2, 1) := by decide +kernel
theorem dX12_factOf_1 : decode cX12_factOf 1 = .ok (.tableswitch 63 (-5) (-1) #[61, 56, 49, 42, 35], 35) := by decide +kernel
theorem dX12_factOf_36 : decode cX12_factOf 36 = .ok (.aload_n 0, 1) := by decide +kernel
theorem dX12_factOf_37 : decode cX12_factOf 37 = .ok (.getfield 9, 3) := by decide +kernel
theorem dX12_factOf_40 : decode cX12_factOf 40 = .ok (.iconst 1, 1) := by decide +kernel
theorem dX12_factOf_41 : decode cX12_factOf 41 = .ok (.iaload, 1) := by decide +kernel
theorem dX12_factOf_42 : decode cX12_factOf 42 = .ok (.ireturn, 1) := by decide +kernel
theorem dX12_factOf_43 : decode cX12_factOf 43 = .ok (.aload_n 0, 1) := by decide +kernel
theorem dX12_factOf_44 : decode cX12_factOf 44 = .ok (.iload_n 1, 1) := by decide +kernel
theorem dX12_factOf_45 : decode cX12_factOf 45 = .ok (.iconst 1, 1) := by decide +kernel
theorem dX12_factOf_46 : decode cX12_factOf 46 = .ok (.invokevirtual 69, 3) := by decide +kernel
theorem dX12_factOf_49 : decode cX12_factOf 49 = .ok (.ireturn, 1) := by decide +kernel
theorem dX12_factOf_50 : decode cX12_factOf 50 = .ok (.aload_n 0, 1) := by decide +kernel
theorem dX12_factOf_51 : decode cX12_factOf 51 = .ok (.iload_n 1, 1) := by decide +kernel
theorem dX12_factOf_52 : decode cX12_factOf 52 = .ok (.iconst 2, 1) := by decide +kernel
theorem dX12_factOf_53 : decode cX12_factOf 53 = .ok (.invokevirtual 69, 3) := by decide +kernel
theorem dX12_factOf_56 : decode cX12_factOf 56 = .ok (.ireturn, 1) := by decide +kernel
theorem dX12_factOf_57 : decode cX12_factOf 57 = .ok (.aload_n 0, 1) := by decide +kernel
theorem dX12_factOf_58 : decode cX12_factOf 58 = .ok (.invokevirtual 73, 3) := by decide +kernel
theorem dX12_factOf_61 : decode cX12_factOf 61 = .ok (.ireturn, 1) := by decide +kernel
theorem dX12_factOf_62 : decode cX12_factOf 62 = .ok (.iload_n 1, 1) := by decide +kernel
theorem dX12_factOf_63 : decode cX12_factOf 63 = .ok (.ireturn, 1) := by decide +kernel
theorem dX12_factOf_64 : decode cX12_factOf 64 = .ok (.iload_n 2, 1) := by decide +kernel
theorem dX12_factOf_65 : decode cX12_factOf 65 = .ok (.ireturn, 1) := by decide +kernel
theorem dX12_isSo_0 : decode cX12_isSo 0 = .ok (.iload_n 0, 1) := by decide +kernel
theorem dX12_isSo_1 : decode cX12_isSo 1 = .ok (.bipush 60, 2) := by decide +kernel
theorem dX12_isSo_3 : decode cX12_isSo 3 = .ok (.if_icmp .ne 16, 3) := by decide +kernel
theorem dX12_isSo_6 : decode cX12_isSo 6 = .ok (.iload_n 1, 1) := by decide +kernel
theorem dX12_isSo_7 : decode cX12_isSo 7 = .ok (.iload_n 2, 1) := by decide +kernel
theorem dX12_isSo_8 : decode cX12_isSo 8 = .ok (.if_icmp .ge 7, 3) := by decide +kernel
theorem dX12_isSo_11 : decode cX12_isSo 11 = .ok (.iconst 1, 1) := by decide +kernel
theorem dX12_isSo_12 : decode cX12_isSo 12 = .ok (.goto 36, 3) := by decide +kernel
theorem dX12_isSo_15 : decode cX12_isSo 15 = .ok (.iconst 0, 1) := by decide +kernel
theorem dX12_isSo_16 : decode cX12_isSo 16 = .ok (.goto 32, 3) := by decide +kernel
theorem dX12_isSo_19 : decode cX12_isSo 19 = .ok (.iload_n 0, 1) := by decide +kernel
theorem dX12_isSo_20 : decode cX12_isSo 20 = .ok (.bipush 61, 2) := by decide +kernel
theorem dX12_isSo_22 : decode cX12_isSo 22 = .ok (.if_icmp .ne 16, 3) := by decide +kernel
theorem dX12_isSo_25 : decode cX12_isSo 25 = .ok (.iload_n 1, 1) := by decide +kernel
theorem dX12_isSo_26 : decode cX12_isSo 26 = .ok (.iload_n 2, 1) := by decide +kernel
theorem dX12_isSo_27 : decode cX12_isSo 27 = .ok (.if_icmp .ne 7, 3) := by decide +kernel
theorem dX12_isSo_30 : decode cX12_isSo 30 = .ok (.iconst 1, 1) := by decide +kernel
theorem dX12_isSo_31 : decode cX12_isSo 31 = .ok (.goto 17, 3) := by decide +kernel
theorem dX12_isSo_34 : decode cX12_isSo 34 = .ok (.iconst 0, 1) := by decide +kernel
theorem dX12_isSo_35 : decode cX12_isSo 35 = .ok (.goto 13, 3) := by decide +kernel
theorem dX12_isSo_38 : decode cX12_isSo 38 = .ok (.iload_n 1, 1) := by decide +kernel
theorem dX12_isSo_39 : decode cX12_isSo 39 = .ok (.iload_n 2, 1) := by decide +kernel
theorem dX12_isSo_40 : decode cX12_isSo 40 = .ok (.if_icmp .le 7, 3) := by decide +kernel
theorem dX12_isSo_43 : decode cX12_isSo 43 = .ok (.iconst 1, 1) := by decide +kernel
theorem dX12_isSo_44 : decode cX12_isSo 44 = .ok (.goto 4, 3) := by decide +kernel
theorem dX12_isSo_47 : decode cX12_isSo 47 = .ok (.iconst 0, 1) := by decide +kernel
theorem dX12_isSo_48 : decode cX12_isSo 48 = .ok (.ireturn, 1) := by decide +kernel
theorem dX12_isHolding_0 : decode cX12_isHolding 0 = .ok (.iconst 0, 1) := by decide +kernel
theorem dX12_isHolding_1 : decode cX12_isHolding 1 = .ok (.istore_n 3, 1) := by decide +kernel
theorem dX12_isHolding_2 : decode cX12_isHolding 2 = .ok (.bipush 121, 2) := by decide +kernel
theorem dX12_isHolding_4 : decode cX12_isHolding 4 = .ok (.aload_n 0, 1) := by decide +kernel
theorem dX12_isHolding_5 : decode cX12_isHolding 5 = .ok (.getfield 9, 3) := by decide +kernel
theorem dX12_isHolding_8 : decode cX12_isHolding 8 = .ok (.iload_n 2, 1) := by decide +kernel
theorem dX12_isHolding_9 : decode cX12_isHolding 9 = .ok (.iconst 2, 1) := by decide +kernel
theorem dX12_isHolding_10 : decode cX12_isHolding 10 = .ok (.iadd, 1) := by decide +kernel
theorem dX12_isHolding_11 : decode cX12_isHolding 11 = .ok (.iaload, 1) := by decide +kernel
theorem dX12_isHolding_12 : decode cX12_isHolding 12 = .ok (.iadd, 1) := by decide +kernel
theorem dX12_isHolding_13 : decode cX12_isHolding 13 = .ok (.istore 4, 2) := by decide +kernel
theorem dX12_isHolding_15 : decode cX12_isHolding 15 = .ok (.bipush 121, 2) := by decide +kernel
theorem dX12_isHolding_17 : decode cX12_isHolding 17 = .ok (.aload_n 0, 1) := by decide +kernel
theorem dX12_isHolding_18 : decode cX12_isHolding 18 = .ok (.getfield 9, 3) := by decide +kernel
theorem dX12_isHolding_21 : decode cX12_isHolding 21 = .ok (.iload_n 2, 1) := by decide +kernel
theorem dX12_isHolding_22 : decode cX12_isHolding 22 = .ok (.iconst 3, 1) := by decide +kernel
theorem dX12_isHolding_23 : decode cX12_isHolding 23 = .ok (.iadd, 1) := by decide +kernel
theorem dX12_isHolding_24 : decode cX12_isHolding 24 = .ok (.iaload, 1) := by decide +kernel
theorem dX12_isHolding_25 : decode cX12_isHolding 25 = .ok (.iadd, 1) := by decide +kernel
theorem dX12_isHolding_26 : decode cX12_isHolding 26 = .ok (.istore 5, 2) := by decide +kernel
theorem dX12_isHolding_28 : decode cX12_isHolding 28 = .ok (.iload 4, 2) := by decide +kernel
theorem dX12_isHolding_30 : decode cX12_isHolding 30 = .ok (.iload 5, 2) := by decide +kernel
theorem dX12_isHolding_32 : decode cX12_isHolding 32 = .ok (.if_icmp .ne 7, 3) := by decide +kernel
theorem dX12_isHolding_35 : decode cX12_isHolding 35 = .ok (.iconst 1, 1) := by decide +kernel
theorem dX12_isHolding_36 : decode cX12_isHolding 36 = .ok (.goto 4, 3) := by decide +kernel
theorem dX12_isHolding_39 : decode cX12_isHolding 39 = .ok (.iconst 0, 1) := by decide +kernel
theorem dX12_isHolding_40 : decode cX12_isHolding 40 = .ok (.istore 6, 2) := by decide +kernel
theorem dX12_isHolding_42 : decode cX12_isHolding 42 = .ok (.iload 4, 2) := by decide +kernel
theorem dX12_isHolding_44 : decode cX12_isHolding 44 = .ok (.iload 5, 2) := by decide +kernel
theorem dX12_isHolding_46 : decode cX12_isHolding 46 = .ok (.if_icmp .ge 188, 3) := by decide +kernel
theorem dX12_isHolding_49 : decode cX12_isHolding 49 = .ok (.aload_n 0, 1) := by decide +kernel
theorem dX12_isHolding_50 : decode cX12_isHolding 50 = .ok (.getfield 9, 3) := by decide +kernel
theorem dX12_isHolding_53 : decode cX12_isHolding 53 = .ok (.iload 4, 2) := by decide +kernel
theorem dX12_isHolding_55 : decode cX12_isHolding 55 = .ok (.iaload, 1) := by decide +kernel
theorem dX12_isHolding_56 : decode cX12_isHolding 56 = .ok (.istore 7, 2) := by decide +kernel
theorem dX12_isHolding_58 : decode cX12_isHolding 58 = .ok (.iload 7, 2) := by decide +kernel
theorem dX12_isHolding_60 : decode cX12_isHolding 60 = .ok (.bipush 17, 2) := by decide +kernel
theorem dX12_isHolding_62 : decode cX12_isHolding 62 = .ok (.if_icmp .ne 33, 3) := by decide +kernel
theorem dX12_isHolding_65 : decode cX12_isHolding 65 = .ok (.aload_n 0, 1) := by decide +kernel
theorem dX12_isHolding_66 : decode cX12_isHolding 66 = .ok (.getfield 22, 3) := by decide +kernel
theorem dX12_isHolding_69 : decode cX12_isHolding 69 = .ok (.iload_n 3, 1) := by decide +kernel
theorem dX12_isHolding_70 : decode cX12_isHolding 70 = .ok (.iconst 1, 1) := by decide +kernel
theorem dX12_isHolding_71 : decode cX12_isHolding 71 = .ok (.isub, 1) := by decide +kernel
theorem dX12_isHolding_72 : decode cX12_isHolding 72 = .ok (.aload_n 0, 1) := by decide +kernel
theorem dX12_isHolding_73 : decode cX12_isHolding 73 = .ok (.getfield 22, 3) := by decide +kernel
theorem dX12_isHolding_76 : decode cX12_isHolding 76 = .ok (.iload_n 3, 1) := by decide +kernel
theorem dX12_isHolding_77 : decode cX12_isHolding 77 = .ok (.iconst 1, 1) := by decide +kernel
theorem dX12_isHolding_78 : decode cX12_isHolding 78 = .ok (.isub, 1) := by decide +kernel
theorem dX12_isHolding_79 : decode cX12_isHolding 79 = .ok (.baload, 1) := by decide +kernel
theorem dX12_isHolding_80 : decode cX12_isHolding 80 = .ok (.ifCond .ne 7, 3) := by decide +kernel
theorem dX12_isHolding_83 : decode cX12_isHolding 83 = .ok (.iconst 1, 1) := by decide +kernel
theorem dX12_isHolding_84 : decode cX12_isHolding 84 = .ok (.goto 4, 3) := by decide +kernel
theorem dX12_isHolding_87 : decode cX12_isHolding 87 = .ok (.iconst 0, 1) := by decide +kernel
theorem dX12_isHolding_88 : decode cX12_isHolding 88 = .ok (.bastore, 1) := by decide +kernel
theorem dX12_isHolding_89 : decode cX12_isHolding 89 = .ok (.iinc 4 1, 3) := by decide +kernel
theorem dX12_isHolding_92 : decode cX12_isHolding 92 = .ok (.goto 139, 3) := by decide +kernel
theorem dX12_isHolding_95 : decode cX12_isHolding 95 = .ok (.iload 7, 2) := by decide +kernel
theorem dX12_isHolding_97 : decode cX12_isHolding 97 = .ok (.bipush 16, 2) := by decide +kernel
theorem dX12_isHolding_99 : decode cX12_isHolding 99 = .ok (.if_icmp .eq 10, 3) := by decide +kernel
theorem dX12_isHolding_102 : decode cX12_isHolding 102 = .ok (.iload 7, 2) := by decide +kernel
theorem dX12_isHolding_104 : decode cX12_isHolding 104 = .ok (.bipush 15, 2) := by decide +kernel
theorem dX12_isHolding_106 : decode cX12_isHolding 106 = .ok (.if_icmp .ne 80, 3) := by decide +kernel
theorem dX12_isHolding_109 : decode cX12_isHolding 109 = .ok (.iinc 3 (-1), 3) := by decide +kernel
theorem dX12_isHolding_112 : decode cX12_isHolding 112 = .ok (.aload_n 0, 1) := by decide +kernel
theorem dX12_isHolding_113 : decode cX12_isHolding 113 = .ok (.getfield 22, 3) := by decide +kernel
theorem dX12_isHolding_116 : decode cX12_isHolding 116 = .ok (.iload_n 3, 1) := by decide +kernel
theorem dX12_isHolding_117 : decode cX12_isHolding 117 = .ok (.iconst 1, 1) := by decide +kernel
theorem dX12_isHolding_118 : decode cX12_isHolding 118 = .ok (.isub, 1) := by decide +kernel
theorem dX12_isHolding_119 : decode cX12_isHolding 119 = .ok (.iload 7, 2) := by decide +kernel
theorem dX12_isHolding_121 : decode cX12_isHolding 121 = .ok (.bipush 16, 2) := by decide +kernel
theorem dX12_isHolding_123 : decode cX12_isHolding 123 = .ok (.if_icmp .ne 31, 3) := by decide +kernel
theorem dX12_isHolding_126 : decode cX12_isHolding 126 = .ok (.aload_n 0, 1) := by decide +kernel
theorem dX12_isHolding_127 : decode cX12_isHolding 127 = .ok (.getfield 22, 3) := by decide +kernel
theorem dX12_isHolding_130 : decode cX12_isHolding 130 = .ok (.iload_n 3, 1) := by decide +kernel
theorem dX12_isHolding_131 : decode cX12_isHolding 131 = .ok (.iconst 1, 1) := by decide +kernel
theorem dX12_isHolding_132 : decode cX12_isHolding 132 = .ok (.isub, 1) := by decide +kernel
theorem dX12_isHolding_133 : decode cX12_isHolding 133 = .ok (.baload, 1) := by decide +kernel
theorem dX12_isHolding_134 : decode cX12_isHolding 134 = .ok (.ifCond .eq 16, 3) := by decide +kernel
theorem dX12_isHolding_137 : decode cX12_isHolding 137 = .ok (.aload_n 0, 1) := by decide +kernel
theorem dX12_isHolding_138 : decode cX12_isHolding 138 = .ok (.getfield 22, 3) := by decide +kernel
theorem dX12_isHolding_141 : decode cX12_isHolding 141 = .ok (.iload_n 3, 1) := by decide +kernel
theorem dX12_isHolding_142 : decode cX12_isHolding 142 = .ok (.baload, 1) := by decide +kernel
theorem dX12_isHolding_143 : decode cX12_isHolding 143 = .ok (.ifCond .eq 7, 3) := by decide +kernel
theorem dX12_isHolding_146 : decode cX12_isHolding 146 = .ok (.iconst 1, 1) := by decide +kernel
theorem dX12_isHolding_147 : decode cX12_isHolding 147 = .ok (.goto 32, 3) := by decide +kernel
theorem dX12_isHolding_150 : decode cX12_isHolding 150 = .ok (.iconst 0, 1) := by decide +kernel
theorem dX12_isHolding_151 : decode cX12_isHolding 151 = .ok (.goto 28, 3) := by decide +kernel
theorem dX12_isHolding_154 : decode cX12_isHolding 154 = .ok (.aload_n 0, 1) := by decide +kernel
theorem dX12_isHolding_155 : decode cX12_isHolding 155 = .ok (.getfield 22, 3) := by decide +kernel
theorem dX12_isHolding_158 : decode cX12_isHolding 158 = .ok (.iload_n 3, 1) := by decide +kernel
theorem dX12_isHolding_159 : decode cX12_isHolding 159 = .ok (.iconst 1, 1) := by decide +kernel
theorem dX12_isHolding_160 : decode cX12_isHolding 160 = .ok (.isub, 1) := by decide +kernel
theorem dX12_isHolding_161 : decode cX12_isHolding 161 = .ok (.baload, 1) := by decide +kernel
theorem dX12_isHolding_162 : decode cX12_isHolding 162 = .ok (.ifCond .ne 12, 3) := by decide +kernel
theorem dX12_isHolding_165 : decode cX12_isHolding 165 = .ok (.aload_n 0, 1) := by decide +kernel
theorem dX12_isHolding_166 : decode cX12_isHolding 166 = .ok (.getfield 22, 3) := by decide +kernel
theorem dX12_isHolding_169 : decode cX12_isHolding 169 = .ok (.iload_n 3, 1) := by decide +kernel
theorem dX12_isHolding_170 : decode cX12_isHolding 170 = .ok (.baload, 1) := by decide +kernel
theorem dX12_isHolding_171 : decode cX12_isHolding 171 = .ok (.ifCond .eq 7, 3) := by decide +kernel
theorem dX12_isHolding_174 : decode cX12_isHolding 174 = .ok (.iconst 1, 1) := by decide +kernel
theorem dX12_isHolding_175 : decode cX12_isHolding 175 = .ok (.goto 4, 3) := by decide +kernel
theorem dX12_isHolding_178 : decode cX12_isHolding 178 = .ok (.iconst 0, 1) := by decide +kernel
theorem dX12_isHolding_179 : decode cX12_isHolding 179 = .ok (.bastore, 1) := by decide +kernel
theorem dX12_isHolding_180 : decode cX12_isHolding 180 = .ok (.iinc 4 1, 3) := by decide +kernel
theorem dX12_isHolding_183 : decode cX12_isHolding 183 = .ok (.goto 48, 3) := by decide +kernel
theorem dX12_isHolding_186 : decode cX12_isHolding 186 = .ok (.aload_n 0, 1) := by decide +kernel
theorem dX12_isHolding_187 : decode cX12_isHolding 187 = .ok (.getfield 22, 3) := by decide +kernel
theorem dX12_isHolding_190 : decode cX12_isHolding 190 = .ok (.iload_n 3, 1) := by decide +kernel
theorem dX12_isHolding_191 : decode cX12_isHolding 191 = .ok (.iload 7, 2) := by decide +kernel
theorem dX12_isHolding_193 : decode cX12_isHolding 193 = .ok (.aload_n 0, 1) := by decide +kernel
theorem dX12_isHolding_194 : decode cX12_isHolding 194 = .ok (.iload_n 1, 1) := by decide +kernel
theorem dX12_isHolding_195 : decode cX12_isHolding 195 = .ok (.aload_n 0, 1) := by decide +kernel
theorem dX12_isHolding_196 : decode cX12_isHolding 196 = .ok (.getfield 9, 3) := by decide +kernel
theorem dX12_isHolding_199 : decode cX12_isHolding 199 = .ok (.iload 4, 2) := by decide +kernel
theorem dX12_isHolding_201 : decode cX12_isHolding 201 = .ok (.iconst 1, 1) := by decide +kernel
theorem dX12_isHolding_202 : decode cX12_isHolding 202 = .ok (.iadd, 1) := by decide +kernel
theorem dX12_isHolding_203 : decode cX12_isHolding 203 = .ok (.iaload, 1) := by decide +kernel
theorem dX12_isHolding_204 : decode cX12_isHolding 204 = .ok (.invokevirtual 205, 3) := by decide +kernel
theorem dX12_isHolding_207 : decode cX12_isHolding 207 = .ok (.aload_n 0, 1) := by decide +kernel
theorem dX12_isHolding_208 : decode cX12_isHolding 208 = .ok (.iload_n 1, 1) := by decide +kernel
theorem dX12_isHolding_209 : decode cX12_isHolding 209 = .ok (.aload_n 0, 1) := by decide +kernel
theorem dX12_isHolding_210 : decode cX12_isHolding 210 = .ok (.getfield 9, 3) := by decide +kernel
theorem dX12_isHolding_213 : decode cX12_isHolding 213 = .ok (.iload 4, 2) := by decide +kernel
theorem dX12_isHolding_215 : decode cX12_isHolding 215 = .ok (.iconst 2, 1) := by decide +kernel
theorem dX12_isHolding_216 : decode cX12_isHolding 216 = .ok (.iadd, 1) := by decide +kernel
theorem dX12_isHolding_217 : decode cX12_isHolding 217 = .ok (.iaload, 1) := by decide +kernel
theorem dX12_isHolding_218 : decode cX12_isHolding 218 = .ok (.invokevirtual 205, 3) := by decide +kernel
theorem dX12_isHolding_221 : decode cX12_isHolding 221 = .ok (.invokestatic 208, 3) := by decide +kernel
theorem dX12_isHolding_224 : decode cX12_isHolding 224 = .ok (.bastore, 1) := by decide +kernel
theorem dX12_isHolding_225 : decode cX12_isHolding 225 = .ok (.iinc 3 1, 3) := by decide +kernel
theorem dX12_isHolding_228 : decode cX12_isHolding 228 = .ok (.iinc 4 3, 3) := by decide +kernel
theorem dX12_isHolding_231 : decode cX12_isHolding 231 = .ok (.goto (-189), 3) := by decide +kernel
theorem dX12_isHolding_234 : decode cX12_isHolding 234 = .ok (.iload 6, 2) := by decide +kernel
theorem dX12_isHolding_236 : decode cX12_isHolding 236 = .ok (.ifCond .ne 12, 3) := by decide +kernel
theorem dX12_isHolding_239 : decode cX12_isHolding 239 = .ok (.aload_n 0, 1) := by decide +kernel
theorem dX12_isHolding_240 : decode cX12_isHolding 240 = .ok (.getfield 22, 3) := by decide +kernel
theorem dX12_isHolding_243 : decode cX12_isHolding 243 = .ok (.iconst 0, 1) := by decide +kernel
theorem dX12_isHolding_244 : decode cX12_isHolding 244 = .ok (.baload, 1) := by decide +kernel
theorem dX12_isHolding_245 : decode cX12_isHolding 245 = .ok (.ifCond .eq 7, 3) := by decide +kernel
theorem dX12_isHolding_248 : decode cX12_isHolding 248 = .ok (.iconst 1, 1) := by decide +kernel
theorem dX12_isHolding_249 : decode cX12_isHolding 249 = .ok (.goto 4, 3) := by decide +kernel
theorem dX12_isHolding_252 : decode cX12_isHolding 252 = .ok (.iconst 0, 1) := by decide +kernel
theorem dX12_isHolding_253 : decode cX12_isHolding 253 = .ok (.ireturn, 1) := by decide +kernel
theorem dX12_does_0 : decode cX12_does 0 = .ok (.iconst 0, 1) := by decide +kernel
theorem dX12_does_1 : decode cX12_does 1 = .ok (.istore_n 2, 1) := by decide +kernel
theorem dX12_does_2 : decode cX12_does 2 = .ok (.iload_n 2, 1) := by decide +kernel
theorem dX12_does_3 : decode cX12_does 3 = .ok (.aload_n 0, 1) := by decide +kernel
theorem dX12_does_4 : decode cX12_does 4 = .ok (.getfield 9, 3) := by decide +kernel
theorem dX12_does_7 : decode cX12_does 7 = .ok (.bipush 6, 2) := by decide +kernel
theorem dX12_does_9 : decode cX12_does 9 = .ok (.iaload, 1) := by decide +kernel
theorem dX12_does_10 : decode cX12_does 10 = .ok (.if_icmp .ge 52, 3) := by decide +kernel
theorem dX12_does_13 : decode cX12_does 13 = .ok (.bipush 89, 2) := by decide +kernel
theorem dX12_does_15 : decode cX12_does 15 = .ok (.iconst 4, 1) := by decide +kernel
theorem dX12_does_16 : decode cX12_does 16 = .ok (.iload_n 2, 1) := by decide +kernel
theorem dX12_does_17 : decode cX12_does 17 = .ok (.imul, 1) := by decide +kernel
theorem dX12_does_18 : decode cX12_does 18 = .ok (.iadd, 1) := by decide +kernel
theorem dX12_does_19 : decode cX12_does 19 = .ok (.istore_n 3, 1) := by decide +kernel
theorem dX12_does_20 : decode cX12_does 20 = .ok (.aload_n 0, 1) := by decide +kernel
theorem dX12_does_21 : decode cX12_does 21 = .ok (.iload_n 1, 1) := by decide +kernel
theorem dX12_does_22 : decode cX12_does 22 = .ok (.iconst 0, 1) := by decide +kernel
theorem dX12_does_23 : decode cX12_does 23 = .ok (.invokevirtual 69, 3) := by decide +kernel
theorem dX12_does_26 : decode cX12_does 26 = .ok (.aload_n 0, 1) := by decide +kernel
theorem dX12_does_27 : decode cX12_does 27 = .ok (.getfield 9, 3) := by decide +kernel
theorem dX12_does_30 : decode cX12_does 30 = .ok (.iload_n 3, 1) := by decide +kernel
theorem dX12_does_31 : decode cX12_does 31 = .ok (.iaload, 1) := by decide +kernel
theorem dX12_does_32 : decode cX12_does 32 = .ok (.invokestatic 211, 3) := by decide +kernel
theorem dX12_does_35 : decode cX12_does 35 = .ok (.ifCond .eq 21, 3) := by decide +kernel
theorem dX12_does_38 : decode cX12_does 38 = .ok (.aload_n 0, 1) := by decide +kernel
theorem dX12_does_39 : decode cX12_does 39 = .ok (.iload_n 1, 1) := by decide +kernel
theorem dX12_does_40 : decode cX12_does 40 = .ok (.iload_n 3, 1) := by decide +kernel
theorem dX12_does_41 : decode cX12_does 41 = .ok (.invokevirtual 214, 3) := by decide +kernel
theorem dX12_does_44 : decode cX12_does 44 = .ok (.ifCond .eq 12, 3) := by decide +kernel
theorem dX12_does_47 : decode cX12_does 47 = .ok (.aload_n 0, 1) := by decide +kernel
theorem dX12_does_48 : decode cX12_does 48 = .ok (.getfield 9, 3) := by decide +kernel
theorem dX12_does_51 : decode cX12_does 51 = .ok (.iload_n 3, 1) := by decide +kernel
theorem dX12_does_52 : decode cX12_does 52 = .ok (.iconst 1, 1) := by decide +kernel
theorem dX12_does_53 : decode cX12_does 53 = .ok (.iadd, 1) := by decide +kernel
theorem dX12_does_54 : decode cX12_does 54 = .ok (.iaload, 1) := by decide +kernel
theorem dX12_does_55 : decode cX12_does 55 = .ok (.ireturn, 1) := by decide +kernel
theorem dX12_does_56 : decode cX12_does 56 = .ok (.iinc 2 1, 3) := by decide +kernel
theorem dX12_does_59 : decode cX12_does 59 = .ok (.goto (-57), 3) := by decide +kernel
theorem dX12_does_62 : decode cX12_does 62 = .ok (.iconst 0, 1) := by decide +kernel
theorem dX12_does_63 : decode cX12_does 63 = .ok (.ireturn, 1) := by decide +kernel
theorem dX12_falls_0 : decode cX12_falls 0 = .ok (.aload_n 0, 1) := by decide +kernel
theorem dX12_falls_1 : decode cX12_falls 1 = .ok (.iload_n 1, 1) := by decide +kernel
theorem dX12_falls_2 : decode cX12_falls 2 = .ok (.iconst 4, 1) := by decide +kernel
theorem dX12_falls_3 : decode cX12_falls 3 = .ok (.iconst 1, 1) := by decide +kernel
theorem dX12_falls_4 : decode cX12_falls 4 = .ok (.invokevirtual 105, 3) := by decide +kernel
theorem dX12_falls_7 : decode cX12_falls 7 = .ok (.aload_n 0, 1) := by decide +kernel
theorem dX12_falls_8 : decode cX12_falls 8 = .ok (.iload_n 1, 1) := by decide +kernel
theorem dX12_falls_9 : decode cX12_falls 9 = .ok (.iconst 3, 1) := by decide +kernel
theorem dX12_falls_10 : decode cX12_falls 10 = .ok (.invokevirtual 69, 3) := by decide +kernel
theorem dX12_falls_13 : decode cX12_falls 13 = .ok (.iconst 1, 1) := by decide +kernel
theorem dX12_falls_14 : decode cX12_falls 14 = .ok (.iadd, 1) := by decide +kernel
theorem dX12_falls_15 : decode cX12_falls 15 = .ok (.istore_n 2, 1) := by decide +kernel
theorem dX12_falls_16 : decode cX12_falls 16 = .ok (.iconst 0, 1) := by decide +kernel
theorem dX12_falls_17 : decode cX12_falls 17 = .ok (.istore_n 3, 1) := by decide +kernel
theorem dX12_falls_18 : decode cX12_falls 18 = .ok (.iload_n 3, 1) := by decide +kernel
theorem dX12_falls_19 : decode cX12_falls 19 = .ok (.aload_n 0, 1) := by decide +kernel
theorem dX12_falls_20 : decode cX12_falls 20 = .ok (.getfield 9, 3) := by decide +kernel
theorem dX12_falls_23 : decode cX12_falls 23 = .ok (.iconst 4, 1) := by decide +kernel
theorem dX12_falls_24 : decode cX12_falls 24 = .ok (.iaload, 1) := by decide +kernel
theorem dX12_falls_25 : decode cX12_falls 25 = .ok (.if_icmp .ge 71, 3) := by decide +kernel
theorem dX12_falls_28 : decode cX12_falls 28 = .ok (.aload_n 0, 1) := by decide +kernel
theorem dX12_falls_29 : decode cX12_falls 29 = .ok (.iload_n 3, 1) := by decide +kernel
theorem dX12_falls_30 : decode cX12_falls 30 = .ok (.iconst 4, 1) := by decide +kernel
theorem dX12_falls_31 : decode cX12_falls 31 = .ok (.invokevirtual 69, 3) := by decide +kernel
theorem dX12_falls_34 : decode cX12_falls 34 = .ok (.ifCond .ne 56, 3) := by decide +kernel
theorem dX12_falls_37 : decode cX12_falls 37 = .ok (.aload_n 0, 1) := by decide +kernel
theorem dX12_falls_38 : decode cX12_falls 38 = .ok (.iload_n 3, 1) := by decide +kernel
theorem dX12_falls_39 : decode cX12_falls 39 = .ok (.iconst 3, 1) := by decide +kernel
theorem dX12_falls_40 : decode cX12_falls 40 = .ok (.invokevirtual 69, 3) := by decide +kernel
theorem dX12_falls_43 : decode cX12_falls 43 = .ok (.iload_n 2, 1) := by decide +kernel
theorem dX12_falls_44 : decode cX12_falls 44 = .ok (.if_icmp .ne 46, 3) := by decide +kernel
theorem dX12_falls_47 : decode cX12_falls 47 = .ok (.aload_n 0, 1) := by decide +kernel
theorem dX12_falls_48 : decode cX12_falls 48 = .ok (.iload_n 3, 1) := by decide +kernel
theorem dX12_falls_49 : decode cX12_falls 49 = .ok (.iconst 1, 1) := by decide +kernel
theorem dX12_falls_50 : decode cX12_falls 50 = .ok (.invokevirtual 69, 3) := by decide +kernel
theorem dX12_falls_53 : decode cX12_falls 53 = .ok (.bipush 12, 2) := by decide +kernel
theorem dX12_falls_55 : decode cX12_falls 55 = .ok (.iadd, 1) := by decide +kernel
theorem dX12_falls_56 : decode cX12_falls 56 = .ok (.aload_n 0, 1) := by decide +kernel
theorem dX12_falls_57 : decode cX12_falls 57 = .ok (.getfield 9, 3) := by decide +kernel
theorem dX12_falls_60 : decode cX12_falls 60 = .ok (.bipush 23, 2) := by decide +kernel
theorem dX12_falls_62 : decode cX12_falls 62 = .ok (.iconst 2, 1) := by decide +kernel
theorem dX12_falls_63 : decode cX12_falls 63 = .ok (.iload_n 2, 1) := by decide +kernel
theorem dX12_falls_64 : decode cX12_falls 64 = .ok (.imul, 1) := by decide +kernel
theorem dX12_falls_65 : decode cX12_falls 65 = .ok (.iadd, 1) := by decide +kernel
theorem dX12_falls_66 : decode cX12_falls 66 = .ok (.iaload, 1) := by decide +kernel
theorem dX12_falls_67 : decode cX12_falls 67 = .ok (.iadd, 1) := by decide +kernel
theorem dX12_falls_68 : decode cX12_falls 68 = .ok (.istore 4, 2) := by decide +kernel
theorem dX12_falls_70 : decode cX12_falls 70 = .ok (.aload_n 0, 1) := by decide +kernel
theorem dX12_falls_71 : decode cX12_falls 71 = .ok (.iload_n 3, 1) := by decide +kernel
theorem dX12_falls_72 : decode cX12_falls 72 = .ok (.iconst 1, 1) := by decide +kernel
theorem dX12_falls_73 : decode cX12_falls 73 = .ok (.iload 4, 2) := by decide +kernel
theorem dX12_falls_75 : decode cX12_falls 75 = .ok (.bipush 99, 2) := by decide +kernel
theorem dX12_falls_77 : decode cX12_falls 77 = .ok (.if_icmp .le 8, 3) := by decide +kernel
theorem dX12_falls_80 : decode cX12_falls 80 = .ok (.bipush 99, 2) := by decide +kernel
theorem dX12_falls_82 : decode cX12_falls 82 = .ok (.goto 5, 3) := by decide +kernel
theorem dX12_falls_85 : decode cX12_falls 85 = .ok (.iload 4, 2) := by decide +kernel
theorem dX12_falls_87 : decode cX12_falls 87 = .ok (.invokevirtual 105, 3) := by decide +kernel
theorem dX12_falls_90 : decode cX12_falls 90 = .ok (.iinc 3 1, 3) := by decide +kernel
theorem dX12_falls_93 : decode cX12_falls 93 = .ok (.goto (-75), 3) := by decide +kernel
theorem dX12_falls_96 : decode cX12_falls 96 = .ok (.return_, 1) := by decide +kernel
theorem dX12_tells_0 : decode cX12_tells 0 = .ok (.aload_n 0, 1) := by decide +kernel
theorem dX12_tells_1 : decode cX12_tells 1 = .ok (.iload_n 1, 1) := by decide +kernel
theorem dX12_tells_2 : decode cX12_tells 2 = .ok (.invokevirtual 94, 3) := by decide +kernel
theorem dX12_tells_5 : decode cX12_tells 5 = .ok (.istore_n 2, 1) := by decide +kernel
theorem dX12_tells_6 : decode cX12_tells 6 = .ok (.iload_n 2, 1) := by decide +kernel
theorem dX12_tells_7 : decode cX12_tells 7 = .ok (.iconst 2, 1) := by decide +kernel
theorem dX12_tells_8 : decode cX12_tells 8 = .ok (.if_icmp .ne 61, 3) := by decide +kernel
theorem dX12_tells_11 : decode cX12_tells 11 = .ok (.aload_n 0, 1) := by decide +kernel
theorem dX12_tells_12 : decode cX12_tells 12 = .ok (.iload_n 1, 1) := by decide +kernel
theorem dX12_tells_13 : decode cX12_tells 13 = .ok (.iconst 1, 1) := by decide +kernel
theorem dX12_tells_14 : decode cX12_tells 14 = .ok (.invokevirtual 69, 3) := by decide +kernel
theorem dX12_tells_17 : decode cX12_tells 17 = .ok (.bipush 10, 2) := by decide +kernel
theorem dX12_tells_19 : decode cX12_tells 19 = .ok (.isub, 1) := by decide +kernel
theorem dX12_tells_20 : decode cX12_tells 20 = .ok (.aload_n 0, 1) := by decide +kernel
theorem dX12_tells_21 : decode cX12_tells 21 = .ok (.getfield 9, 3) := by decide +kernel
theorem dX12_tells_24 : decode cX12_tells 24 = .ok (.bipush 23, 2) := by decide +kernel
theorem dX12_tells_26 : decode cX12_tells 26 = .ok (.iconst 2, 1) := by decide +kernel
theorem dX12_tells_27 : decode cX12_tells 27 = .ok (.aload_n 0, 1) := by decide +kernel
theorem dX12_tells_28 : decode cX12_tells 28 = .ok (.iload_n 1, 1) := by decide +kernel
theorem dX12_tells_29 : decode cX12_tells 29 = .ok (.iconst 3, 1) := by decide +kernel
theorem dX12_tells_30 : decode cX12_tells 30 = .ok (.invokevirtual 69, 3) := by decide +kernel
theorem dX12_tells_33 : decode cX12_tells 33 = .ok (.imul, 1) := by decide +kernel
theorem dX12_tells_34 : decode cX12_tells 34 = .ok (.iadd, 1) := by decide +kernel
theorem dX12_tells_35 : decode cX12_tells 35 = .ok (.iconst 1, 1) := by decide +kernel
theorem dX12_tells_36 : decode cX12_tells 36 = .ok (.iadd, 1) := by decide +kernel
theorem dX12_tells_37 : decode cX12_tells 37 = .ok (.iaload, 1) := by decide +kernel
theorem dX12_tells_38 : decode cX12_tells 38 = .ok (.isub, 1) := by decide +kernel
theorem dX12_tells_39 : decode cX12_tells 39 = .ok (.istore_n 3, 1) := by decide +kernel
theorem dX12_tells_40 : decode cX12_tells 40 = .ok (.aload_n 0, 1) := by decide +kernel
theorem dX12_tells_41 : decode cX12_tells 41 = .ok (.iload_n 1, 1) := by decide +kernel
theorem dX12_tells_42 : decode cX12_tells 42 = .ok (.iconst 1, 1) := by decide +kernel
theorem dX12_tells_43 : decode cX12_tells 43 = .ok (.iload_n 3, 1) := by decide +kernel
theorem dX12_tells_44 : decode cX12_tells 44 = .ok (.ifCond .ge 7, 3) := by decide +kernel
theorem dX12_tells_47 : decode cX12_tells 47 = .ok (.iconst 0, 1) := by decide +kernel
theorem dX12_tells_48 : decode cX12_tells 48 = .ok (.goto 4, 3) := by decide +kernel
theorem dX12_tells_51 : decode cX12_tells 51 = .ok (.iload_n 3, 1) := by decide +kernel
theorem dX12_tells_52 : decode cX12_tells 52 = .ok (.invokevirtual 105, 3) := by decide +kernel
theorem dX12_tells_55 : decode cX12_tells 55 = .ok (.aload_n 0, 1) := by decide +kernel
theorem dX12_tells_56 : decode cX12_tells 56 = .ok (.invokevirtual 77, 3) := by decide +kernel
theorem dX12_tells_59 : decode cX12_tells 59 = .ok (.iconst 1, 1) := by decide +kernel
theorem dX12_tells_60 : decode cX12_tells 60 = .ok (.if_icmp .le 7, 3) := by decide +kernel
theorem dX12_tells_63 : decode cX12_tells 63 = .ok (.iconst 1, 1) := by decide +kernel
theorem dX12_tells_64 : decode cX12_tells 64 = .ok (.goto 4, 3) := by decide +kernel
theorem dX12_tells_67 : decode cX12_tells 67 = .ok (.iconst 0, 1) := by decide +kernel
theorem dX12_tells_68 : decode cX12_tells 68 = .ok (.ireturn, 1) := by decide +kernel
theorem dX12_tells_69 : decode cX12_tells 69 = .ok (.iload_n 2, 1) := by decide +kernel
theorem dX12_tells_70 : decode cX12_tells 70 = .ok (.ifCond .ne 11, 3) := by decide +kernel
theorem dX12_tells_73 : decode cX12_tells 73 = .ok (.aload_n 0, 1) := by decide +kernel
theorem dX12_tells_74 : decode cX12_tells 74 = .ok (.iload_n 1, 1) := by decide +kernel
theorem dX12_tells_75 : decode cX12_tells 75 = .ok (.invokevirtual 91, 3) := by decide +kernel
theorem dX12_tells_78 : decode cX12_tells 78 = .ok (.goto 4, 3) := by decide +kernel
theorem dX12_tells_81 : decode cX12_tells 81 = .ok (.iconst 0, 1) := by decide +kernel
theorem dX12_tells_82 : decode cX12_tells 82 = .ok (.istore_n 3, 1) := by decide +kernel
theorem dX12_tells_83 : decode cX12_tells 83 = .ok (.iload_n 3, 1) := by decide +kernel
theorem dX12_tells_84 : decode cX12_tells 84 = .ok (.ifCond .le 8, 3) := by decide +kernel
theorem dX12_tells_87 : decode cX12_tells 87 = .ok (.aload_n 0, 1) := by decide +kernel
theorem dX12_tells_88 : decode cX12_tells 88 = .ok (.iload_n 1, 1) := by decide +kernel
theorem dX12_tells_89 : decode cX12_tells 89 = .ok (.invokevirtual 217, 3) := by decide +kernel
theorem dX12_tells_92 : decode cX12_tells 92 = .ok (.iload_n 3, 1) := by decide +kernel
theorem dX12_tells_93 : decode cX12_tells 93 = .ok (.ireturn, 1) := by decide +kernel
theorem dX12_tipping_0 : decode cX12_tipping 0 = .ok (.iconst 0, 1) := by decide +kernel
theorem dX12_tipping_1 : decode cX12_tipping 1 = .ok (.istore_n 1, 1) := by decide +kernel
theorem dX12_tipping_2 : decode cX12_tipping 2 = .ok (.iconst 0, 1) := by decide +kernel
theorem dX12_tipping_3 : decode cX12_tipping 3 = .ok (.istore_n 2, 1) := by decide +kernel
theorem dX12_tipping_4 : decode cX12_tipping 4 = .ok (.iload_n 2, 1) := by decide +kernel
theorem dX12_tipping_5 : decode cX12_tipping 5 = .ok (.aload_n 0, 1) := by decide +kernel
theorem dX12_tipping_6 : decode cX12_tipping 6 = .ok (.getfield 9, 3) := by decide +kernel
theorem dX12_tipping_9 : decode cX12_tipping 9 = .ok (.iconst 4, 1) := by decide +kernel
theorem dX12_tipping_10 : decode cX12_tipping 10 = .ok (.iaload, 1) := by decide +kernel
theorem dX12_tipping_11 : decode cX12_tipping 11 = .ok (.if_icmp .ge 45, 3) := by decide +kernel
theorem dX12_tipping_14 : decode cX12_tipping 14 = .ok (.iload_n 1, 1) := by decide +kernel
theorem dX12_tipping_15 : decode cX12_tipping 15 = .ok (.aload_n 0, 1) := by decide +kernel
theorem dX12_tipping_16 : decode cX12_tipping 16 = .ok (.iload_n 2, 1) := by decide +kernel
theorem dX12_tipping_17 : decode cX12_tipping 17 = .ok (.iconst 4, 1) := by decide +kernel
theorem dX12_tipping_18 : decode cX12_tipping 18 = .ok (.invokevirtual 69, 3) := by decide +kernel
theorem dX12_tipping_21 : decode cX12_tipping 21 = .ok (.ifCond .ne 26, 3) := by decide +kernel
theorem dX12_tipping_24 : decode cX12_tipping 24 = .ok (.aload_n 0, 1) := by decide +kernel
theorem dX12_tipping_25 : decode cX12_tipping 25 = .ok (.iload_n 2, 1) := by decide +kernel
theorem dX12_tipping_26 : decode cX12_tipping 26 = .ok (.iconst 1, 1) := by decide +kernel
theorem dX12_tipping_27 : decode cX12_tipping 27 = .ok (.invokevirtual 69, 3) := by decide +kernel
theorem dX12_tipping_30 : decode cX12_tipping 30 = .ok (.aload_n 0, 1) := by decide +kernel
theorem dX12_tipping_31 : decode cX12_tipping 31 = .ok (.iload_n 2, 1) := by decide +kernel
theorem dX12_tipping_32 : decode cX12_tipping 32 = .ok (.invokevirtual 88, 3) := by decide +kernel
theorem dX12_tipping_35 : decode cX12_tipping 35 = .ok (.bipush 12, 2) := by decide +kernel
theorem dX12_tipping_37 : decode cX12_tipping 37 = .ok (.iadd, 1) := by decide +kernel
theorem dX12_tipping_38 : decode cX12_tipping 38 = .ok (.if_icmp .lt 9, 3) := by decide +kernel
theorem dX12_tipping_41 : decode cX12_tipping 41 = .ok (.iconst 1, 1) := by decide +kernel
theorem dX12_tipping_42 : decode cX12_tipping 42 = .ok (.iload_n 2, 1) := by decide +kernel
theorem dX12_tipping_43 : decode cX12_tipping 43 = .ok (.ishl, 1) := by decide +kernel
theorem dX12_tipping_44 : decode cX12_tipping 44 = .ok (.goto 4, 3) := by decide +kernel
theorem dX12_tipping_47 : decode cX12_tipping 47 = .ok (.iconst 0, 1) := by decide +kernel
theorem dX12_tipping_48 : decode cX12_tipping 48 = .ok (.ior, 1) := by decide +kernel
theorem dX12_tipping_49 : decode cX12_tipping 49 = .ok (.istore_n 1, 1) := by decide +kernel
theorem dX12_tipping_50 : decode cX12_tipping 50 = .ok (.iinc 2 1, 3) := by decide +kernel
theorem dX12_tipping_53 : decode cX12_tipping 53 = .ok (.goto (-49), 3) := by decide +kernel
theorem dX12_tipping_56 : decode cX12_tipping 56 = .ok (.iload_n 1, 1) := by decide +kernel
theorem dX12_tipping_57 : decode cX12_tipping 57 = .ok (.ireturn, 1) := by decide +kernel
theorem dX12_goes_0 : decode cX12_goes 0 = .ok (.iload_n 1, 1) := by decide +kernel
theorem dX12_goes_1 : decode cX12_goes 1 = .ok (.ifCond .lt 20, 3) := by decide +kernel
theorem dX12_goes_4 : decode cX12_goes 4 = .ok (.aload_n 0, 1) := by decide +kernel
theorem dX12_goes_5 : decode cX12_goes 5 = .ok (.iload_n 1, 1) := by decide +kernel
theorem dX12_goes_6 : decode cX12_goes 6 = .ok (.iconst 4, 1) := by decide +kernel
theorem dX12_goes_7 : decode cX12_goes 7 = .ok (.invokevirtual 69, 3) := by decide +kernel
theorem dX12_goes_10 : decode cX12_goes 10 = .ok (.ifCond .ne 11, 3) := by decide +kernel
theorem dX12_goes_13 : decode cX12_goes 13 = .ok (.aload_n 0, 1) := by decide +kernel
theorem dX12_goes_14 : decode cX12_goes 14 = .ok (.iload_n 1, 1) := by decide +kernel
theorem dX12_goes_15 : decode cX12_goes 15 = .ok (.invokevirtual 220, 3) := by decide +kernel
theorem dX12_goes_18 : decode cX12_goes 18 = .ok (.goto 4, 3) := by decide +kernel
theorem dX12_goes_21 : decode cX12_goes 21 = .ok (.iconst 0, 1) := by decide +kernel
theorem dX12_goes_22 : decode cX12_goes 22 = .ok (.istore_n 2, 1) := by decide +kernel
theorem dX12_goes_23 : decode cX12_goes 23 = .ok (.aload_n 0, 1) := by decide +kernel
theorem dX12_goes_24 : decode cX12_goes 24 = .ok (.invokevirtual 223, 3) := by decide +kernel
theorem dX12_goes_27 : decode cX12_goes 27 = .ok (.istore_n 3, 1) := by decide +kernel
theorem dX12_goes_28 : decode cX12_goes 28 = .ok (.iconst 0, 1) := by decide +kernel
theorem dX12_goes_29 : decode cX12_goes 29 = .ok (.istore 4, 2) := by decide +kernel
theorem dX12_goes_31 : decode cX12_goes 31 = .ok (.iload 4, 2) := by decide +kernel
theorem dX12_goes_33 : decode cX12_goes 33 = .ok (.aload_n 0, 1) := by decide +kernel
theorem dX12_goes_34 : decode cX12_goes 34 = .ok (.getfield 9, 3) := by decide +kernel
theorem dX12_goes_37 : decode cX12_goes 37 = .ok (.iconst 4, 1) := by decide +kernel
theorem dX12_goes_38 : decode cX12_goes 38 = .ok (.iaload, 1) := by decide +kernel
theorem dX12_goes_39 : decode cX12_goes 39 = .ok (.if_icmp .ge 28, 3) := by decide +kernel
theorem dX12_goes_42 : decode cX12_goes 42 = .ok (.iload_n 3, 1) := by decide +kernel
theorem dX12_goes_43 : decode cX12_goes 43 = .ok (.iload 4, 2) := by decide +kernel
theorem dX12_goes_45 : decode cX12_goes 45 = .ok (.ishr, 1) := by decide +kernel
theorem dX12_goes_46 : decode cX12_goes 46 = .ok (.iconst 1, 1) := by decide +kernel
theorem dX12_goes_47 : decode cX12_goes 47 = .ok (.iand, 1) := by decide +kernel
theorem dX12_goes_48 : decode cX12_goes 48 = .ok (.iconst 1, 1) := by decide +kernel
theorem dX12_goes_49 : decode cX12_goes 49 = .ok (.if_icmp .ne 12, 3) := by decide +kernel
theorem dX12_goes_52 : decode cX12_goes 52 = .ok (.aload_n 0, 1) := by decide +kernel
theorem dX12_goes_53 : decode cX12_goes 53 = .ok (.iload 4, 2) := by decide +kernel
theorem dX12_goes_55 : decode cX12_goes 55 = .ok (.invokevirtual 217, 3) := by decide +kernel
theorem dX12_goes_58 : decode cX12_goes 58 = .ok (.iinc 2 1, 3) := by decide +kernel
theorem dX12_goes_61 : decode cX12_goes 61 = .ok (.iinc 4 1, 3) := by decide +kernel
theorem dX12_goes_64 : decode cX12_goes 64 = .ok (.goto (-33), 3) := by decide +kernel
theorem dX12_goes_67 : decode cX12_goes 67 = .ok (.iconst 0, 1) := by decide +kernel
theorem dX12_goes_68 : decode cX12_goes 68 = .ok (.istore 4, 2) := by decide +kernel
theorem dX12_goes_70 : decode cX12_goes 70 = .ok (.iload 4, 2) := by decide +kernel
theorem dX12_goes_72 : decode cX12_goes 72 = .ok (.aload_n 0, 1) := by decide +kernel
theorem dX12_goes_73 : decode cX12_goes 73 = .ok (.getfield 9, 3) := by decide +kernel
theorem dX12_goes_76 : decode cX12_goes 76 = .ok (.iconst 4, 1) := by decide +kernel
theorem dX12_goes_77 : decode cX12_goes 77 = .ok (.iaload, 1) := by decide +kernel
theorem dX12_goes_78 : decode cX12_goes 78 = .ok (.if_icmp .ge 60, 3) := by decide +kernel
theorem dX12_goes_81 : decode cX12_goes 81 = .ok (.aload_n 0, 1) := by decide +kernel
theorem dX12_goes_82 : decode cX12_goes 82 = .ok (.iload 4, 2) := by decide +kernel
theorem dX12_goes_84 : decode cX12_goes 84 = .ok (.iconst 1, 1) := by decide +kernel
theorem dX12_goes_85 : decode cX12_goes 85 = .ok (.invokevirtual 69, 3) := by decide +kernel
theorem dX12_goes_88 : decode cX12_goes 88 = .ok (.aload_n 0, 1) := by decide +kernel
theorem dX12_goes_89 : decode cX12_goes 89 = .ok (.iload 4, 2) := by decide +kernel
theorem dX12_goes_91 : decode cX12_goes 91 = .ok (.iconst 4, 1) := by decide +kernel
theorem dX12_goes_92 : decode cX12_goes 92 = .ok (.invokevirtual 69, 3) := by decide +kernel
theorem dX12_goes_95 : decode cX12_goes 95 = .ok (.ifCond .ne 12, 3) := by decide +kernel
theorem dX12_goes_98 : decode cX12_goes 98 = .ok (.aload_n 0, 1) := by decide +kernel
theorem dX12_goes_99 : decode cX12_goes 99 = .ok (.iload 4, 2) := by decide +kernel
theorem dX12_goes_101 : decode cX12_goes 101 = .ok (.invokevirtual 112, 3) := by decide +kernel
theorem dX12_goes_104 : decode cX12_goes 104 = .ok (.goto 4, 3) := by decide +kernel
theorem dX12_goes_107 : decode cX12_goes 107 = .ok (.iconst 0, 1) := by decide +kernel
theorem dX12_goes_108 : decode cX12_goes 108 = .ok (.iadd, 1) := by decide +kernel
theorem dX12_goes_109 : decode cX12_goes 109 = .ok (.istore 5, 2) := by decide +kernel
theorem dX12_goes_111 : decode cX12_goes 111 = .ok (.aload_n 0, 1) := by decide +kernel
theorem dX12_goes_112 : decode cX12_goes 112 = .ok (.iload 4, 2) := by decide +kernel
theorem dX12_goes_114 : decode cX12_goes 114 = .ok (.iconst 1, 1) := by decide +kernel
theorem dX12_goes_115 : decode cX12_goes 115 = .ok (.iload 5, 2) := by decide +kernel
theorem dX12_goes_117 : decode cX12_goes 117 = .ok (.bipush 99, 2) := by decide +kernel
theorem dX12_goes_119 : decode cX12_goes 119 = .ok (.if_icmp .le 8, 3) := by decide +kernel
theorem dX12_goes_122 : decode cX12_goes 122 = .ok (.bipush 99, 2) := by decide +kernel
theorem dX12_goes_124 : decode cX12_goes 124 = .ok (.goto 5, 3) := by decide +kernel
theorem dX12_goes_127 : decode cX12_goes 127 = .ok (.iload 5, 2) := by decide +kernel
theorem dX12_goes_129 : decode cX12_goes 129 = .ok (.invokevirtual 105, 3) := by decide +kernel
theorem dX12_goes_132 : decode cX12_goes 132 = .ok (.iinc 4 1, 3) := by decide +kernel
theorem dX12_goes_135 : decode cX12_goes 135 = .ok (.goto (-65), 3) := by decide +kernel
theorem dX12_goes_138 : decode cX12_goes 138 = .ok (.aload_n 0, 1) := by decide +kernel
theorem dX12_goes_139 : decode cX12_goes 139 = .ok (.getfield 9, 3) := by decide +kernel
theorem dX12_goes_142 : decode cX12_goes 142 = .ok (.iconst 2, 1) := by decide +kernel
theorem dX12_goes_143 : decode cX12_goes 143 = .ok (.dup2, 1) := by decide +kernel
theorem dX12_goes_144 : decode cX12_goes 144 = .ok (.iaload, 1) := by decide +kernel
theorem dX12_goes_145 : decode cX12_goes 145 = .ok (.iload_n 2, 1) := by decide +kernel
theorem dX12_goes_146 : decode cX12_goes 146 = .ok (.iadd, 1) := by decide +kernel
theorem dX12_goes_147 : decode cX12_goes 147 = .ok (.iastore, 1) := by decide +kernel
theorem dX12_goes_148 : decode cX12_goes 148 = .ok (.aload_n 0, 1) := by decide +kernel
theorem dX12_goes_149 : decode cX12_goes 149 = .ok (.getfield 9, 3) := by decide +kernel
theorem dX12_goes_152 : decode cX12_goes 152 = .ok (.iconst 1, 1) := by decide +kernel
theorem dX12_goes_153 : decode cX12_goes 153 = .ok (.dup2, 1) := by decide +kernel
theorem dX12_goes_154 : decode cX12_goes 154 = .ok (.iaload, 1) := by decide +kernel
theorem dX12_goes_155 : decode cX12_goes 155 = .ok (.iconst 1, 1) := by decide +kernel
theorem dX12_goes_156 : decode cX12_goes 156 = .ok (.iadd, 1) := by decide +kernel
theorem dX12_goes_157 : decode cX12_goes 157 = .ok (.iastore, 1) := by decide +kernel
theorem dX12_goes_158 : decode cX12_goes 158 = .ok (.iload_n 2, 1) := by decide +kernel
theorem dX12_goes_159 : decode cX12_goes 159 = .ok (.ireturn, 1) := by decide +kernel
theorem dX12_goesByItself_0 : decode cX12_goesByItself 0 = .ok (.iconst (-1), 1) := by decide +kernel
theorem dX12_goesByItself_1 : decode cX12_goesByItself 1 = .ok (.istore_n 1, 1) := by decide +kernel
theorem dX12_goesByItself_2 : decode cX12_goesByItself 2 = .ok (.aload_n 0, 1) := by decide +kernel
theorem dX12_goesByItself_3 : decode cX12_goesByItself 3 = .ok (.getfield 9, 3) := by decide +kernel
theorem dX12_goesByItself_6 : decode cX12_goesByItself 6 = .ok (.iconst 4, 1) := by decide +kernel
theorem dX12_goesByItself_7 : decode cX12_goesByItself 7 = .ok (.iaload, 1) := by decide +kernel
theorem dX12_goesByItself_8 : decode cX12_goesByItself 8 = .ok (.iconst 1, 1) := by decide +kernel
theorem dX12_goesByItself_9 : decode cX12_goesByItself 9 = .ok (.isub, 1) := by decide +kernel
theorem dX12_goesByItself_10 : decode cX12_goesByItself 10 = .ok (.istore_n 2, 1) := by decide +kernel
theorem dX12_goesByItself_11 : decode cX12_goesByItself 11 = .ok (.iload_n 2, 1) := by decide +kernel
theorem dX12_goesByItself_12 : decode cX12_goesByItself 12 = .ok (.ifCond .lt 23, 3) := by decide +kernel
theorem dX12_goesByItself_15 : decode cX12_goesByItself 15 = .ok (.aload_n 0, 1) := by decide +kernel
theorem dX12_goesByItself_16 : decode cX12_goesByItself 16 = .ok (.iload_n 2, 1) := by decide +kernel
theorem dX12_goesByItself_17 : decode cX12_goesByItself 17 = .ok (.invokevirtual 115, 3) := by decide +kernel
theorem dX12_goesByItself_20 : decode cX12_goesByItself 20 = .ok (.ifCond .eq 7, 3) := by decide +kernel
theorem dX12_goesByItself_23 : decode cX12_goesByItself 23 = .ok (.iload_n 2, 1) := by decide +kernel
theorem dX12_goesByItself_24 : decode cX12_goesByItself 24 = .ok (.goto 4, 3) := by decide +kernel
theorem dX12_goesByItself_27 : decode cX12_goesByItself 27 = .ok (.iload_n 1, 1) := by decide +kernel
theorem dX12_goesByItself_28 : decode cX12_goesByItself 28 = .ok (.istore_n 1, 1) := by decide +kernel
theorem dX12_goesByItself_29 : decode cX12_goesByItself 29 = .ok (.iinc 2 (-1), 3) := by decide +kernel
theorem dX12_goesByItself_32 : decode cX12_goesByItself 32 = .ok (.goto (-21), 3) := by decide +kernel
theorem dX12_goesByItself_35 : decode cX12_goesByItself 35 = .ok (.aload_n 0, 1) := by decide +kernel
theorem dX12_goesByItself_36 : decode cX12_goesByItself 36 = .ok (.iload_n 1, 1) := by decide +kernel
theorem dX12_goesByItself_37 : decode cX12_goesByItself 37 = .ok (.invokevirtual 226, 3) := by decide +kernel
theorem dX12_goesByItself_40 : decode cX12_goesByItself 40 = .ok (.ireturn, 1) := by decide +kernel
theorem dX12_year_0 : decode cX12_year 0 = .ok (.aload_n 0, 1) := by decide +kernel
theorem dX12_year_1 : decode cX12_year 1 = .ok (.invokevirtual 121, 3) := by decide +kernel
theorem dX12_year_4 : decode cX12_year 4 = .ok (.ifCond .eq 8, 3) := by decide +kernel
theorem dX12_year_7 : decode cX12_year 7 = .ok (.bipush (-4), 2) := by decide +kernel
theorem dX12_year_9 : decode cX12_year 9 = .ok (.goto 7, 3) := by decide +kernel
theorem dX12_year_12 : decode cX12_year 12 = .ok (.aload_n 0, 1) := by decide +kernel
theorem dX12_year_13 : decode cX12_year 13 = .ok (.invokevirtual 229, 3) := by decide +kernel
theorem dX12_year_16 : decode cX12_year 16 = .ok (.ireturn, 1) := by decide +kernel
theorem dX12_restOf_0 : decode cX12_restOf 0 = .ok (.iconst 0, 1) := by decide +kernel
theorem dX12_restOf_1 : decode cX12_restOf 1 = .ok (.istore_n 2, 1) := by decide +kernel
theorem dX12_restOf_2 : decode cX12_restOf 2 = .ok (.iconst 0, 1) := by decide +kernel
theorem dX12_restOf_3 : decode cX12_restOf 3 = .ok (.istore_n 3, 1) := by decide +kernel
theorem dX12_restOf_4 : decode cX12_restOf 4 = .ok (.iload_n 3, 1) := by decide +kernel
theorem dX12_restOf_5 : decode cX12_restOf 5 = .ok (.iload_n 1, 1) := by decide +kernel
theorem dX12_restOf_6 : decode cX12_restOf 6 = .ok (.if_icmp .ge 23, 3) := by decide +kernel
theorem dX12_restOf_9 : decode cX12_restOf 9 = .ok (.aload_n 0, 1) := by decide +kernel
theorem dX12_restOf_10 : decode cX12_restOf 10 = .ok (.invokevirtual 121, 3) := by decide +kernel
theorem dX12_restOf_13 : decode cX12_restOf 13 = .ok (.ifCond .ne 16, 3) := by decide +kernel
theorem dX12_restOf_16 : decode cX12_restOf 16 = .ok (.iload_n 2, 1) := by decide +kernel
theorem dX12_restOf_17 : decode cX12_restOf 17 = .ok (.aload_n 0, 1) := by decide +kernel
theorem dX12_restOf_18 : decode cX12_restOf 18 = .ok (.invokevirtual 229, 3) := by decide +kernel
theorem dX12_restOf_21 : decode cX12_restOf 21 = .ok (.iadd, 1) := by decide +kernel
theorem dX12_restOf_22 : decode cX12_restOf 22 = .ok (.istore_n 2, 1) := by decide +kernel
theorem dX12_restOf_23 : decode cX12_restOf 23 = .ok (.iinc 3 1, 3) := by decide +kernel
theorem dX12_restOf_26 : decode cX12_restOf 26 = .ok (.goto (-22), 3) := by decide +kernel
theorem dX12_restOf_29 : decode cX12_restOf 29 = .ok (.aload_n 0, 1) := by decide +kernel
theorem dX12_restOf_30 : decode cX12_restOf 30 = .ok (.invokevirtual 202, 3) := by decide +kernel
theorem dX12_restOf_33 : decode cX12_restOf 33 = .ok (.iload_n 2, 1) := by decide +kernel
theorem dX12_restOf_34 : decode cX12_restOf 34 = .ok (.ireturn, 1) := by decide +kernel
theorem dX12_on_0 : decode cX12_on 0 = .ok (.iload_n 1, 1) := by decide +kernel
theorem dX12_on_1 : decode cX12_on 1 = .ok (.iconst 0, 1) := by decide +kernel
theorem dX12_on_2 : decode cX12_on 2 = .ok (.bipush 16, 2) := by decide +kernel
theorem dX12_on_4 : decode cX12_on 4 = .ok (.invokestatic 61, 3) := by decide +kernel
theorem dX12_on_7 : decode cX12_on 7 = .ok (.ifCond .ne 5, 3) := by decide +kernel
theorem dX12_on_10 : decode cX12_on 10 = .ok (.iconst (-1), 1) := by decide +kernel
theorem dX12_on_11 : decode cX12_on 11 = .ok (.ireturn, 1) := by decide +kernel
theorem dX12_on_12 : decode cX12_on 12 = .ok (.aload_n 0, 1) := by decide +kernel
theorem dX12_on_13 : decode cX12_on 13 = .ok (.invokevirtual 196, 3) := by decide +kernel
theorem dX12_on_16 : decode cX12_on 16 = .ok (.aload_n 0, 1) := by decide +kernel
theorem dX12_on_17 : decode cX12_on 17 = .ok (.iload_n 1, 1) := by decide +kernel
theorem dX12_on_18 : decode cX12_on 18 = .ok (.invokevirtual 232, 3) := by decide +kernel
theorem dX12_on_21 : decode cX12_on 21 = .ok (.ireturn, 1) := by decide +kernel
theorem dX12_when_0 : decode cX12_when 0 = .ok (.aload_n 0, 1) := by decide +kernel
theorem dX12_when_1 : decode cX12_when 1 = .ok (.iload_n 1, 1) := by decide +kernel
theorem dX12_when_2 : decode cX12_when 2 = .ok (.invokevirtual 109, 3) := by decide +kernel
theorem dX12_when_5 : decode cX12_when 5 = .ok (.ifCond .ne 5, 3) := by decide +kernel
theorem dX12_when_8 : decode cX12_when 8 = .ok (.iconst (-1), 1) := by decide +kernel
theorem dX12_when_9 : decode cX12_when 9 = .ok (.ireturn, 1) := by decide +kernel
theorem dX12_when_10 : decode cX12_when 10 = .ok (.aload_n 0, 1) := by decide +kernel
theorem dX12_when_11 : decode cX12_when 11 = .ok (.iload_n 1, 1) := by decide +kernel
theorem dX12_when_12 : decode cX12_when 12 = .ok (.iconst 4, 1) := by decide +kernel
theorem dX12_when_13 : decode cX12_when 13 = .ok (.invokevirtual 69, 3) := by decide +kernel
theorem dX12_when_16 : decode cX12_when 16 = .ok (.iconst 1, 1) := by decide +kernel
theorem dX12_when_17 : decode cX12_when 17 = .ok (.if_icmp .ne 6, 3) := by decide +kernel
theorem dX12_when_20 : decode cX12_when 20 = .ok (.bipush (-3), 2) := by decide +kernel
theorem dX12_when_22 : decode cX12_when 22 = .ok (.ireturn, 1) := by decide +kernel
theorem dX12_when_23 : decode cX12_when 23 = .ok (.aload_n 0, 1) := by decide +kernel
theorem dX12_when_24 : decode cX12_when 24 = .ok (.invokevirtual 196, 3) := by decide +kernel
theorem dX12_when_27 : decode cX12_when 27 = .ok (.bipush (-3), 2) := by decide +kernel
theorem dX12_when_29 : decode cX12_when 29 = .ok (.istore_n 2, 1) := by decide +kernel
theorem dX12_when_30 : decode cX12_when 30 = .ok (.iload_n 2, 1) := by decide +kernel
theorem dX12_when_31 : decode cX12_when 31 = .ok (.ifCond .ge 42, 3) := by decide +kernel
theorem dX12_when_34 : decode cX12_when 34 = .ok (.aload_n 0, 1) := by decide +kernel
theorem dX12_when_35 : decode cX12_when 35 = .ok (.invokevirtual 121, 3) := by decide +kernel
theorem dX12_when_38 : decode cX12_when 38 = .ok (.ifCond .ne 35, 3) := by decide +kernel
theorem dX12_when_41 : decode cX12_when 41 = .ok (.aload_n 0, 1) := by decide +kernel
theorem dX12_when_42 : decode cX12_when 42 = .ok (.invokevirtual 229, 3) := by decide +kernel
theorem dX12_when_45 : decode cX12_when 45 = .ok (.istore_n 3, 1) := by decide +kernel
theorem dX12_when_46 : decode cX12_when 46 = .ok (.aload_n 0, 1) := by decide +kernel
theorem dX12_when_47 : decode cX12_when 47 = .ok (.iload_n 1, 1) := by decide +kernel
theorem dX12_when_48 : decode cX12_when 48 = .ok (.iconst 4, 1) := by decide +kernel
theorem dX12_when_49 : decode cX12_when 49 = .ok (.invokevirtual 69, 3) := by decide +kernel
theorem dX12_when_52 : decode cX12_when 52 = .ok (.iconst 1, 1) := by decide +kernel
theorem dX12_when_53 : decode cX12_when 53 = .ok (.if_icmp .ne 14, 3) := by decide +kernel
theorem dX12_when_56 : decode cX12_when 56 = .ok (.aload_n 0, 1) := by decide +kernel
theorem dX12_when_57 : decode cX12_when 57 = .ok (.getfield 9, 3) := by decide +kernel
theorem dX12_when_60 : decode cX12_when 60 = .ok (.iconst 1, 1) := by decide +kernel
theorem dX12_when_61 : decode cX12_when 61 = .ok (.iaload, 1) := by decide +kernel
theorem dX12_when_62 : decode cX12_when 62 = .ok (.iconst 1, 1) := by decide +kernel
theorem dX12_when_63 : decode cX12_when 63 = .ok (.isub, 1) := by decide +kernel
theorem dX12_when_64 : decode cX12_when 64 = .ok (.goto 5, 3) := by decide +kernel
theorem dX12_when_67 : decode cX12_when 67 = .ok (.bipush (-3), 2) := by decide +kernel
theorem dX12_when_69 : decode cX12_when 69 = .ok (.istore_n 2, 1) := by decide +kernel
theorem dX12_when_70 : decode cX12_when 70 = .ok (.goto (-40), 3) := by decide +kernel
theorem dX12_when_73 : decode cX12_when 73 = .ok (.aload_n 0, 1) := by decide +kernel
theorem dX12_when_74 : decode cX12_when 74 = .ok (.invokevirtual 202, 3) := by decide +kernel
theorem dX12_when_77 : decode cX12_when 77 = .ok (.iload_n 2, 1) := by decide +kernel
theorem dX12_when_78 : decode cX12_when 78 = .ok (.ireturn, 1) := by decide +kernel
theorem dX12_bestFor_0 : decode cX12_bestFor 0 = .ok (.aload_n 0, 1) := by decide +kernel
theorem dX12_bestFor_1 : decode cX12_bestFor 1 = .ok (.invokevirtual 196, 3) := by decide +kernel
theorem dX12_bestFor_4 : decode cX12_bestFor 4 = .ok (.iconst 0, 1) := by decide +kernel
theorem dX12_bestFor_5 : decode cX12_bestFor 5 = .ok (.istore 4, 2) := by decide +kernel
theorem dX12_bestFor_7 : decode cX12_bestFor 7 = .ok (.iconst (-1), 1) := by decide +kernel
theorem dX12_bestFor_8 : decode cX12_bestFor 8 = .ok (.istore 5, 2) := by decide +kernel
theorem dX12_bestFor_10 : decode cX12_bestFor 10 = .ok (.iconst 0, 1) := by decide +kernel
theorem dX12_bestFor_11 : decode cX12_bestFor 11 = .ok (.istore 6, 2) := by decide +kernel
theorem dX12_bestFor_13 : decode cX12_bestFor 13 = .ok (.iload 6, 2) := by decide +kernel
theorem dX12_bestFor_15 : decode cX12_bestFor 15 = .ok (.iload_n 3, 1) := by decide +kernel
theorem dX12_bestFor_16 : decode cX12_bestFor 16 = .ok (.if_icmp .ge 57, 3) := by decide +kernel
theorem dX12_bestFor_19 : decode cX12_bestFor 19 = .ok (.aload_n 0, 1) := by decide +kernel
theorem dX12_bestFor_20 : decode cX12_bestFor 20 = .ok (.iload_n 1, 1) := by decide +kernel
theorem dX12_bestFor_21 : decode cX12_bestFor 21 = .ok (.iload_n 2, 1) := by decide +kernel
theorem dX12_bestFor_22 : decode cX12_bestFor 22 = .ok (.iload 6, 2) := by decide +kernel
theorem dX12_bestFor_24 : decode cX12_bestFor 24 = .ok (.invokevirtual 105, 3) := by decide +kernel
theorem dX12_bestFor_27 : decode cX12_bestFor 27 = .ok (.aload_n 0, 1) := by decide +kernel
theorem dX12_bestFor_28 : decode cX12_bestFor 28 = .ok (.bipush 16, 2) := by decide +kernel
theorem dX12_bestFor_30 : decode cX12_bestFor 30 = .ok (.invokevirtual 232, 3) := by decide +kernel
theorem dX12_bestFor_33 : decode cX12_bestFor 33 = .ok (.istore 7, 2) := by decide +kernel
theorem dX12_bestFor_35 : decode cX12_bestFor 35 = .ok (.iload 7, 2) := by decide +kernel
theorem dX12_bestFor_37 : decode cX12_bestFor 37 = .ok (.iload 5, 2) := by decide +kernel
theorem dX12_bestFor_39 : decode cX12_bestFor 39 = .ok (.if_icmp .le 8, 3) := by decide +kernel
theorem dX12_bestFor_42 : decode cX12_bestFor 42 = .ok (.iload 6, 2) := by decide +kernel
theorem dX12_bestFor_44 : decode cX12_bestFor 44 = .ok (.goto 5, 3) := by decide +kernel
theorem dX12_bestFor_47 : decode cX12_bestFor 47 = .ok (.iload 4, 2) := by decide +kernel
theorem dX12_bestFor_49 : decode cX12_bestFor 49 = .ok (.istore 4, 2) := by decide +kernel
theorem dX12_bestFor_51 : decode cX12_bestFor 51 = .ok (.iload 7, 2) := by decide +kernel
theorem dX12_bestFor_53 : decode cX12_bestFor 53 = .ok (.iload 5, 2) := by decide +kernel
theorem dX12_bestFor_55 : decode cX12_bestFor 55 = .ok (.if_icmp .le 8, 3) := by decide +kernel
theorem dX12_bestFor_58 : decode cX12_bestFor 58 = .ok (.iload 7, 2) := by decide +kernel
theorem dX12_bestFor_60 : decode cX12_bestFor 60 = .ok (.goto 5, 3) := by decide +kernel
theorem dX12_bestFor_63 : decode cX12_bestFor 63 = .ok (.iload 5, 2) := by decide +kernel
theorem dX12_bestFor_65 : decode cX12_bestFor 65 = .ok (.istore 5, 2) := by decide +kernel
theorem dX12_bestFor_67 : decode cX12_bestFor 67 = .ok (.iinc 6 1, 3) := by decide +kernel
theorem dX12_bestFor_70 : decode cX12_bestFor 70 = .ok (.goto (-57), 3) := by decide +kernel
theorem dX12_bestFor_73 : decode cX12_bestFor 73 = .ok (.iload 4, 2) := by decide +kernel
theorem dX12_bestFor_75 : decode cX12_bestFor 75 = .ok (.ireturn, 1) := by decide +kernel
theorem dX12_gapFor_0 : decode cX12_gapFor 0 = .ok (.aload_n 0, 1) := by decide +kernel
theorem dX12_gapFor_1 : decode cX12_gapFor 1 = .ok (.iload_n 1, 1) := by decide +kernel
theorem dX12_gapFor_2 : decode cX12_gapFor 2 = .ok (.invokevirtual 109, 3) := by decide +kernel
theorem dX12_gapFor_5 : decode cX12_gapFor 5 = .ok (.ifCond .eq 14, 3) := by decide +kernel
theorem dX12_gapFor_8 : decode cX12_gapFor 8 = .ok (.aload_n 0, 1) := by decide +kernel
theorem dX12_gapFor_9 : decode cX12_gapFor 9 = .ok (.iload_n 1, 1) := by decide +kernel
theorem dX12_gapFor_10 : decode cX12_gapFor 10 = .ok (.iconst 2, 1) := by decide +kernel
theorem dX12_gapFor_11 : decode cX12_gapFor 11 = .ok (.bipush 10, 2) := by decide +kernel
theorem dX12_gapFor_13 : decode cX12_gapFor 13 = .ok (.invokevirtual 235, 3) := by decide +kernel
theorem dX12_gapFor_16 : decode cX12_gapFor 16 = .ok (.goto 4, 3) := by decide +kernel
theorem dX12_gapFor_19 : decode cX12_gapFor 19 = .ok (.iconst (-1), 1) := by decide +kernel
theorem dX12_gapFor_20 : decode cX12_gapFor 20 = .ok (.ireturn, 1) := by decide +kernel
theorem dX12_roomFor_0 : decode cX12_roomFor 0 = .ok (.aload_n 0, 1) := by decide +kernel
theorem dX12_roomFor_1 : decode cX12_roomFor 1 = .ok (.iload_n 1, 1) := by decide +kernel
theorem dX12_roomFor_2 : decode cX12_roomFor 2 = .ok (.invokevirtual 109, 3) := by decide +kernel
theorem dX12_roomFor_5 : decode cX12_roomFor 5 = .ok (.ifCond .eq 14, 3) := by decide +kernel
theorem dX12_roomFor_8 : decode cX12_roomFor 8 = .ok (.aload_n 0, 1) := by decide +kernel
theorem dX12_roomFor_9 : decode cX12_roomFor 9 = .ok (.iload_n 1, 1) := by decide +kernel
theorem dX12_roomFor_10 : decode cX12_roomFor 10 = .ok (.iconst 3, 1) := by decide +kernel
theorem dX12_roomFor_11 : decode cX12_roomFor 11 = .ok (.bipush 6, 2) := by decide +kernel
theorem dX12_roomFor_13 : decode cX12_roomFor 13 = .ok (.invokevirtual 235, 3) := by decide +kernel
theorem dX12_roomFor_16 : decode cX12_roomFor 16 = .ok (.goto 4, 3) := by decide +kernel
theorem dX12_roomFor_19 : decode cX12_roomFor 19 = .ok (.iconst (-1), 1) := by decide +kernel
theorem dX12_roomFor_20 : decode cX12_roomFor 20 = .ok (.ireturn, 1) := by decide +kernel
theorem dX12_itself_0 : decode cX12_itself 0 = .ok (.aload_n 0, 1) := by decide +kernel
theorem dX12_itself_1 : decode cX12_itself 1 = .ok (.iload_n 1, 1) := by decide +kernel
theorem dX12_itself_2 : decode cX12_itself 2 = .ok (.invokevirtual 109, 3) := by decide +kernel
theorem dX12_itself_5 : decode cX12_itself 5 = .ok (.ifCond .ne 5, 3) := by decide +kernel
theorem dX12_itself_8 : decode cX12_itself 8 = .ok (.iconst (-1), 1) := by decide +kernel
theorem dX12_itself_9 : decode cX12_itself 9 = .ok (.ireturn, 1) := by decide +kernel
theorem dX12_itself_10 : decode cX12_itself 10 = .ok (.aload_n 0, 1) := by decide +kernel
theorem dX12_itself_11 : decode cX12_itself 11 = .ok (.iload_n 1, 1) := by decide +kernel
theorem dX12_itself_12 : decode cX12_itself 12 = .ok (.iconst 4, 1) := by decide +kernel
theorem dX12_itself_13 : decode cX12_itself 13 = .ok (.invokevirtual 69, 3) := by decide +kernel
theorem dX12_itself_16 : decode cX12_itself 16 = .ok (.iconst 1, 1) := by decide +kernel
theorem dX12_itself_17 : decode cX12_itself 17 = .ok (.if_icmp .ne 6, 3) := by decide +kernel
theorem dX12_itself_20 : decode cX12_itself 20 = .ok (.bipush (-3), 2) := by decide +kernel
theorem dX12_itself_22 : decode cX12_itself 22 = .ok (.ireturn, 1) := by decide +kernel
theorem dX12_itself_23 : decode cX12_itself 23 = .ok (.aload_n 0, 1) := by decide +kernel
theorem dX12_itself_24 : decode cX12_itself 24 = .ok (.invokevirtual 196, 3) := by decide +kernel
theorem dX12_itself_27 : decode cX12_itself 27 = .ok (.bipush (-3), 2) := by decide +kernel
theorem dX12_itself_29 : decode cX12_itself 29 = .ok (.istore_n 2, 1) := by decide +kernel
theorem dX12_itself_30 : decode cX12_itself 30 = .ok (.iload_n 2, 1) := by decide +kernel
theorem dX12_itself_31 : decode cX12_itself 31 = .ok (.ifCond .ge 43, 3) := by decide +kernel
theorem dX12_itself_34 : decode cX12_itself 34 = .ok (.aload_n 0, 1) := by decide +kernel
theorem dX12_itself_35 : decode cX12_itself 35 = .ok (.invokevirtual 121, 3) := by decide +kernel
theorem dX12_itself_38 : decode cX12_itself 38 = .ok (.ifCond .ne 36, 3) := by decide +kernel
theorem dX12_itself_41 : decode cX12_itself 41 = .ok (.aload_n 0, 1) := by decide +kernel
theorem dX12_itself_42 : decode cX12_itself 42 = .ok (.iconst (-1), 1) := by decide +kernel
theorem dX12_itself_43 : decode cX12_itself 43 = .ok (.invokevirtual 226, 3) := by decide +kernel
theorem dX12_itself_46 : decode cX12_itself 46 = .ok (.istore_n 3, 1) := by decide +kernel
theorem dX12_itself_47 : decode cX12_itself 47 = .ok (.aload_n 0, 1) := by decide +kernel
theorem dX12_itself_48 : decode cX12_itself 48 = .ok (.iload_n 1, 1) := by decide +kernel
theorem dX12_itself_49 : decode cX12_itself 49 = .ok (.iconst 4, 1) := by decide +kernel
theorem dX12_itself_50 : decode cX12_itself 50 = .ok (.invokevirtual 69, 3) := by decide +kernel
theorem dX12_itself_53 : decode cX12_itself 53 = .ok (.iconst 1, 1) := by decide +kernel
theorem dX12_itself_54 : decode cX12_itself 54 = .ok (.if_icmp .ne 14, 3) := by decide +kernel
theorem dX12_itself_57 : decode cX12_itself 57 = .ok (.aload_n 0, 1) := by decide +kernel
theorem dX12_itself_58 : decode cX12_itself 58 = .ok (.getfield 9, 3) := by decide +kernel
theorem dX12_itself_61 : decode cX12_itself 61 = .ok (.iconst 1, 1) := by decide +kernel
theorem dX12_itself_62 : decode cX12_itself 62 = .ok (.iaload, 1) := by decide +kernel
theorem dX12_itself_63 : decode cX12_itself 63 = .ok (.iconst 1, 1) := by decide +kernel
theorem dX12_itself_64 : decode cX12_itself 64 = .ok (.isub, 1) := by decide +kernel
theorem dX12_itself_65 : decode cX12_itself 65 = .ok (.goto 5, 3) := by decide +kernel
theorem dX12_itself_68 : decode cX12_itself 68 = .ok (.bipush (-3), 2) := by decide +kernel
theorem dX12_itself_70 : decode cX12_itself 70 = .ok (.istore_n 2, 1) := by decide +kernel
theorem dX12_itself_71 : decode cX12_itself 71 = .ok (.goto (-41), 3) := by decide +kernel
theorem dX12_itself_74 : decode cX12_itself 74 = .ok (.aload_n 0, 1) := by decide +kernel
theorem dX12_itself_75 : decode cX12_itself 75 = .ok (.invokevirtual 202, 3) := by decide +kernel
theorem dX12_itself_78 : decode cX12_itself 78 = .ok (.iload_n 2, 1) := by decide +kernel
theorem dX12_itself_79 : decode cX12_itself 79 = .ok (.ireturn, 1) := by decide +kernel
theorem dX12_least_0 : decode cX12_least 0 = .ok (.aload_n 0, 1) := by decide +kernel
theorem dX12_least_1 : decode cX12_least 1 = .ok (.iload_n 1, 1) := by decide +kernel
theorem dX12_least_2 : decode cX12_least 2 = .ok (.invokevirtual 109, 3) := by decide +kernel
theorem dX12_least_5 : decode cX12_least 5 = .ok (.ifCond .ne 5, 3) := by decide +kernel
theorem dX12_least_8 : decode cX12_least 8 = .ok (.iconst (-1), 1) := by decide +kernel
theorem dX12_least_9 : decode cX12_least 9 = .ok (.ireturn, 1) := by decide +kernel
theorem dX12_least_10 : decode cX12_least 10 = .ok (.aload_n 0, 1) := by decide +kernel
theorem dX12_least_11 : decode cX12_least 11 = .ok (.iload_n 1, 1) := by decide +kernel
theorem dX12_least_12 : decode cX12_least 12 = .ok (.iconst 4, 1) := by decide +kernel
theorem dX12_least_13 : decode cX12_least 13 = .ok (.invokevirtual 69, 3) := by decide +kernel
theorem dX12_least_16 : decode cX12_least 16 = .ok (.iconst 1, 1) := by decide +kernel
theorem dX12_least_17 : decode cX12_least 17 = .ok (.if_icmp .ne 7, 3) := by decide +kernel
theorem dX12_least_20 : decode cX12_least 20 = .ok (.iconst 4, 1) := by decide +kernel
theorem dX12_least_21 : decode cX12_least 21 = .ok (.goto 4, 3) := by decide +kernel
theorem dX12_least_24 : decode cX12_least 24 = .ok (.iconst 0, 1) := by decide +kernel
theorem dX12_least_25 : decode cX12_least 25 = .ok (.istore_n 2, 1) := by decide +kernel
theorem dX12_least_26 : decode cX12_least 26 = .ok (.iload_n 2, 1) := by decide +kernel
theorem dX12_least_27 : decode cX12_least 27 = .ok (.iconst 4, 1) := by decide +kernel
theorem dX12_least_28 : decode cX12_least 28 = .ok (.if_icmp .ge 28, 3) := by decide +kernel
theorem dX12_least_31 : decode cX12_least 31 = .ok (.aload_n 0, 1) := by decide +kernel
theorem dX12_least_32 : decode cX12_least 32 = .ok (.iload_n 1, 1) := by decide +kernel
theorem dX12_least_33 : decode cX12_least 33 = .ok (.iconst 1, 1) := by decide +kernel
theorem dX12_least_34 : decode cX12_least 34 = .ok (.invokevirtual 69, 3) := by decide +kernel
theorem dX12_least_37 : decode cX12_least 37 = .ok (.bipush 6, 2) := by decide +kernel
theorem dX12_least_39 : decode cX12_least 39 = .ok (.iload_n 2, 1) := by decide +kernel
theorem dX12_least_40 : decode cX12_least 40 = .ok (.imul, 1) := by decide +kernel
theorem dX12_least_41 : decode cX12_least 41 = .ok (.iadd, 1) := by decide +kernel
theorem dX12_least_42 : decode cX12_least 42 = .ok (.aload_n 0, 1) := by decide +kernel
theorem dX12_least_43 : decode cX12_least 43 = .ok (.iload_n 1, 1) := by decide +kernel
theorem dX12_least_44 : decode cX12_least 44 = .ok (.invokevirtual 88, 3) := by decide +kernel
theorem dX12_least_47 : decode cX12_least 47 = .ok (.if_icmp .ge 9, 3) := by decide +kernel
theorem dX12_least_50 : decode cX12_least 50 = .ok (.iinc 2 1, 3) := by decide +kernel
theorem dX12_least_53 : decode cX12_least 53 = .ok (.goto (-27), 3) := by decide +kernel
theorem dX12_least_56 : decode cX12_least 56 = .ok (.iload_n 2, 1) := by decide +kernel
theorem dX12_least_57 : decode cX12_least 57 = .ok (.iconst 4, 1) := by decide +kernel
theorem dX12_least_58 : decode cX12_least 58 = .ok (.if_icmp .ge 7, 3) := by decide +kernel
theorem dX12_least_61 : decode cX12_least 61 = .ok (.iload_n 2, 1) := by decide +kernel
theorem dX12_least_62 : decode cX12_least 62 = .ok (.goto 5, 3) := by decide +kernel
theorem dX12_least_65 : decode cX12_least 65 = .ok (.bipush (-3), 2) := by decide +kernel
theorem dX12_least_67 : decode cX12_least 67 = .ok (.ireturn, 1) := by decide +kernel
theorem dX12_wave_0 : decode cX12_wave 0 = .ok (.aload_n 0, 1) := by decide +kernel
theorem dX12_wave_1 : decode cX12_wave 1 = .ok (.iload_n 1, 1) := by decide +kernel
theorem dX12_wave_2 : decode cX12_wave 2 = .ok (.invokevirtual 109, 3) := by decide +kernel
theorem dX12_wave_5 : decode cX12_wave 5 = .ok (.ifCond .eq 13, 3) := by decide +kernel
theorem dX12_wave_8 : decode cX12_wave 8 = .ok (.iload_n 2, 1) := by decide +kernel
theorem dX12_wave_9 : decode cX12_wave 9 = .ok (.iconst 0, 1) := by decide +kernel
theorem dX12_wave_10 : decode cX12_wave 10 = .ok (.bipush 16, 2) := by decide +kernel
theorem dX12_wave_12 : decode cX12_wave 12 = .ok (.invokestatic 61, 3) := by decide +kernel
theorem dX12_wave_15 : decode cX12_wave 15 = .ok (.ifCond .ne 5, 3) := by decide +kernel
theorem dX12_wave_18 : decode cX12_wave 18 = .ok (.iconst (-1), 1) := by decide +kernel
theorem dX12_wave_19 : decode cX12_wave 19 = .ok (.ireturn, 1) := by decide +kernel
theorem dX12_wave_20 : decode cX12_wave 20 = .ok (.aload_n 0, 1) := by decide +kernel
theorem dX12_wave_21 : decode cX12_wave 21 = .ok (.invokevirtual 196, 3) := by decide +kernel
theorem dX12_wave_24 : decode cX12_wave 24 = .ok (.aload_n 0, 1) := by decide +kernel
theorem dX12_wave_25 : decode cX12_wave 25 = .ok (.iload_n 1, 1) := by decide +kernel
theorem dX12_wave_26 : decode cX12_wave 26 = .ok (.iconst 4, 1) := by decide +kernel
theorem dX12_wave_27 : decode cX12_wave 27 = .ok (.invokevirtual 69, 3) := by decide +kernel
theorem dX12_wave_30 : decode cX12_wave 30 = .ok (.ifCond .ne 8, 3) := by decide +kernel
theorem dX12_wave_33 : decode cX12_wave 33 = .ok (.aload_n 0, 1) := by decide +kernel
theorem dX12_wave_34 : decode cX12_wave 34 = .ok (.iload_n 1, 1) := by decide +kernel
theorem dX12_wave_35 : decode cX12_wave 35 = .ok (.invokevirtual 217, 3) := by decide +kernel
theorem dX12_wave_38 : decode cX12_wave 38 = .ok (.iconst 0, 1) := by decide +kernel
theorem dX12_wave_39 : decode cX12_wave 39 = .ok (.istore_n 3, 1) := by decide +kernel
theorem dX12_wave_40 : decode cX12_wave 40 = .ok (.iload_n 3, 1) := by decide +kernel
theorem dX12_wave_41 : decode cX12_wave 41 = .ok (.iload_n 2, 1) := by decide +kernel
theorem dX12_wave_42 : decode cX12_wave 42 = .ok (.if_icmp .ge 23, 3) := by decide +kernel
theorem dX12_wave_45 : decode cX12_wave 45 = .ok (.aload_n 0, 1) := by decide +kernel
theorem dX12_wave_46 : decode cX12_wave 46 = .ok (.invokevirtual 121, 3) := by decide +kernel
theorem dX12_wave_49 : decode cX12_wave 49 = .ok (.ifCond .ne 16, 3) := by decide +kernel
theorem dX12_wave_52 : decode cX12_wave 52 = .ok (.aload_n 0, 1) := by decide +kernel
theorem dX12_wave_53 : decode cX12_wave 53 = .ok (.iconst (-1), 1) := by decide +kernel
theorem dX12_wave_54 : decode cX12_wave 54 = .ok (.invokevirtual 226, 3) := by decide +kernel
theorem dX12_wave_57 : decode cX12_wave 57 = .ok (.istore 4, 2) := by decide +kernel
theorem dX12_wave_59 : decode cX12_wave 59 = .ok (.iinc 3 1, 3) := by decide +kernel
theorem dX12_wave_62 : decode cX12_wave 62 = .ok (.goto (-22), 3) := by decide +kernel
theorem dX12_wave_65 : decode cX12_wave 65 = .ok (.aload_n 0, 1) := by decide +kernel
theorem dX12_wave_66 : decode cX12_wave 66 = .ok (.invokevirtual 125, 3) := by decide +kernel
theorem dX12_wave_69 : decode cX12_wave 69 = .ok (.istore_n 3, 1) := by decide +kernel
theorem dX12_wave_70 : decode cX12_wave 70 = .ok (.aload_n 0, 1) := by decide +kernel
theorem dX12_wave_71 : decode cX12_wave 71 = .ok (.invokevirtual 202, 3) := by decide +kernel
theorem dX12_wave_74 : decode cX12_wave 74 = .ok (.iload_n 3, 1) := by decide +kernel
theorem dX12_wave_75 : decode cX12_wave 75 = .ok (.ireturn, 1) := by decide +kernel
theorem dX12_areClose_0 : decode cX12_areClose 0 = .ok (.aload_n 0, 1) := by decide +kernel
theorem dX12_areClose_1 : decode cX12_areClose 1 = .ok (.iload_n 1, 1) := by decide +kernel
theorem dX12_areClose_2 : decode cX12_areClose 2 = .ok (.iconst 3, 1) := by decide +kernel
theorem dX12_areClose_3 : decode cX12_areClose 3 = .ok (.invokevirtual 69, 3) := by decide +kernel
theorem dX12_areClose_6 : decode cX12_areClose 6 = .ok (.aload_n 0, 1) := by decide +kernel
theorem dX12_areClose_7 : decode cX12_areClose 7 = .ok (.iload_n 2, 1) := by decide +kernel
theorem dX12_areClose_8 : decode cX12_areClose 8 = .ok (.iconst 3, 1) := by decide +kernel
theorem dX12_areClose_9 : decode cX12_areClose 9 = .ok (.invokevirtual 69, 3) := by decide +kernel
theorem dX12_areClose_12 : decode cX12_areClose 12 = .ok (.isub, 1) := by decide +kernel
theorem dX12_areClose_13 : decode cX12_areClose 13 = .ok (.istore_n 3, 1) := by decide +kernel
theorem dX12_areClose_14 : decode cX12_areClose 14 = .ok (.aload_n 0, 1) := by decide +kernel
theorem dX12_areClose_15 : decode cX12_areClose 15 = .ok (.iload_n 1, 1) := by decide +kernel
theorem dX12_areClose_16 : decode cX12_areClose 16 = .ok (.iconst 4, 1) := by decide +kernel
theorem dX12_areClose_17 : decode cX12_areClose 17 = .ok (.invokevirtual 69, 3) := by decide +kernel
theorem dX12_areClose_20 : decode cX12_areClose 20 = .ok (.ifCond .ne 25, 3) := by decide +kernel
theorem dX12_areClose_23 : decode cX12_areClose 23 = .ok (.aload_n 0, 1) := by decide +kernel
theorem dX12_areClose_24 : decode cX12_areClose 24 = .ok (.iload_n 2, 1) := by decide +kernel
theorem dX12_areClose_25 : decode cX12_areClose 25 = .ok (.iconst 4, 1) := by decide +kernel
theorem dX12_areClose_26 : decode cX12_areClose 26 = .ok (.invokevirtual 69, 3) := by decide +kernel
theorem dX12_areClose_29 : decode cX12_areClose 29 = .ok (.ifCond .ne 16, 3) := by decide +kernel
theorem dX12_areClose_32 : decode cX12_areClose 32 = .ok (.iload_n 3, 1) := by decide +kernel
theorem dX12_areClose_33 : decode cX12_areClose 33 = .ok (.iconst (-1), 1) := by decide +kernel
theorem dX12_areClose_34 : decode cX12_areClose 34 = .ok (.iconst 1, 1) := by decide +kernel
theorem dX12_areClose_35 : decode cX12_areClose 35 = .ok (.invokestatic 61, 3) := by decide +kernel
theorem dX12_areClose_38 : decode cX12_areClose 38 = .ok (.ifCond .eq 7, 3) := by decide +kernel
theorem dX12_areClose_41 : decode cX12_areClose 41 = .ok (.iconst 1, 1) := by decide +kernel
theorem dX12_areClose_42 : decode cX12_areClose 42 = .ok (.goto 4, 3) := by decide +kernel
theorem dX12_areClose_45 : decode cX12_areClose 45 = .ok (.iconst 0, 1) := by decide +kernel
theorem dX12_areClose_46 : decode cX12_areClose 46 = .ok (.ireturn, 1) := by decide +kernel
theorem dX12_chainOf_0 : decode cX12_chainOf 0 = .ok (.aload_n 0, 1) := by decide +kernel
theorem dX12_chainOf_1 : decode cX12_chainOf 1 = .ok (.iload_n 1, 1) := by decide +kernel
theorem dX12_chainOf_2 : decode cX12_chainOf 2 = .ok (.iconst 4, 1) := by decide +kernel
theorem dX12_chainOf_3 : decode cX12_chainOf 3 = .ok (.invokevirtual 69, 3) := by decide +kernel
theorem dX12_chainOf_6 : decode cX12_chainOf 6 = .ok (.iconst 1, 1) := by decide +kernel
theorem dX12_chainOf_7 : decode cX12_chainOf 7 = .ok (.if_icmp .ne 7, 3) := by decide +kernel
theorem dX12_chainOf_10 : decode cX12_chainOf 10 = .ok (.iconst 0, 1) := by decide +kernel
theorem dX12_chainOf_11 : decode cX12_chainOf 11 = .ok (.goto 6, 3) := by decide +kernel
theorem dX12_chainOf_14 : decode cX12_chainOf 14 = .ok (.iconst 1, 1) := by decide +kernel
theorem dX12_chainOf_15 : decode cX12_chainOf 15 = .ok (.iload_n 1, 1) := by decide +kernel
theorem dX12_chainOf_16 : decode cX12_chainOf 16 = .ok (.ishl, 1) := by decide +kernel
theorem dX12_chainOf_17 : decode cX12_chainOf 17 = .ok (.istore_n 2, 1) := by decide +kernel
theorem dX12_chainOf_18 : decode cX12_chainOf 18 = .ok (.iconst 0, 1) := by decide +kernel
theorem dX12_chainOf_19 : decode cX12_chainOf 19 = .ok (.istore_n 3, 1) := by decide +kernel
theorem dX12_chainOf_20 : decode cX12_chainOf 20 = .ok (.iload_n 3, 1) := by decide +kernel
theorem dX12_chainOf_21 : decode cX12_chainOf 21 = .ok (.bipush 36, 2) := by decide +kernel
theorem dX12_chainOf_23 : decode cX12_chainOf 23 = .ok (.if_icmp .ge 78, 3) := by decide +kernel
theorem dX12_chainOf_26 : decode cX12_chainOf 26 = .ok (.iload_n 3, 1) := by decide +kernel
theorem dX12_chainOf_27 : decode cX12_chainOf 27 = .ok (.bipush 6, 2) := by decide +kernel
theorem dX12_chainOf_29 : decode cX12_chainOf 29 = .ok (.irem, 1) := by decide +kernel
theorem dX12_chainOf_30 : decode cX12_chainOf 30 = .ok (.istore 4, 2) := by decide +kernel
theorem dX12_chainOf_32 : decode cX12_chainOf 32 = .ok (.iconst 0, 1) := by decide +kernel
theorem dX12_chainOf_33 : decode cX12_chainOf 33 = .ok (.istore 5, 2) := by decide +kernel
theorem dX12_chainOf_35 : decode cX12_chainOf 35 = .ok (.iload 5, 2) := by decide +kernel
theorem dX12_chainOf_37 : decode cX12_chainOf 37 = .ok (.aload_n 0, 1) := by decide +kernel
theorem dX12_chainOf_38 : decode cX12_chainOf 38 = .ok (.getfield 9, 3) := by decide +kernel
theorem dX12_chainOf_41 : decode cX12_chainOf 41 = .ok (.iconst 4, 1) := by decide +kernel
theorem dX12_chainOf_42 : decode cX12_chainOf 42 = .ok (.iaload, 1) := by decide +kernel
theorem dX12_chainOf_43 : decode cX12_chainOf 43 = .ok (.if_icmp .ge 52, 3) := by decide +kernel
theorem dX12_chainOf_46 : decode cX12_chainOf 46 = .ok (.iload 4, 2) := by decide +kernel
theorem dX12_chainOf_48 : decode cX12_chainOf 48 = .ok (.aload_n 0, 1) := by decide +kernel
theorem dX12_chainOf_49 : decode cX12_chainOf 49 = .ok (.getfield 9, 3) := by decide +kernel
theorem dX12_chainOf_52 : decode cX12_chainOf 52 = .ok (.iconst 4, 1) := by decide +kernel
theorem dX12_chainOf_53 : decode cX12_chainOf 53 = .ok (.iaload, 1) := by decide +kernel
theorem dX12_chainOf_54 : decode cX12_chainOf 54 = .ok (.if_icmp .ge 41, 3) := by decide +kernel
theorem dX12_chainOf_57 : decode cX12_chainOf 57 = .ok (.iload_n 2, 1) := by decide +kernel
theorem dX12_chainOf_58 : decode cX12_chainOf 58 = .ok (.iload_n 2, 1) := by decide +kernel
theorem dX12_chainOf_59 : decode cX12_chainOf 59 = .ok (.iload 4, 2) := by decide +kernel
theorem dX12_chainOf_61 : decode cX12_chainOf 61 = .ok (.ishr, 1) := by decide +kernel
theorem dX12_chainOf_62 : decode cX12_chainOf 62 = .ok (.iconst 1, 1) := by decide +kernel
theorem dX12_chainOf_63 : decode cX12_chainOf 63 = .ok (.iand, 1) := by decide +kernel
theorem dX12_chainOf_64 : decode cX12_chainOf 64 = .ok (.iconst 1, 1) := by decide +kernel
theorem dX12_chainOf_65 : decode cX12_chainOf 65 = .ok (.if_icmp .ne 21, 3) := by decide +kernel
theorem dX12_chainOf_68 : decode cX12_chainOf 68 = .ok (.aload_n 0, 1) := by decide +kernel
theorem dX12_chainOf_69 : decode cX12_chainOf 69 = .ok (.iload 4, 2) := by decide +kernel
theorem dX12_chainOf_71 : decode cX12_chainOf 71 = .ok (.iload 5, 2) := by decide +kernel
theorem dX12_chainOf_73 : decode cX12_chainOf 73 = .ok (.invokevirtual 238, 3) := by decide +kernel
theorem dX12_chainOf_76 : decode cX12_chainOf 76 = .ok (.ifCond .eq 10, 3) := by decide +kernel
theorem dX12_chainOf_79 : decode cX12_chainOf 79 = .ok (.iconst 1, 1) := by decide +kernel
theorem dX12_chainOf_80 : decode cX12_chainOf 80 = .ok (.iload 5, 2) := by decide +kernel
theorem dX12_chainOf_82 : decode cX12_chainOf 82 = .ok (.ishl, 1) := by decide +kernel
theorem dX12_chainOf_83 : decode cX12_chainOf 83 = .ok (.goto 4, 3) := by decide +kernel
theorem dX12_chainOf_86 : decode cX12_chainOf 86 = .ok (.iconst 0, 1) := by decide +kernel
theorem dX12_chainOf_87 : decode cX12_chainOf 87 = .ok (.ior, 1) := by decide +kernel
theorem dX12_chainOf_88 : decode cX12_chainOf 88 = .ok (.istore_n 2, 1) := by decide +kernel
theorem dX12_chainOf_89 : decode cX12_chainOf 89 = .ok (.iinc 5 1, 3) := by decide +kernel
theorem dX12_chainOf_92 : decode cX12_chainOf 92 = .ok (.goto (-57), 3) := by decide +kernel
theorem dX12_chainOf_95 : decode cX12_chainOf 95 = .ok (.iinc 3 1, 3) := by decide +kernel
theorem dX12_chainOf_98 : decode cX12_chainOf 98 = .ok (.goto (-78), 3) := by decide +kernel
theorem dX12_chainOf_101 : decode cX12_chainOf 101 = .ok (.iload_n 2, 1) := by decide +kernel
theorem dX12_chainOf_102 : decode cX12_chainOf 102 = .ok (.ireturn, 1) := by decide +kernel
theorem dX12_chains_0 : decode cX12_chains 0 = .ok (.iload_n 1, 1) := by decide +kernel
theorem dX12_chains_1 : decode cX12_chains 1 = .ok (.iconst (-1), 1) := by decide +kernel
theorem dX12_chains_2 : decode cX12_chains 2 = .ok (.if_icmp .eq 21, 3) := by decide +kernel
theorem dX12_chains_5 : decode cX12_chains 5 = .ok (.aload_n 0, 1) := by decide +kernel
theorem dX12_chains_6 : decode cX12_chains 6 = .ok (.iload_n 1, 1) := by decide +kernel
theorem dX12_chains_7 : decode cX12_chains 7 = .ok (.invokevirtual 109, 3) := by decide +kernel
theorem dX12_chains_10 : decode cX12_chains 10 = .ok (.ifCond .eq 11, 3) := by decide +kernel
theorem dX12_chains_13 : decode cX12_chains 13 = .ok (.aload_n 0, 1) := by decide +kernel
theorem dX12_chains_14 : decode cX12_chains 14 = .ok (.iload_n 1, 1) := by decide +kernel
theorem dX12_chains_15 : decode cX12_chains 15 = .ok (.invokevirtual 241, 3) := by decide +kernel
theorem dX12_chains_18 : decode cX12_chains 18 = .ok (.goto 4, 3) := by decide +kernel
theorem dX12_chains_21 : decode cX12_chains 21 = .ok (.iconst (-1), 1) := by decide +kernel
theorem dX12_chains_22 : decode cX12_chains 22 = .ok (.ireturn, 1) := by decide +kernel
theorem dX12_chains_23 : decode cX12_chains 23 = .ok (.iconst 0, 1) := by decide +kernel
theorem dX12_chains_24 : decode cX12_chains 24 = .ok (.istore_n 2, 1) := by decide +kernel
theorem dX12_chains_25 : decode cX12_chains 25 = .ok (.iconst 0, 1) := by decide +kernel
theorem dX12_chains_26 : decode cX12_chains 26 = .ok (.istore_n 3, 1) := by decide +kernel
theorem dX12_chains_27 : decode cX12_chains 27 = .ok (.iload_n 3, 1) := by decide +kernel
theorem dX12_chains_28 : decode cX12_chains 28 = .ok (.aload_n 0, 1) := by decide +kernel
theorem dX12_chains_29 : decode cX12_chains 29 = .ok (.getfield 9, 3) := by decide +kernel
theorem dX12_chains_32 : decode cX12_chains 32 = .ok (.iconst 4, 1) := by decide +kernel
theorem dX12_chains_33 : decode cX12_chains 33 = .ok (.iaload, 1) := by decide +kernel
theorem dX12_chains_34 : decode cX12_chains 34 = .ok (.if_icmp .ge 40, 3) := by decide +kernel
theorem dX12_chains_37 : decode cX12_chains 37 = .ok (.aload_n 0, 1) := by decide +kernel
theorem dX12_chains_38 : decode cX12_chains 38 = .ok (.iload_n 3, 1) := by decide +kernel
theorem dX12_chains_39 : decode cX12_chains 39 = .ok (.invokevirtual 241, 3) := by decide +kernel
theorem dX12_chains_42 : decode cX12_chains 42 = .ok (.istore 4, 2) := by decide +kernel
theorem dX12_chains_44 : decode cX12_chains 44 = .ok (.iload_n 2, 1) := by decide +kernel
theorem dX12_chains_45 : decode cX12_chains 45 = .ok (.iload 4, 2) := by decide +kernel
theorem dX12_chains_47 : decode cX12_chains 47 = .ok (.ifCond .eq 18, 3) := by decide +kernel
theorem dX12_chains_50 : decode cX12_chains 50 = .ok (.iload 4, 2) := by decide +kernel
theorem dX12_chains_52 : decode cX12_chains 52 = .ok (.iconst 1, 1) := by decide +kernel
theorem dX12_chains_53 : decode cX12_chains 53 = .ok (.iload_n 3, 1) := by decide +kernel
theorem dX12_chains_54 : decode cX12_chains 54 = .ok (.ishl, 1) := by decide +kernel
theorem dX12_chains_55 : decode cX12_chains 55 = .ok (.iconst 1, 1) := by decide +kernel
theorem dX12_chains_56 : decode cX12_chains 56 = .ok (.isub, 1) := by decide +kernel
theorem dX12_chains_57 : decode cX12_chains 57 = .ok (.iand, 1) := by decide +kernel
theorem dX12_chains_58 : decode cX12_chains 58 = .ok (.ifCond .ne 7, 3) := by decide +kernel
theorem dX12_chains_61 : decode cX12_chains 61 = .ok (.iconst 1, 1) := by decide +kernel
theorem dX12_chains_62 : decode cX12_chains 62 = .ok (.goto 4, 3) := by decide +kernel
theorem dX12_chains_65 : decode cX12_chains 65 = .ok (.iconst 0, 1) := by decide +kernel
theorem dX12_chains_66 : decode cX12_chains 66 = .ok (.iadd, 1) := by decide +kernel
theorem dX12_chains_67 : decode cX12_chains 67 = .ok (.istore_n 2, 1) := by decide +kernel
theorem dX12_chains_68 : decode cX12_chains 68 = .ok (.iinc 3 1, 3) := by decide +kernel
theorem dX12_chains_71 : decode cX12_chains 71 = .ok (.goto (-44), 3) := by decide +kernel
theorem dX12_chains_74 : decode cX12_chains 74 = .ok (.iload_n 2, 1) := by decide +kernel
theorem dX12_chains_75 : decode cX12_chains 75 = .ok (.ireturn, 1) := by decide +kernel
theorem dX12_yearsOf_0 : decode cX12_yearsOf 0 = .ok (.aload_n 0, 1) := by decide +kernel
theorem dX12_yearsOf_1 : decode cX12_yearsOf 1 = .ok (.getfield 9, 3) := by decide +kernel
theorem dX12_yearsOf_4 : decode cX12_yearsOf 4 = .ok (.iconst 0, 1) := by decide +kernel
theorem dX12_yearsOf_5 : decode cX12_yearsOf 5 = .ok (.iaload, 1) := by decide +kernel
theorem dX12_yearsOf_6 : decode cX12_yearsOf 6 = .ok (.aload_n 0, 1) := by decide +kernel
theorem dX12_yearsOf_7 : decode cX12_yearsOf 7 = .ok (.getfield 9, 3) := by decide +kernel
theorem dX12_yearsOf_10 : decode cX12_yearsOf 10 = .ok (.iconst 1, 1) := by decide +kernel
theorem dX12_yearsOf_11 : decode cX12_yearsOf 11 = .ok (.iaload, 1) := by decide +kernel
theorem dX12_yearsOf_12 : decode cX12_yearsOf 12 = .ok (.isub, 1) := by decide +kernel
theorem dX12_yearsOf_13 : decode cX12_yearsOf 13 = .ok (.istore_n 2, 1) := by decide +kernel
theorem dX12_yearsOf_14 : decode cX12_yearsOf 14 = .ok (.iload_n 2, 1) := by decide +kernel
theorem dX12_yearsOf_15 : decode cX12_yearsOf 15 = .ok (.iload_n 1, 1) := by decide +kernel
theorem dX12_yearsOf_16 : decode cX12_yearsOf 16 = .ok (.if_icmp .ge 7, 3) := by decide +kernel
theorem dX12_yearsOf_19 : decode cX12_yearsOf 19 = .ok (.iload_n 2, 1) := by decide +kernel
theorem dX12_yearsOf_20 : decode cX12_yearsOf 20 = .ok (.goto 4, 3) := by decide +kernel
theorem dX12_yearsOf_23 : decode cX12_yearsOf 23 = .ok (.iload_n 1, 1) := by decide +kernel
theorem dX12_yearsOf_24 : decode cX12_yearsOf 24 = .ok (.ireturn, 1) := by decide +kernel
theorem dX12_plansOf_0 : decode cX12_plansOf 0 = .ok (.iconst 1, 1) := by decide +kernel
theorem dX12_plansOf_1 : decode cX12_plansOf 1 = .ok (.istore_n 2, 1) := by decide +kernel
theorem dX12_plansOf_2 : decode cX12_plansOf 2 = .ok (.iconst 0, 1) := by decide +kernel
theorem dX12_plansOf_3 : decode cX12_plansOf 3 = .ok (.istore_n 3, 1) := by decide +kernel
theorem dX12_plansOf_4 : decode cX12_plansOf 4 = .ok (.iload_n 3, 1) := by decide +kernel
theorem dX12_plansOf_5 : decode cX12_plansOf 5 = .ok (.aload_n 0, 1) := by decide +kernel
theorem dX12_plansOf_6 : decode cX12_plansOf 6 = .ok (.iload_n 1, 1) := by decide +kernel
theorem dX12_plansOf_7 : decode cX12_plansOf 7 = .ok (.invokevirtual 244, 3) := by decide +kernel
theorem dX12_plansOf_10 : decode cX12_plansOf 10 = .ok (.if_icmp .ge 20, 3) := by decide +kernel
theorem dX12_plansOf_13 : decode cX12_plansOf 13 = .ok (.iload_n 2, 1) := by decide +kernel
theorem dX12_plansOf_14 : decode cX12_plansOf 14 = .ok (.aload_n 0, 1) := by decide +kernel
theorem dX12_plansOf_15 : decode cX12_plansOf 15 = .ok (.getfield 9, 3) := by decide +kernel
theorem dX12_plansOf_18 : decode cX12_plansOf 18 = .ok (.iconst 4, 1) := by decide +kernel
theorem dX12_plansOf_19 : decode cX12_plansOf 19 = .ok (.iaload, 1) := by decide +kernel
theorem dX12_plansOf_20 : decode cX12_plansOf 20 = .ok (.iconst 1, 1) := by decide +kernel
theorem dX12_plansOf_21 : decode cX12_plansOf 21 = .ok (.iadd, 1) := by decide +kernel
theorem dX12_plansOf_22 : decode cX12_plansOf 22 = .ok (.imul, 1) := by decide +kernel
theorem dX12_plansOf_23 : decode cX12_plansOf 23 = .ok (.istore_n 2, 1) := by decide +kernel
theorem dX12_plansOf_24 : decode cX12_plansOf 24 = .ok (.iinc 3 1, 3) := by decide +kernel
theorem dX12_plansOf_27 : decode cX12_plansOf 27 = .ok (.goto (-23), 3) := by decide +kernel
theorem dX12_plansOf_30 : decode cX12_plansOf 30 = .ok (.iload_n 2, 1) := by decide +kernel
theorem dX12_plansOf_31 : decode cX12_plansOf 31 = .ok (.ireturn, 1) := by decide +kernel
theorem dX12_digit_0 : decode cX12_digit 0 = .ok (.iload_n 0, 1) := by decide +kernel
theorem dX12_digit_1 : decode cX12_digit 1 = .ok (.istore 4, 2) := by decide +kernel
theorem dX12_digit_3 : decode cX12_digit 3 = .ok (.iload_n 2, 1) := by decide +kernel
theorem dX12_digit_4 : decode cX12_digit 4 = .ok (.iconst 1, 1) := by decide +kernel
theorem dX12_digit_5 : decode cX12_digit 5 = .ok (.iadd, 1) := by decide +kernel
theorem dX12_digit_6 : decode cX12_digit 6 = .ok (.istore 5, 2) := by decide +kernel
theorem dX12_digit_8 : decode cX12_digit 8 = .ok (.iload 5, 2) := by decide +kernel
theorem dX12_digit_10 : decode cX12_digit 10 = .ok (.iload_n 3, 1) := by decide +kernel
theorem dX12_digit_11 : decode cX12_digit 11 = .ok (.if_icmp .ge 15, 3) := by decide +kernel
theorem dX12_digit_14 : decode cX12_digit 14 = .ok (.iload 4, 2) := by decide +kernel
theorem dX12_digit_16 : decode cX12_digit 16 = .ok (.iload_n 1, 1) := by decide +kernel
theorem dX12_digit_17 : decode cX12_digit 17 = .ok (.idiv, 1) := by decide +kernel
theorem dX12_digit_18 : decode cX12_digit 18 = .ok (.istore 4, 2) := by decide +kernel
theorem dX12_digit_20 : decode cX12_digit 20 = .ok (.iinc 5 1, 3) := by decide +kernel
theorem dX12_digit_23 : decode cX12_digit 23 = .ok (.goto (-15), 3) := by decide +kernel
theorem dX12_digit_26 : decode cX12_digit 26 = .ok (.iload 4, 2) := by decide +kernel
theorem dX12_digit_28 : decode cX12_digit 28 = .ok (.iload_n 1, 1) := by decide +kernel
theorem dX12_digit_29 : decode cX12_digit 29 = .ok (.irem, 1) := by decide +kernel
theorem dX12_digit_30 : decode cX12_digit 30 = .ok (.ireturn, 1) := by decide +kernel
theorem dX12_worthOf_0 : decode cX12_worthOf 0 = .ok (.aload_n 0, 1) := by decide +kernel
theorem dX12_worthOf_1 : decode cX12_worthOf 1 = .ok (.getfield 9, 3) := by decide +kernel
theorem dX12_worthOf_4 : decode cX12_worthOf 4 = .ok (.iconst 4, 1) := by decide +kernel
theorem dX12_worthOf_5 : decode cX12_worthOf 5 = .ok (.iaload, 1) := by decide +kernel
theorem dX12_worthOf_6 : decode cX12_worthOf 6 = .ok (.iconst 1, 1) := by decide +kernel
theorem dX12_worthOf_7 : decode cX12_worthOf 7 = .ok (.iadd, 1) := by decide +kernel
theorem dX12_worthOf_8 : decode cX12_worthOf 8 = .ok (.istore_n 3, 1) := by decide +kernel
theorem dX12_worthOf_9 : decode cX12_worthOf 9 = .ok (.iconst 0, 1) := by decide +kernel
theorem dX12_worthOf_10 : decode cX12_worthOf 10 = .ok (.istore 4, 2) := by decide +kernel
theorem dX12_worthOf_12 : decode cX12_worthOf 12 = .ok (.iconst 0, 1) := by decide +kernel
theorem dX12_worthOf_13 : decode cX12_worthOf 13 = .ok (.istore 5, 2) := by decide +kernel
theorem dX12_worthOf_15 : decode cX12_worthOf 15 = .ok (.iload 5, 2) := by decide +kernel
theorem dX12_worthOf_17 : decode cX12_worthOf 17 = .ok (.iload_n 2, 1) := by decide +kernel
theorem dX12_worthOf_18 : decode cX12_worthOf 18 = .ok (.if_icmp .ge 28, 3) := by decide +kernel
theorem dX12_worthOf_21 : decode cX12_worthOf 21 = .ok (.iload 4, 2) := by decide +kernel
theorem dX12_worthOf_23 : decode cX12_worthOf 23 = .ok (.aload_n 0, 1) := by decide +kernel
theorem dX12_worthOf_24 : decode cX12_worthOf 24 = .ok (.iload_n 1, 1) := by decide +kernel
theorem dX12_worthOf_25 : decode cX12_worthOf 25 = .ok (.iload_n 3, 1) := by decide +kernel
theorem dX12_worthOf_26 : decode cX12_worthOf 26 = .ok (.iload 5, 2) := by decide +kernel
theorem dX12_worthOf_28 : decode cX12_worthOf 28 = .ok (.iload_n 2, 1) := by decide +kernel
theorem dX12_worthOf_29 : decode cX12_worthOf 29 = .ok (.invokestatic 247, 3) := by decide +kernel
theorem dX12_worthOf_32 : decode cX12_worthOf 32 = .ok (.iconst 1, 1) := by decide +kernel
theorem dX12_worthOf_33 : decode cX12_worthOf 33 = .ok (.isub, 1) := by decide +kernel
theorem dX12_worthOf_34 : decode cX12_worthOf 34 = .ok (.invokevirtual 226, 3) := by decide +kernel
theorem dX12_worthOf_37 : decode cX12_worthOf 37 = .ok (.iadd, 1) := by decide +kernel
theorem dX12_worthOf_38 : decode cX12_worthOf 38 = .ok (.istore 4, 2) := by decide +kernel
theorem dX12_worthOf_40 : decode cX12_worthOf 40 = .ok (.iinc 5 1, 3) := by decide +kernel
theorem dX12_worthOf_43 : decode cX12_worthOf 43 = .ok (.goto (-28), 3) := by decide +kernel
theorem dX12_worthOf_46 : decode cX12_worthOf 46 = .ok (.aload_n 0, 1) := by decide +kernel
theorem dX12_worthOf_47 : decode cX12_worthOf 47 = .ok (.aload_n 0, 1) := by decide +kernel
theorem dX12_worthOf_48 : decode cX12_worthOf 48 = .ok (.invokevirtual 125, 3) := by decide +kernel
theorem dX12_worthOf_51 : decode cX12_worthOf 51 = .ok (.putfield 250, 3) := by decide +kernel
theorem dX12_worthOf_54 : decode cX12_worthOf 54 = .ok (.aload_n 0, 1) := by decide +kernel
theorem dX12_worthOf_55 : decode cX12_worthOf 55 = .ok (.invokevirtual 202, 3) := by decide +kernel
theorem dX12_worthOf_58 : decode cX12_worthOf 58 = .ok (.iload 4, 2) := by decide +kernel
theorem dX12_worthOf_60 : decode cX12_worthOf 60 = .ok (.ireturn, 1) := by decide +kernel
theorem dX12_findBest_0 : decode cX12_findBest 0 = .ok (.aload_n 0, 1) := by decide +kernel
theorem dX12_findBest_1 : decode cX12_findBest 1 = .ok (.iload_n 1, 1) := by decide +kernel
theorem dX12_findBest_2 : decode cX12_findBest 2 = .ok (.invokevirtual 244, 3) := by decide +kernel
theorem dX12_findBest_5 : decode cX12_findBest 5 = .ok (.istore_n 2, 1) := by decide +kernel
theorem dX12_findBest_6 : decode cX12_findBest 6 = .ok (.aload_n 0, 1) := by decide +kernel
theorem dX12_findBest_7 : decode cX12_findBest 7 = .ok (.iload_n 1, 1) := by decide +kernel
theorem dX12_findBest_8 : decode cX12_findBest 8 = .ok (.invokevirtual 253, 3) := by decide +kernel
theorem dX12_findBest_11 : decode cX12_findBest 11 = .ok (.istore_n 3, 1) := by decide +kernel
theorem dX12_findBest_12 : decode cX12_findBest 12 = .ok (.aload_n 0, 1) := by decide +kernel
theorem dX12_findBest_13 : decode cX12_findBest 13 = .ok (.invokevirtual 196, 3) := by decide +kernel
theorem dX12_findBest_16 : decode cX12_findBest 16 = .ok (.aload_n 0, 1) := by decide +kernel
theorem dX12_findBest_17 : decode cX12_findBest 17 = .ok (.iconst (-1), 1) := by decide +kernel
theorem dX12_findBest_18 : decode cX12_findBest 18 = .ok (.putfield 256, 3) := by decide +kernel
theorem dX12_findBest_21 : decode cX12_findBest 21 = .ok (.iconst 0, 1) := by decide +kernel
theorem dX12_findBest_22 : decode cX12_findBest 22 = .ok (.istore 4, 2) := by decide +kernel
theorem dX12_findBest_24 : decode cX12_findBest 24 = .ok (.iload 4, 2) := by decide +kernel
theorem dX12_findBest_26 : decode cX12_findBest 26 = .ok (.iload_n 3, 1) := by decide +kernel
theorem dX12_findBest_27 : decode cX12_findBest 27 = .ok (.if_icmp .ge 101, 3) := by decide +kernel
theorem dX12_findBest_30 : decode cX12_findBest 30 = .ok (.aload_n 0, 1) := by decide +kernel
theorem dX12_findBest_31 : decode cX12_findBest 31 = .ok (.iload 4, 2) := by decide +kernel
theorem dX12_findBest_33 : decode cX12_findBest 33 = .ok (.iload_n 2, 1) := by decide +kernel
theorem dX12_findBest_34 : decode cX12_findBest 34 = .ok (.invokevirtual 259, 3) := by decide +kernel
theorem dX12_findBest_37 : decode cX12_findBest 37 = .ok (.istore 5, 2) := by decide +kernel
theorem dX12_findBest_39 : decode cX12_findBest 39 = .ok (.aload_n 0, 1) := by decide +kernel
theorem dX12_findBest_40 : decode cX12_findBest 40 = .ok (.iload 5, 2) := by decide +kernel
theorem dX12_findBest_42 : decode cX12_findBest 42 = .ok (.aload_n 0, 1) := by decide +kernel
theorem dX12_findBest_43 : decode cX12_findBest 43 = .ok (.getfield 256, 3) := by decide +kernel
theorem dX12_findBest_46 : decode cX12_findBest 46 = .ok (.if_icmp .le 7, 3) := by decide +kernel
theorem dX12_findBest_49 : decode cX12_findBest 49 = .ok (.iconst 1, 1) := by decide +kernel
theorem dX12_findBest_50 : decode cX12_findBest 50 = .ok (.goto 25, 3) := by decide +kernel
theorem dX12_findBest_53 : decode cX12_findBest 53 = .ok (.iload 5, 2) := by decide +kernel
theorem dX12_findBest_55 : decode cX12_findBest 55 = .ok (.aload_n 0, 1) := by decide +kernel
theorem dX12_findBest_56 : decode cX12_findBest 56 = .ok (.getfield 256, 3) := by decide +kernel
theorem dX12_findBest_59 : decode cX12_findBest 59 = .ok (.if_icmp .ne 12, 3) := by decide +kernel
theorem dX12_findBest_62 : decode cX12_findBest 62 = .ok (.aload_n 0, 1) := by decide +kernel
theorem dX12_findBest_63 : decode cX12_findBest 63 = .ok (.getfield 262, 3) := by decide +kernel
theorem dX12_findBest_66 : decode cX12_findBest 66 = .ok (.iconst 1, 1) := by decide +kernel
theorem dX12_findBest_67 : decode cX12_findBest 67 = .ok (.iadd, 1) := by decide +kernel
theorem dX12_findBest_68 : decode cX12_findBest 68 = .ok (.goto 7, 3) := by decide +kernel
theorem dX12_findBest_71 : decode cX12_findBest 71 = .ok (.aload_n 0, 1) := by decide +kernel
theorem dX12_findBest_72 : decode cX12_findBest 72 = .ok (.getfield 262, 3) := by decide +kernel
theorem dX12_findBest_75 : decode cX12_findBest 75 = .ok (.putfield 262, 3) := by decide +kernel
theorem dX12_findBest_78 : decode cX12_findBest 78 = .ok (.aload_n 0, 1) := by decide +kernel
theorem dX12_findBest_79 : decode cX12_findBest 79 = .ok (.iload 5, 2) := by decide +kernel
theorem dX12_findBest_81 : decode cX12_findBest 81 = .ok (.aload_n 0, 1) := by decide +kernel
theorem dX12_findBest_82 : decode cX12_findBest 82 = .ok (.getfield 256, 3) := by decide +kernel
theorem dX12_findBest_85 : decode cX12_findBest 85 = .ok (.if_icmp .le 8, 3) := by decide +kernel
theorem dX12_findBest_88 : decode cX12_findBest 88 = .ok (.iload 4, 2) := by decide +kernel
theorem dX12_findBest_90 : decode cX12_findBest 90 = .ok (.goto 7, 3) := by decide +kernel
theorem dX12_findBest_93 : decode cX12_findBest 93 = .ok (.aload_n 0, 1) := by decide +kernel
theorem dX12_findBest_94 : decode cX12_findBest 94 = .ok (.getfield 265, 3) := by decide +kernel
theorem dX12_findBest_97 : decode cX12_findBest 97 = .ok (.putfield 265, 3) := by decide +kernel
theorem dX12_findBest_100 : decode cX12_findBest 100 = .ok (.aload_n 0, 1) := by decide +kernel
theorem dX12_findBest_101 : decode cX12_findBest 101 = .ok (.iload 5, 2) := by decide +kernel
theorem dX12_findBest_103 : decode cX12_findBest 103 = .ok (.aload_n 0, 1) := by decide +kernel
theorem dX12_findBest_104 : decode cX12_findBest 104 = .ok (.getfield 256, 3) := by decide +kernel
theorem dX12_findBest_107 : decode cX12_findBest 107 = .ok (.if_icmp .le 8, 3) := by decide +kernel
theorem dX12_findBest_110 : decode cX12_findBest 110 = .ok (.iload 5, 2) := by decide +kernel
theorem dX12_findBest_112 : decode cX12_findBest 112 = .ok (.goto 7, 3) := by decide +kernel
theorem dX12_findBest_115 : decode cX12_findBest 115 = .ok (.aload_n 0, 1) := by decide +kernel
theorem dX12_findBest_116 : decode cX12_findBest 116 = .ok (.getfield 256, 3) := by decide +kernel
theorem dX12_findBest_119 : decode cX12_findBest 119 = .ok (.putfield 256, 3) := by decide +kernel
theorem dX12_findBest_122 : decode cX12_findBest 122 = .ok (.iinc 4 1, 3) := by decide +kernel
theorem dX12_findBest_125 : decode cX12_findBest 125 = .ok (.goto (-101), 3) := by decide +kernel
theorem dX12_findBest_128 : decode cX12_findBest 128 = .ok (.return_, 1) := by decide +kernel
theorem dX12_best_0 : decode cX12_best 0 = .ok (.iload_n 1, 1) := by decide +kernel
theorem dX12_best_1 : decode cX12_best 1 = .ok (.iconst 0, 1) := by decide +kernel
theorem dX12_best_2 : decode cX12_best 2 = .ok (.iconst 4, 1) := by decide +kernel
theorem dX12_best_3 : decode cX12_best 3 = .ok (.invokestatic 61, 3) := by decide +kernel
theorem dX12_best_6 : decode cX12_best 6 = .ok (.ifCond .ne 5, 3) := by decide +kernel
theorem dX12_best_9 : decode cX12_best 9 = .ok (.iconst (-1), 1) := by decide +kernel
theorem dX12_best_10 : decode cX12_best 10 = .ok (.ireturn, 1) := by decide +kernel
theorem dX12_best_11 : decode cX12_best 11 = .ok (.aload_n 0, 1) := by decide +kernel
theorem dX12_best_12 : decode cX12_best 12 = .ok (.iload_n 1, 1) := by decide +kernel
theorem dX12_best_13 : decode cX12_best 13 = .ok (.invokevirtual 268, 3) := by decide +kernel
theorem dX12_best_16 : decode cX12_best 16 = .ok (.aload_n 0, 1) := by decide +kernel
theorem dX12_best_17 : decode cX12_best 17 = .ok (.getfield 256, 3) := by decide +kernel
theorem dX12_best_20 : decode cX12_best 20 = .ok (.ireturn, 1) := by decide +kernel
theorem dX12_ith_0 : decode cX12_ith 0 = .ok (.iload_n 1, 1) := by decide +kernel
theorem dX12_ith_1 : decode cX12_ith 1 = .ok (.iconst 0, 1) := by decide +kernel
theorem dX12_ith_2 : decode cX12_ith 2 = .ok (.iconst 4, 1) := by decide +kernel
theorem dX12_ith_3 : decode cX12_ith 3 = .ok (.invokestatic 61, 3) := by decide +kernel
theorem dX12_ith_6 : decode cX12_ith 6 = .ok (.ifCond .eq 12, 3) := by decide +kernel
theorem dX12_ith_9 : decode cX12_ith 9 = .ok (.iload_n 2, 1) := by decide +kernel
theorem dX12_ith_10 : decode cX12_ith 10 = .ok (.iconst 0, 1) := by decide +kernel
theorem dX12_ith_11 : decode cX12_ith 11 = .ok (.iconst 3, 1) := by decide +kernel
theorem dX12_ith_12 : decode cX12_ith 12 = .ok (.invokestatic 61, 3) := by decide +kernel
theorem dX12_ith_15 : decode cX12_ith 15 = .ok (.ifCond .ne 5, 3) := by decide +kernel
theorem dX12_ith_18 : decode cX12_ith 18 = .ok (.iconst (-1), 1) := by decide +kernel
theorem dX12_ith_19 : decode cX12_ith 19 = .ok (.ireturn, 1) := by decide +kernel
theorem dX12_ith_20 : decode cX12_ith 20 = .ok (.aload_n 0, 1) := by decide +kernel
theorem dX12_ith_21 : decode cX12_ith 21 = .ok (.iload_n 1, 1) := by decide +kernel
theorem dX12_ith_22 : decode cX12_ith 22 = .ok (.invokevirtual 244, 3) := by decide +kernel
theorem dX12_ith_25 : decode cX12_ith 25 = .ok (.istore_n 3, 1) := by decide +kernel
theorem dX12_ith_26 : decode cX12_ith 26 = .ok (.iload_n 2, 1) := by decide +kernel
theorem dX12_ith_27 : decode cX12_ith 27 = .ok (.iload_n 3, 1) := by decide +kernel
theorem dX12_ith_28 : decode cX12_ith 28 = .ok (.if_icmp .lt 6, 3) := by decide +kernel
theorem dX12_ith_31 : decode cX12_ith 31 = .ok (.bipush (-3), 2) := by decide +kernel
theorem dX12_ith_33 : decode cX12_ith 33 = .ok (.ireturn, 1) := by decide +kernel
theorem dX12_ith_34 : decode cX12_ith 34 = .ok (.aload_n 0, 1) := by decide +kernel
theorem dX12_ith_35 : decode cX12_ith 35 = .ok (.iload_n 1, 1) := by decide +kernel
theorem dX12_ith_36 : decode cX12_ith 36 = .ok (.invokevirtual 268, 3) := by decide +kernel
theorem dX12_ith_39 : decode cX12_ith 39 = .ok (.aload_n 0, 1) := by decide +kernel
theorem dX12_ith_40 : decode cX12_ith 40 = .ok (.getfield 265, 3) := by decide +kernel
theorem dX12_ith_43 : decode cX12_ith 43 = .ok (.aload_n 0, 1) := by decide +kernel
theorem dX12_ith_44 : decode cX12_ith 44 = .ok (.getfield 9, 3) := by decide +kernel
theorem dX12_ith_47 : decode cX12_ith 47 = .ok (.iconst 4, 1) := by decide +kernel
theorem dX12_ith_48 : decode cX12_ith 48 = .ok (.iaload, 1) := by decide +kernel
theorem dX12_ith_49 : decode cX12_ith 49 = .ok (.iconst 1, 1) := by decide +kernel
theorem dX12_ith_50 : decode cX12_ith 50 = .ok (.iadd, 1) := by decide +kernel
theorem dX12_ith_51 : decode cX12_ith 51 = .ok (.iload_n 2, 1) := by decide +kernel
theorem dX12_ith_52 : decode cX12_ith 52 = .ok (.iload_n 3, 1) := by decide +kernel
theorem dX12_ith_53 : decode cX12_ith 53 = .ok (.invokestatic 247, 3) := by decide +kernel
theorem dX12_ith_56 : decode cX12_ith 56 = .ok (.ireturn, 1) := by decide +kernel
theorem dX12_ways_0 : decode cX12_ways 0 = .ok (.iload_n 1, 1) := by decide +kernel
theorem dX12_ways_1 : decode cX12_ways 1 = .ok (.iconst 0, 1) := by decide +kernel
theorem dX12_ways_2 : decode cX12_ways 2 = .ok (.iconst 4, 1) := by decide +kernel
theorem dX12_ways_3 : decode cX12_ways 3 = .ok (.invokestatic 61, 3) := by decide +kernel
theorem dX12_ways_6 : decode cX12_ways 6 = .ok (.ifCond .ne 5, 3) := by decide +kernel
theorem dX12_ways_9 : decode cX12_ways 9 = .ok (.iconst (-1), 1) := by decide +kernel
theorem dX12_ways_10 : decode cX12_ways 10 = .ok (.ireturn, 1) := by decide +kernel
theorem dX12_ways_11 : decode cX12_ways 11 = .ok (.aload_n 0, 1) := by decide +kernel
theorem dX12_ways_12 : decode cX12_ways 12 = .ok (.iload_n 1, 1) := by decide +kernel
theorem dX12_ways_13 : decode cX12_ways 13 = .ok (.invokevirtual 268, 3) := by decide +kernel
theorem dX12_ways_16 : decode cX12_ways 16 = .ok (.aload_n 0, 1) := by decide +kernel
theorem dX12_ways_17 : decode cX12_ways 17 = .ok (.getfield 262, 3) := by decide +kernel
theorem dX12_ways_20 : decode cX12_ways 20 = .ok (.ireturn, 1) := by decide +kernel
theorem dX12_actsIn_0 : decode cX12_actsIn 0 = .ok (.iconst 0, 1) := by decide +kernel
theorem dX12_actsIn_1 : decode cX12_actsIn 1 = .ok (.istore_n 3, 1) := by decide +kernel
theorem dX12_actsIn_2 : decode cX12_actsIn 2 = .ok (.iconst 0, 1) := by decide +kernel
theorem dX12_actsIn_3 : decode cX12_actsIn 3 = .ok (.istore 4, 2) := by decide +kernel
theorem dX12_actsIn_5 : decode cX12_actsIn 5 = .ok (.iload 4, 2) := by decide +kernel
theorem dX12_actsIn_7 : decode cX12_actsIn 7 = .ok (.iload_n 2, 1) := by decide +kernel
theorem dX12_actsIn_8 : decode cX12_actsIn 8 = .ok (.if_icmp .ge 35, 3) := by decide +kernel
theorem dX12_actsIn_11 : decode cX12_actsIn 11 = .ok (.iload_n 3, 1) := by decide +kernel
theorem dX12_actsIn_12 : decode cX12_actsIn 12 = .ok (.iload_n 1, 1) := by decide +kernel
theorem dX12_actsIn_13 : decode cX12_actsIn 13 = .ok (.aload_n 0, 1) := by decide +kernel
theorem dX12_actsIn_14 : decode cX12_actsIn 14 = .ok (.getfield 9, 3) := by decide +kernel
theorem dX12_actsIn_17 : decode cX12_actsIn 17 = .ok (.iconst 4, 1) := by decide +kernel
theorem dX12_actsIn_18 : decode cX12_actsIn 18 = .ok (.iaload, 1) := by decide +kernel
theorem dX12_actsIn_19 : decode cX12_actsIn 19 = .ok (.iconst 1, 1) := by decide +kernel
theorem dX12_actsIn_20 : decode cX12_actsIn 20 = .ok (.iadd, 1) := by decide +kernel
theorem dX12_actsIn_21 : decode cX12_actsIn 21 = .ok (.iload 4, 2) := by decide +kernel
theorem dX12_actsIn_23 : decode cX12_actsIn 23 = .ok (.iload_n 2, 1) := by decide +kernel
theorem dX12_actsIn_24 : decode cX12_actsIn 24 = .ok (.invokestatic 247, 3) := by decide +kernel
theorem dX12_actsIn_27 : decode cX12_actsIn 27 = .ok (.ifCond .le 7, 3) := by decide +kernel
theorem dX12_actsIn_30 : decode cX12_actsIn 30 = .ok (.iconst 1, 1) := by decide +kernel
theorem dX12_actsIn_31 : decode cX12_actsIn 31 = .ok (.goto 4, 3) := by decide +kernel
theorem dX12_actsIn_34 : decode cX12_actsIn 34 = .ok (.iconst 0, 1) := by decide +kernel
theorem dX12_actsIn_35 : decode cX12_actsIn 35 = .ok (.iadd, 1) := by decide +kernel
theorem dX12_actsIn_36 : decode cX12_actsIn 36 = .ok (.istore_n 3, 1) := by decide +kernel
theorem dX12_actsIn_37 : decode cX12_actsIn 37 = .ok (.iinc 4 1, 3) := by decide +kernel
theorem dX12_actsIn_40 : decode cX12_actsIn 40 = .ok (.goto (-35), 3) := by decide +kernel
theorem dX12_actsIn_43 : decode cX12_actsIn 43 = .ok (.iload_n 3, 1) := by decide +kernel
theorem dX12_actsIn_44 : decode cX12_actsIn 44 = .ok (.ireturn, 1) := by decide +kernel
theorem dX12_line_0 : decode cX12_line 0 = .ok (.iload_n 1, 1) := by decide +kernel
theorem dX12_line_1 : decode cX12_line 1 = .ok (.iconst 0, 1) := by decide +kernel
theorem dX12_line_2 : decode cX12_line 2 = .ok (.iconst 4, 1) := by decide +kernel
theorem dX12_line_3 : decode cX12_line 3 = .ok (.invokestatic 61, 3) := by decide +kernel
theorem dX12_line_6 : decode cX12_line 6 = .ok (.ifCond .eq 21, 3) := by decide +kernel
theorem dX12_line_9 : decode cX12_line 9 = .ok (.iload_n 2, 1) := by decide +kernel
theorem dX12_line_10 : decode cX12_line 10 = .ok (.iconst 0, 1) := by decide +kernel
theorem dX12_line_11 : decode cX12_line 11 = .ok (.iconst 1, 1) := by decide +kernel
theorem dX12_line_12 : decode cX12_line 12 = .ok (.aload_n 0, 1) := by decide +kernel
theorem dX12_line_13 : decode cX12_line 13 = .ok (.getfield 9, 3) := by decide +kernel
theorem dX12_line_16 : decode cX12_line 16 = .ok (.iconst 4, 1) := by decide +kernel
theorem dX12_line_17 : decode cX12_line 17 = .ok (.iaload, 1) := by decide +kernel
theorem dX12_line_18 : decode cX12_line 18 = .ok (.ishl, 1) := by decide +kernel
theorem dX12_line_19 : decode cX12_line 19 = .ok (.iconst 1, 1) := by decide +kernel
theorem dX12_line_20 : decode cX12_line 20 = .ok (.isub, 1) := by decide +kernel
theorem dX12_line_21 : decode cX12_line 21 = .ok (.invokestatic 61, 3) := by decide +kernel
theorem dX12_line_24 : decode cX12_line 24 = .ok (.ifCond .ne 5, 3) := by decide +kernel
theorem dX12_line_27 : decode cX12_line 27 = .ok (.iconst (-1), 1) := by decide +kernel
theorem dX12_line_28 : decode cX12_line 28 = .ok (.ireturn, 1) := by decide +kernel
theorem dX12_line_29 : decode cX12_line 29 = .ok (.aload_n 0, 1) := by decide +kernel
theorem dX12_line_30 : decode cX12_line 30 = .ok (.iload_n 1, 1) := by decide +kernel
theorem dX12_line_31 : decode cX12_line 31 = .ok (.invokevirtual 244, 3) := by decide +kernel
theorem dX12_line_34 : decode cX12_line 34 = .ok (.istore_n 3, 1) := by decide +kernel
theorem dX12_line_35 : decode cX12_line 35 = .ok (.aload_n 0, 1) := by decide +kernel
theorem dX12_line_36 : decode cX12_line 36 = .ok (.iload_n 1, 1) := by decide +kernel
theorem dX12_line_37 : decode cX12_line 37 = .ok (.invokevirtual 253, 3) := by decide +kernel
theorem dX12_line_40 : decode cX12_line 40 = .ok (.istore 4, 2) := by decide +kernel
theorem dX12_line_42 : decode cX12_line 42 = .ok (.aload_n 0, 1) := by decide +kernel
theorem dX12_line_43 : decode cX12_line 43 = .ok (.invokevirtual 196, 3) := by decide +kernel
theorem dX12_line_46 : decode cX12_line 46 = .ok (.bipush (-3), 2) := by decide +kernel
theorem dX12_line_48 : decode cX12_line 48 = .ok (.istore 5, 2) := by decide +kernel
theorem dX12_line_50 : decode cX12_line 50 = .ok (.iconst 0, 1) := by decide +kernel
theorem dX12_line_51 : decode cX12_line 51 = .ok (.istore 6, 2) := by decide +kernel
theorem dX12_line_53 : decode cX12_line 53 = .ok (.iload 6, 2) := by decide +kernel
theorem dX12_line_55 : decode cX12_line 55 = .ok (.iload 4, 2) := by decide +kernel
theorem dX12_line_57 : decode cX12_line 57 = .ok (.if_icmp .ge 71, 3) := by decide +kernel
theorem dX12_line_60 : decode cX12_line 60 = .ok (.aload_n 0, 1) := by decide +kernel
theorem dX12_line_61 : decode cX12_line 61 = .ok (.iload 6, 2) := by decide +kernel
theorem dX12_line_63 : decode cX12_line 63 = .ok (.iload_n 3, 1) := by decide +kernel
theorem dX12_line_64 : decode cX12_line 64 = .ok (.invokevirtual 259, 3) := by decide +kernel
theorem dX12_line_67 : decode cX12_line 67 = .ok (.istore 7, 2) := by decide +kernel
theorem dX12_line_69 : decode cX12_line 69 = .ok (.aload_n 0, 1) := by decide +kernel
theorem dX12_line_70 : decode cX12_line 70 = .ok (.iload 6, 2) := by decide +kernel
theorem dX12_line_72 : decode cX12_line 72 = .ok (.iload_n 3, 1) := by decide +kernel
theorem dX12_line_73 : decode cX12_line 73 = .ok (.invokevirtual 271, 3) := by decide +kernel
theorem dX12_line_76 : decode cX12_line 76 = .ok (.istore 8, 2) := by decide +kernel
theorem dX12_line_78 : decode cX12_line 78 = .ok (.iload_n 2, 1) := by decide +kernel
theorem dX12_line_79 : decode cX12_line 79 = .ok (.aload_n 0, 1) := by decide +kernel
theorem dX12_line_80 : decode cX12_line 80 = .ok (.getfield 250, 3) := by decide +kernel
theorem dX12_line_83 : decode cX12_line 83 = .ok (.iconst (-1), 1) := by decide +kernel
theorem dX12_line_84 : decode cX12_line 84 = .ok (.ixor, 1) := by decide +kernel
theorem dX12_line_85 : decode cX12_line 85 = .ok (.iand, 1) := by decide +kernel
theorem dX12_line_86 : decode cX12_line 86 = .ok (.ifCond .ne 19, 3) := by decide +kernel
theorem dX12_line_89 : decode cX12_line 89 = .ok (.iload 5, 2) := by decide +kernel
theorem dX12_line_91 : decode cX12_line 91 = .ok (.ifCond .lt 10, 3) := by decide +kernel
theorem dX12_line_94 : decode cX12_line 94 = .ok (.iload 8, 2) := by decide +kernel
theorem dX12_line_96 : decode cX12_line 96 = .ok (.iload 5, 2) := by decide +kernel
theorem dX12_line_98 : decode cX12_line 98 = .ok (.if_icmp .ge 7, 3) := by decide +kernel
theorem dX12_line_101 : decode cX12_line 101 = .ok (.iconst 1, 1) := by decide +kernel
theorem dX12_line_102 : decode cX12_line 102 = .ok (.goto 4, 3) := by decide +kernel
theorem dX12_line_105 : decode cX12_line 105 = .ok (.iconst 0, 1) := by decide +kernel
theorem dX12_line_106 : decode cX12_line 106 = .ok (.istore 9, 2) := by decide +kernel
theorem dX12_line_108 : decode cX12_line 108 = .ok (.iload 9, 2) := by decide +kernel
theorem dX12_line_110 : decode cX12_line 110 = .ok (.ifCond .eq 8, 3) := by decide +kernel
theorem dX12_line_113 : decode cX12_line 113 = .ok (.iload 8, 2) := by decide +kernel
theorem dX12_line_115 : decode cX12_line 115 = .ok (.goto 5, 3) := by decide +kernel
theorem dX12_line_118 : decode cX12_line 118 = .ok (.iload 5, 2) := by decide +kernel
theorem dX12_line_120 : decode cX12_line 120 = .ok (.istore 5, 2) := by decide +kernel
theorem dX12_line_122 : decode cX12_line 122 = .ok (.iinc 6 1, 3) := by decide +kernel
theorem dX12_line_125 : decode cX12_line 125 = .ok (.goto (-72), 3) := by decide +kernel
theorem dX12_line_128 : decode cX12_line 128 = .ok (.iload 5, 2) := by decide +kernel
theorem dX12_line_130 : decode cX12_line 130 = .ok (.ireturn, 1) := by decide +kernel
theorem dX12_bars_0 : decode cX12_bars 0 = .ok (.iload_n 1, 1) := by decide +kernel
theorem dX12_bars_1 : decode cX12_bars 1 = .ok (.iconst 0, 1) := by decide +kernel
theorem dX12_bars_2 : decode cX12_bars 2 = .ok (.iconst 4, 1) := by decide +kernel
theorem dX12_bars_3 : decode cX12_bars 3 = .ok (.invokestatic 61, 3) := by decide +kernel
theorem dX12_bars_6 : decode cX12_bars 6 = .ok (.ifCond .eq 21, 3) := by decide +kernel
theorem dX12_bars_9 : decode cX12_bars 9 = .ok (.iload_n 2, 1) := by decide +kernel
theorem dX12_bars_10 : decode cX12_bars 10 = .ok (.iconst 0, 1) := by decide +kernel
theorem dX12_bars_11 : decode cX12_bars 11 = .ok (.iconst 1, 1) := by decide +kernel
theorem dX12_bars_12 : decode cX12_bars 12 = .ok (.aload_n 0, 1) := by decide +kernel
theorem dX12_bars_13 : decode cX12_bars 13 = .ok (.getfield 9, 3) := by decide +kernel
theorem dX12_bars_16 : decode cX12_bars 16 = .ok (.iconst 4, 1) := by decide +kernel
theorem dX12_bars_17 : decode cX12_bars 17 = .ok (.iaload, 1) := by decide +kernel
theorem dX12_bars_18 : decode cX12_bars 18 = .ok (.ishl, 1) := by decide +kernel
theorem dX12_bars_19 : decode cX12_bars 19 = .ok (.iconst 1, 1) := by decide +kernel
theorem dX12_bars_20 : decode cX12_bars 20 = .ok (.isub, 1) := by decide +kernel
theorem dX12_bars_21 : decode cX12_bars 21 = .ok (.invokestatic 61, 3) := by decide +kernel
theorem dX12_bars_24 : decode cX12_bars 24 = .ok (.ifCond .ne 5, 3) := by decide +kernel
theorem dX12_bars_27 : decode cX12_bars 27 = .ok (.iconst (-1), 1) := by decide +kernel
theorem dX12_bars_28 : decode cX12_bars 28 = .ok (.ireturn, 1) := by decide +kernel
theorem dX12_bars_29 : decode cX12_bars 29 = .ok (.aload_n 0, 1) := by decide +kernel
theorem dX12_bars_30 : decode cX12_bars 30 = .ok (.iload_n 1, 1) := by decide +kernel
theorem dX12_bars_31 : decode cX12_bars 31 = .ok (.invokevirtual 244, 3) := by decide +kernel
theorem dX12_bars_34 : decode cX12_bars 34 = .ok (.istore_n 3, 1) := by decide +kernel
theorem dX12_bars_35 : decode cX12_bars 35 = .ok (.aload_n 0, 1) := by decide +kernel
theorem dX12_bars_36 : decode cX12_bars 36 = .ok (.iload_n 1, 1) := by decide +kernel
theorem dX12_bars_37 : decode cX12_bars 37 = .ok (.invokevirtual 253, 3) := by decide +kernel
theorem dX12_bars_40 : decode cX12_bars 40 = .ok (.istore 4, 2) := by decide +kernel
theorem dX12_bars_42 : decode cX12_bars 42 = .ok (.aload_n 0, 1) := by decide +kernel
theorem dX12_bars_43 : decode cX12_bars 43 = .ok (.invokevirtual 196, 3) := by decide +kernel
theorem dX12_bars_46 : decode cX12_bars 46 = .ok (.iconst 0, 1) := by decide +kernel
theorem dX12_bars_47 : decode cX12_bars 47 = .ok (.istore 5, 2) := by decide +kernel
theorem dX12_bars_49 : decode cX12_bars 49 = .ok (.iconst 0, 1) := by decide +kernel
theorem dX12_bars_50 : decode cX12_bars 50 = .ok (.istore 6, 2) := by decide +kernel
theorem dX12_bars_52 : decode cX12_bars 52 = .ok (.iload 6, 2) := by decide +kernel
theorem dX12_bars_54 : decode cX12_bars 54 = .ok (.iload 4, 2) := by decide +kernel
theorem dX12_bars_56 : decode cX12_bars 56 = .ok (.if_icmp .ge 27, 3) := by decide +kernel
theorem dX12_bars_59 : decode cX12_bars 59 = .ok (.aload_n 0, 1) := by decide +kernel
theorem dX12_bars_60 : decode cX12_bars 60 = .ok (.iload 6, 2) := by decide +kernel
theorem dX12_bars_62 : decode cX12_bars 62 = .ok (.iload_n 3, 1) := by decide +kernel
theorem dX12_bars_63 : decode cX12_bars 63 = .ok (.invokevirtual 259, 3) := by decide +kernel
theorem dX12_bars_66 : decode cX12_bars 66 = .ok (.istore 7, 2) := by decide +kernel
theorem dX12_bars_68 : decode cX12_bars 68 = .ok (.iload 5, 2) := by decide +kernel
theorem dX12_bars_70 : decode cX12_bars 70 = .ok (.aload_n 0, 1) := by decide +kernel
theorem dX12_bars_71 : decode cX12_bars 71 = .ok (.getfield 250, 3) := by decide +kernel
theorem dX12_bars_74 : decode cX12_bars 74 = .ok (.ior, 1) := by decide +kernel
theorem dX12_bars_75 : decode cX12_bars 75 = .ok (.istore 5, 2) := by decide +kernel
theorem dX12_bars_77 : decode cX12_bars 77 = .ok (.iinc 6 1, 3) := by decide +kernel
theorem dX12_bars_80 : decode cX12_bars 80 = .ok (.goto (-28), 3) := by decide +kernel
theorem dX12_bars_83 : decode cX12_bars 83 = .ok (.iload_n 2, 1) := by decide +kernel
theorem dX12_bars_84 : decode cX12_bars 84 = .ok (.iload 5, 2) := by decide +kernel
theorem dX12_bars_86 : decode cX12_bars 86 = .ok (.iconst (-1), 1) := by decide +kernel
theorem dX12_bars_87 : decode cX12_bars 87 = .ok (.ixor, 1) := by decide +kernel
theorem dX12_bars_88 : decode cX12_bars 88 = .ok (.iand, 1) := by decide +kernel
theorem dX12_bars_89 : decode cX12_bars 89 = .ok (.istore 6, 2) := by decide +kernel
theorem dX12_bars_91 : decode cX12_bars 91 = .ok (.iconst 0, 1) := by decide +kernel
theorem dX12_bars_92 : decode cX12_bars 92 = .ok (.istore 7, 2) := by decide +kernel
theorem dX12_bars_94 : decode cX12_bars 94 = .ok (.iload 7, 2) := by decide +kernel
theorem dX12_bars_96 : decode cX12_bars 96 = .ok (.bipush 6, 2) := by decide +kernel
theorem dX12_bars_98 : decode cX12_bars 98 = .ok (.if_icmp .ge 23, 3) := by decide +kernel
theorem dX12_bars_101 : decode cX12_bars 101 = .ok (.iload 6, 2) := by decide +kernel
theorem dX12_bars_103 : decode cX12_bars 103 = .ok (.iload 7, 2) := by decide +kernel
theorem dX12_bars_105 : decode cX12_bars 105 = .ok (.ishr, 1) := by decide +kernel
theorem dX12_bars_106 : decode cX12_bars 106 = .ok (.iconst 1, 1) := by decide +kernel
theorem dX12_bars_107 : decode cX12_bars 107 = .ok (.iand, 1) := by decide +kernel
theorem dX12_bars_108 : decode cX12_bars 108 = .ok (.iconst 1, 1) := by decide +kernel
theorem dX12_bars_109 : decode cX12_bars 109 = .ok (.if_icmp .ne 6, 3) := by decide +kernel
theorem dX12_bars_112 : decode cX12_bars 112 = .ok (.iload 7, 2) := by decide +kernel
theorem dX12_bars_114 : decode cX12_bars 114 = .ok (.ireturn, 1) := by decide +kernel
theorem dX12_bars_115 : decode cX12_bars 115 = .ok (.iinc 7 1, 3) := by decide +kernel
theorem dX12_bars_118 : decode cX12_bars 118 = .ok (.goto (-24), 3) := by decide +kernel
theorem dX12_bars_121 : decode cX12_bars 121 = .ok (.bipush (-3), 2) := by decide +kernel
theorem dX12_bars_123 : decode cX12_bars 123 = .ok (.ireturn, 1) := by decide +kernel
theorem dX12_gameOn_0 : decode cX12_gameOn 0 = .ok (.iload_n 1, 1) := by decide +kernel
theorem dX12_gameOn_1 : decode cX12_gameOn 1 = .ok (.ifCond .eq 10, 3) := by decide +kernel
theorem dX12_gameOn_4 : decode cX12_gameOn 4 = .ok (.aload_n 0, 1) := by decide +kernel
theorem dX12_gameOn_5 : decode cX12_gameOn 5 = .ok (.invokevirtual 121, 3) := by decide +kernel
theorem dX12_gameOn_8 : decode cX12_gameOn 8 = .ok (.ifCond .eq 5, 3) := by decide +kernel
theorem dX12_gameOn_11 : decode cX12_gameOn 11 = .ok (.iconst 0, 1) := by decide +kernel
theorem dX12_gameOn_12 : decode cX12_gameOn 12 = .ok (.ireturn, 1) := by decide +kernel
theorem dX12_gameOn_13 : decode cX12_gameOn 13 = .ok (.iconst 0, 1) := by decide +kernel
theorem dX12_gameOn_14 : decode cX12_gameOn 14 = .ok (.istore_n 3, 1) := by decide +kernel
theorem dX12_gameOn_15 : decode cX12_gameOn 15 = .ok (.iload_n 3, 1) := by decide +kernel
theorem dX12_gameOn_16 : decode cX12_gameOn 16 = .ok (.sipush 621, 3) := by decide +kernel
theorem dX12_gameOn_19 : decode cX12_gameOn 19 = .ok (.if_icmp .ge 29, 3) := by decide +kernel
theorem dX12_gameOn_22 : decode cX12_gameOn 22 = .ok (.aload_n 0, 1) := by decide +kernel
theorem dX12_gameOn_23 : decode cX12_gameOn 23 = .ok (.getfield 26, 3) := by decide +kernel
theorem dX12_gameOn_26 : decode cX12_gameOn 26 = .ok (.sipush 621, 3) := by decide +kernel
theorem dX12_gameOn_29 : decode cX12_gameOn 29 = .ok (.iload_n 1, 1) := by decide +kernel
theorem dX12_gameOn_30 : decode cX12_gameOn 30 = .ok (.iconst 1, 1) := by decide +kernel
theorem dX12_gameOn_31 : decode cX12_gameOn 31 = .ok (.isub, 1) := by decide +kernel
theorem dX12_gameOn_32 : decode cX12_gameOn 32 = .ok (.imul, 1) := by decide +kernel
theorem dX12_gameOn_33 : decode cX12_gameOn 33 = .ok (.iload_n 3, 1) := by decide +kernel
theorem dX12_gameOn_34 : decode cX12_gameOn 34 = .ok (.iadd, 1) := by decide +kernel
theorem dX12_gameOn_35 : decode cX12_gameOn 35 = .ok (.aload_n 0, 1) := by decide +kernel
theorem dX12_gameOn_36 : decode cX12_gameOn 36 = .ok (.getfield 9, 3) := by decide +kernel
theorem dX12_gameOn_39 : decode cX12_gameOn 39 = .ok (.iload_n 3, 1) := by decide +kernel
theorem dX12_gameOn_40 : decode cX12_gameOn 40 = .ok (.iaload, 1) := by decide +kernel
theorem dX12_gameOn_41 : decode cX12_gameOn 41 = .ok (.iastore, 1) := by decide +kernel
theorem dX12_gameOn_42 : decode cX12_gameOn 42 = .ok (.iinc 3 1, 3) := by decide +kernel
theorem dX12_gameOn_45 : decode cX12_gameOn 45 = .ok (.goto (-30), 3) := by decide +kernel
theorem dX12_gameOn_48 : decode cX12_gameOn 48 = .ok (.iconst 0, 1) := by decide +kernel
theorem dX12_gameOn_49 : decode cX12_gameOn 49 = .ok (.istore_n 3, 1) := by decide +kernel
theorem dX12_gameOn_50 : decode cX12_gameOn 50 = .ok (.aload_n 0, 1) := by decide +kernel
theorem dX12_gameOn_51 : decode cX12_gameOn 51 = .ok (.getfield 9, 3) := by decide +kernel
theorem dX12_gameOn_54 : decode cX12_gameOn 54 = .ok (.iconst 4, 1) := by decide +kernel
theorem dX12_gameOn_55 : decode cX12_gameOn 55 = .ok (.iaload, 1) := by decide +kernel
theorem dX12_gameOn_56 : decode cX12_gameOn 56 = .ok (.istore 4, 2) := by decide +kernel
theorem dX12_gameOn_58 : decode cX12_gameOn 58 = .ok (.iconst 0, 1) := by decide +kernel
theorem dX12_gameOn_59 : decode cX12_gameOn 59 = .ok (.istore 5, 2) := by decide +kernel
theorem dX12_gameOn_61 : decode cX12_gameOn 61 = .ok (.iload 5, 2) := by decide +kernel
theorem dX12_gameOn_63 : decode cX12_gameOn 63 = .ok (.iload 4, 2) := by decide +kernel
theorem dX12_gameOn_65 : decode cX12_gameOn 65 = .ok (.if_icmp .gt 122, 3) := by decide +kernel
theorem dX12_gameOn_68 : decode cX12_gameOn 68 = .ok (.aload_n 0, 1) := by decide +kernel
theorem dX12_gameOn_69 : decode cX12_gameOn 69 = .ok (.iload 5, 2) := by decide +kernel
theorem dX12_gameOn_71 : decode cX12_gameOn 71 = .ok (.iconst 1, 1) := by decide +kernel
theorem dX12_gameOn_72 : decode cX12_gameOn 72 = .ok (.isub, 1) := by decide +kernel
theorem dX12_gameOn_73 : decode cX12_gameOn 73 = .ok (.invokevirtual 226, 3) := by decide +kernel
theorem dX12_gameOn_76 : decode cX12_gameOn 76 = .ok (.istore 6, 2) := by decide +kernel
theorem dX12_gameOn_78 : decode cX12_gameOn 78 = .ok (.iload 6, 2) := by decide +kernel
theorem dX12_gameOn_80 : decode cX12_gameOn 80 = .ok (.aload_n 0, 1) := by decide +kernel
theorem dX12_gameOn_81 : decode cX12_gameOn 81 = .ok (.iload_n 1, 1) := by decide +kernel
theorem dX12_gameOn_82 : decode cX12_gameOn 82 = .ok (.iconst 1, 1) := by decide +kernel
theorem dX12_gameOn_83 : decode cX12_gameOn 83 = .ok (.isub, 1) := by decide +kernel
theorem dX12_gameOn_84 : decode cX12_gameOn 84 = .ok (.iload_n 2, 1) := by decide +kernel
theorem dX12_gameOn_85 : decode cX12_gameOn 85 = .ok (.ifCond .ne 7, 3) := by decide +kernel
theorem dX12_gameOn_88 : decode cX12_gameOn 88 = .ok (.iconst 1, 1) := by decide +kernel
theorem dX12_gameOn_89 : decode cX12_gameOn 89 = .ok (.goto 4, 3) := by decide +kernel
theorem dX12_gameOn_92 : decode cX12_gameOn 92 = .ok (.iconst 0, 1) := by decide +kernel
theorem dX12_gameOn_93 : decode cX12_gameOn 93 = .ok (.invokevirtual 274, 3) := by decide +kernel
theorem dX12_gameOn_96 : decode cX12_gameOn 96 = .ok (.iadd, 1) := by decide +kernel
theorem dX12_gameOn_97 : decode cX12_gameOn 97 = .ok (.istore 6, 2) := by decide +kernel
theorem dX12_gameOn_99 : decode cX12_gameOn 99 = .ok (.iconst 0, 1) := by decide +kernel
theorem dX12_gameOn_100 : decode cX12_gameOn 100 = .ok (.istore 7, 2) := by decide +kernel
theorem dX12_gameOn_102 : decode cX12_gameOn 102 = .ok (.iload 7, 2) := by decide +kernel
theorem dX12_gameOn_104 : decode cX12_gameOn 104 = .ok (.sipush 621, 3) := by decide +kernel
theorem dX12_gameOn_107 : decode cX12_gameOn 107 = .ok (.if_icmp .ge 31, 3) := by decide +kernel
theorem dX12_gameOn_110 : decode cX12_gameOn 110 = .ok (.aload_n 0, 1) := by decide +kernel
theorem dX12_gameOn_111 : decode cX12_gameOn 111 = .ok (.getfield 9, 3) := by decide +kernel
theorem dX12_gameOn_114 : decode cX12_gameOn 114 = .ok (.iload 7, 2) := by decide +kernel
theorem dX12_gameOn_116 : decode cX12_gameOn 116 = .ok (.aload_n 0, 1) := by decide +kernel
theorem dX12_gameOn_117 : decode cX12_gameOn 117 = .ok (.getfield 26, 3) := by decide +kernel
theorem dX12_gameOn_120 : decode cX12_gameOn 120 = .ok (.sipush 621, 3) := by decide +kernel
theorem dX12_gameOn_123 : decode cX12_gameOn 123 = .ok (.iload_n 1, 1) := by decide +kernel
theorem dX12_gameOn_124 : decode cX12_gameOn 124 = .ok (.iconst 1, 1) := by decide +kernel
theorem dX12_gameOn_125 : decode cX12_gameOn 125 = .ok (.isub, 1) := by decide +kernel
theorem dX12_gameOn_126 : decode cX12_gameOn 126 = .ok (.imul, 1) := by decide +kernel
theorem dX12_gameOn_127 : decode cX12_gameOn 127 = .ok (.iload 7, 2) := by decide +kernel
theorem dX12_gameOn_129 : decode cX12_gameOn 129 = .ok (.iadd, 1) := by decide +kernel
theorem dX12_gameOn_130 : decode cX12_gameOn 130 = .ok (.iaload, 1) := by decide +kernel
theorem dX12_gameOn_131 : decode cX12_gameOn 131 = .ok (.iastore, 1) := by decide +kernel
theorem dX12_gameOn_132 : decode cX12_gameOn 132 = .ok (.iinc 7 1, 3) := by decide +kernel
theorem dX12_gameOn_135 : decode cX12_gameOn 135 = .ok (.goto (-33), 3) := by decide +kernel
theorem dX12_gameOn_138 : decode cX12_gameOn 138 = .ok (.iload 5, 2) := by decide +kernel
theorem dX12_gameOn_140 : decode cX12_gameOn 140 = .ok (.ifCond .eq 22, 3) := by decide +kernel
theorem dX12_gameOn_143 : decode cX12_gameOn 143 = .ok (.iload_n 2, 1) := by decide +kernel
theorem dX12_gameOn_144 : decode cX12_gameOn 144 = .ok (.ifCond .eq 12, 3) := by decide +kernel
theorem dX12_gameOn_147 : decode cX12_gameOn 147 = .ok (.iload 6, 2) := by decide +kernel
theorem dX12_gameOn_149 : decode cX12_gameOn 149 = .ok (.iload_n 3, 1) := by decide +kernel
theorem dX12_gameOn_150 : decode cX12_gameOn 150 = .ok (.if_icmp .le 16, 3) := by decide +kernel
theorem dX12_gameOn_153 : decode cX12_gameOn 153 = .ok (.goto 9, 3) := by decide +kernel
theorem dX12_gameOn_156 : decode cX12_gameOn 156 = .ok (.iload 6, 2) := by decide +kernel
theorem dX12_gameOn_158 : decode cX12_gameOn 158 = .ok (.iload_n 3, 1) := by decide +kernel
theorem dX12_gameOn_159 : decode cX12_gameOn 159 = .ok (.if_icmp .ge 7, 3) := by decide +kernel
theorem dX12_gameOn_162 : decode cX12_gameOn 162 = .ok (.iconst 1, 1) := by decide +kernel
theorem dX12_gameOn_163 : decode cX12_gameOn 163 = .ok (.goto 4, 3) := by decide +kernel
theorem dX12_gameOn_166 : decode cX12_gameOn 166 = .ok (.iconst 0, 1) := by decide +kernel
theorem dX12_gameOn_167 : decode cX12_gameOn 167 = .ok (.istore 7, 2) := by decide +kernel
theorem dX12_gameOn_169 : decode cX12_gameOn 169 = .ok (.iload 7, 2) := by decide +kernel
theorem dX12_gameOn_171 : decode cX12_gameOn 171 = .ok (.ifCond .eq 8, 3) := by decide +kernel
theorem dX12_gameOn_174 : decode cX12_gameOn 174 = .ok (.iload 6, 2) := by decide +kernel
theorem dX12_gameOn_176 : decode cX12_gameOn 176 = .ok (.goto 4, 3) := by decide +kernel
theorem dX12_gameOn_179 : decode cX12_gameOn 179 = .ok (.iload_n 3, 1) := by decide +kernel
theorem dX12_gameOn_180 : decode cX12_gameOn 180 = .ok (.istore_n 3, 1) := by decide +kernel
theorem dX12_gameOn_181 : decode cX12_gameOn 181 = .ok (.iinc 5 1, 3) := by decide +kernel
theorem dX12_gameOn_184 : decode cX12_gameOn 184 = .ok (.goto (-123), 3) := by decide +kernel
theorem dX12_gameOn_187 : decode cX12_gameOn 187 = .ok (.iload_n 3, 1) := by decide +kernel
theorem dX12_gameOn_188 : decode cX12_gameOn 188 = .ok (.ireturn, 1) := by decide +kernel
theorem dX12_game_0 : decode cX12_game 0 = .ok (.iload_n 1, 1) := by decide +kernel
theorem dX12_game_1 : decode cX12_game 1 = .ok (.iconst 1, 1) := by decide +kernel
theorem dX12_game_2 : decode cX12_game 2 = .ok (.iconst 4, 1) := by decide +kernel
theorem dX12_game_3 : decode cX12_game 3 = .ok (.invokestatic 61, 3) := by decide +kernel
theorem dX12_game_6 : decode cX12_game 6 = .ok (.ifCond .eq 12, 3) := by decide +kernel
theorem dX12_game_9 : decode cX12_game 9 = .ok (.aload_n 0, 1) := by decide +kernel
theorem dX12_game_10 : decode cX12_game 10 = .ok (.iload_n 1, 1) := by decide +kernel
theorem dX12_game_11 : decode cX12_game 11 = .ok (.iconst 1, 1) := by decide +kernel
theorem dX12_game_12 : decode cX12_game 12 = .ok (.invokevirtual 274, 3) := by decide +kernel
theorem dX12_game_15 : decode cX12_game 15 = .ok (.goto 4, 3) := by decide +kernel
theorem dX12_game_18 : decode cX12_game 18 = .ok (.iconst (-1), 1) := by decide +kernel
theorem dX12_game_19 : decode cX12_game 19 = .ok (.ireturn, 1) := by decide +kernel
theorem dX12_play_0 : decode cX12_play 0 = .ok (.iload_n 1, 1) := by decide +kernel
theorem dX12_play_1 : decode cX12_play 1 = .ok (.iconst 1, 1) := by decide +kernel
theorem dX12_play_2 : decode cX12_play 2 = .ok (.iconst 4, 1) := by decide +kernel
theorem dX12_play_3 : decode cX12_play 3 = .ok (.invokestatic 61, 3) := by decide +kernel
theorem dX12_play_6 : decode cX12_play 6 = .ok (.ifCond .ne 5, 3) := by decide +kernel
theorem dX12_play_9 : decode cX12_play 9 = .ok (.iconst (-1), 1) := by decide +kernel
theorem dX12_play_10 : decode cX12_play 10 = .ok (.ireturn, 1) := by decide +kernel
theorem dX12_play_11 : decode cX12_play 11 = .ok (.aload_n 0, 1) := by decide +kernel
theorem dX12_play_12 : decode cX12_play 12 = .ok (.invokevirtual 121, 3) := by decide +kernel
theorem dX12_play_15 : decode cX12_play 15 = .ok (.ifCond .eq 6, 3) := by decide +kernel
theorem dX12_play_18 : decode cX12_play 18 = .ok (.bipush (-3), 2) := by decide +kernel
theorem dX12_play_20 : decode cX12_play 20 = .ok (.ireturn, 1) := by decide +kernel
theorem dX12_play_21 : decode cX12_play 21 = .ok (.aload_n 0, 1) := by decide +kernel
theorem dX12_play_22 : decode cX12_play 22 = .ok (.iload_n 1, 1) := by decide +kernel
theorem dX12_play_23 : decode cX12_play 23 = .ok (.iconst 1, 1) := by decide +kernel
theorem dX12_play_24 : decode cX12_play 24 = .ok (.invokevirtual 274, 3) := by decide +kernel
theorem dX12_play_27 : decode cX12_play 27 = .ok (.istore_n 2, 1) := by decide +kernel
theorem dX12_play_28 : decode cX12_play 28 = .ok (.iconst 0, 1) := by decide +kernel
theorem dX12_play_29 : decode cX12_play 29 = .ok (.istore_n 3, 1) := by decide +kernel
theorem dX12_play_30 : decode cX12_play 30 = .ok (.iload_n 3, 1) := by decide +kernel
theorem dX12_play_31 : decode cX12_play 31 = .ok (.aload_n 0, 1) := by decide +kernel
theorem dX12_play_32 : decode cX12_play 32 = .ok (.getfield 9, 3) := by decide +kernel
theorem dX12_play_35 : decode cX12_play 35 = .ok (.iconst 4, 1) := by decide +kernel
theorem dX12_play_36 : decode cX12_play 36 = .ok (.iaload, 1) := by decide +kernel
theorem dX12_play_37 : decode cX12_play 37 = .ok (.if_icmp .gt 61, 3) := by decide +kernel
theorem dX12_play_40 : decode cX12_play 40 = .ok (.aload_n 0, 1) := by decide +kernel
theorem dX12_play_41 : decode cX12_play 41 = .ok (.getfield 9, 3) := by decide +kernel
theorem dX12_play_44 : decode cX12_play 44 = .ok (.aload_n 0, 1) := by decide +kernel
theorem dX12_play_45 : decode cX12_play 45 = .ok (.getfield 29, 3) := by decide +kernel
theorem dX12_play_48 : decode cX12_play 48 = .ok (.invokestatic 57, 3) := by decide +kernel
theorem dX12_play_51 : decode cX12_play 51 = .ok (.aload_n 0, 1) := by decide +kernel
theorem dX12_play_52 : decode cX12_play 52 = .ok (.iload_n 3, 1) := by decide +kernel
theorem dX12_play_53 : decode cX12_play 53 = .ok (.iconst 1, 1) := by decide +kernel
theorem dX12_play_54 : decode cX12_play 54 = .ok (.isub, 1) := by decide +kernel
theorem dX12_play_55 : decode cX12_play 55 = .ok (.invokevirtual 226, 3) := by decide +kernel
theorem dX12_play_58 : decode cX12_play 58 = .ok (.istore 4, 2) := by decide +kernel
theorem dX12_play_60 : decode cX12_play 60 = .ok (.iload 4, 2) := by decide +kernel
theorem dX12_play_62 : decode cX12_play 62 = .ok (.aload_n 0, 1) := by decide +kernel
theorem dX12_play_63 : decode cX12_play 63 = .ok (.iload_n 1, 1) := by decide +kernel
theorem dX12_play_64 : decode cX12_play 64 = .ok (.iconst 1, 1) := by decide +kernel
theorem dX12_play_65 : decode cX12_play 65 = .ok (.isub, 1) := by decide +kernel
theorem dX12_play_66 : decode cX12_play 66 = .ok (.iconst 0, 1) := by decide +kernel
theorem dX12_play_67 : decode cX12_play 67 = .ok (.invokevirtual 274, 3) := by decide +kernel
theorem dX12_play_70 : decode cX12_play 70 = .ok (.iadd, 1) := by decide +kernel
theorem dX12_play_71 : decode cX12_play 71 = .ok (.istore 4, 2) := by decide +kernel
theorem dX12_play_73 : decode cX12_play 73 = .ok (.aload_n 0, 1) := by decide +kernel
theorem dX12_play_74 : decode cX12_play 74 = .ok (.getfield 29, 3) := by decide +kernel
theorem dX12_play_77 : decode cX12_play 77 = .ok (.aload_n 0, 1) := by decide +kernel
theorem dX12_play_78 : decode cX12_play 78 = .ok (.getfield 9, 3) := by decide +kernel
theorem dX12_play_81 : decode cX12_play 81 = .ok (.invokestatic 57, 3) := by decide +kernel
theorem dX12_play_84 : decode cX12_play 84 = .ok (.iload 4, 2) := by decide +kernel
theorem dX12_play_86 : decode cX12_play 86 = .ok (.iload_n 2, 1) := by decide +kernel
theorem dX12_play_87 : decode cX12_play 87 = .ok (.if_icmp .ne 5, 3) := by decide +kernel
theorem dX12_play_90 : decode cX12_play 90 = .ok (.iload_n 3, 1) := by decide +kernel
theorem dX12_play_91 : decode cX12_play 91 = .ok (.ireturn, 1) := by decide +kernel
theorem dX12_play_92 : decode cX12_play 92 = .ok (.iinc 3 1, 3) := by decide +kernel
theorem dX12_play_95 : decode cX12_play 95 = .ok (.goto (-65), 3) := by decide +kernel
theorem dX12_play_98 : decode cX12_play 98 = .ok (.bipush (-3), 2) := by decide +kernel
theorem dX12_play_100 : decode cX12_play 100 = .ok (.ireturn, 1) := by decide +kernel
theorem dX12_report_0 : decode cX12_report 0 = .ok (.iload_n 2, 1) := by decide +kernel
theorem dX12_report_1 : decode cX12_report 1 = .ok (.ifCond .ne 8, 3) := by decide +kernel
theorem dX12_report_4 : decode cX12_report 4 = .ok (.bipush 99, 2) := by decide +kernel
theorem dX12_report_6 : decode cX12_report 6 = .ok (.goto 5, 3) := by decide +kernel
theorem dX12_report_9 : decode cX12_report 9 = .ok (.bipush 16, 2) := by decide +kernel
theorem dX12_report_11 : decode cX12_report 11 = .ok (.istore 5, 2) := by decide +kernel
theorem dX12_report_13 : decode cX12_report 13 = .ok (.iload_n 1, 1) := by decide +kernel
theorem dX12_report_14 : decode cX12_report 14 = .ok (.iconst 0, 1) := by decide +kernel
theorem dX12_report_15 : decode cX12_report 15 = .ok (.bipush 15, 2) := by decide +kernel
theorem dX12_report_17 : decode cX12_report 17 = .ok (.invokestatic 61, 3) := by decide +kernel
theorem dX12_report_20 : decode cX12_report 20 = .ok (.ifCond .eq 33, 3) := by decide +kernel
theorem dX12_report_23 : decode cX12_report 23 = .ok (.iload_n 2, 1) := by decide +kernel
theorem dX12_report_24 : decode cX12_report 24 = .ok (.iconst 0, 1) := by decide +kernel
theorem dX12_report_25 : decode cX12_report 25 = .ok (.iconst 1, 1) := by decide +kernel
theorem dX12_report_26 : decode cX12_report 26 = .ok (.invokestatic 61, 3) := by decide +kernel
theorem dX12_report_29 : decode cX12_report 29 = .ok (.ifCond .eq 24, 3) := by decide +kernel
theorem dX12_report_32 : decode cX12_report 32 = .ok (.iload_n 3, 1) := by decide +kernel
theorem dX12_report_33 : decode cX12_report 33 = .ok (.iconst 0, 1) := by decide +kernel
theorem dX12_report_34 : decode cX12_report 34 = .ok (.iload 5, 2) := by decide +kernel
theorem dX12_report_36 : decode cX12_report 36 = .ok (.invokestatic 61, 3) := by decide +kernel
theorem dX12_report_39 : decode cX12_report 39 = .ok (.ifCond .eq 14, 3) := by decide +kernel
theorem dX12_report_42 : decode cX12_report 42 = .ok (.iload 4, 2) := by decide +kernel
theorem dX12_report_44 : decode cX12_report 44 = .ok (.iload_n 3, 1) := by decide +kernel
theorem dX12_report_45 : decode cX12_report 45 = .ok (.iload 5, 2) := by decide +kernel
theorem dX12_report_47 : decode cX12_report 47 = .ok (.invokestatic 61, 3) := by decide +kernel
theorem dX12_report_50 : decode cX12_report 50 = .ok (.ifCond .ne 5, 3) := by decide +kernel
theorem dX12_report_53 : decode cX12_report 53 = .ok (.iconst (-1), 1) := by decide +kernel
theorem dX12_report_54 : decode cX12_report 54 = .ok (.ireturn, 1) := by decide +kernel
theorem dX12_report_55 : decode cX12_report 55 = .ok (.aload_n 0, 1) := by decide +kernel
theorem dX12_report_56 : decode cX12_report 56 = .ok (.getfield 9, 3) := by decide +kernel
theorem dX12_report_59 : decode cX12_report 59 = .ok (.iconst 5, 1) := by decide +kernel
theorem dX12_report_60 : decode cX12_report 60 = .ok (.iaload, 1) := by decide +kernel
theorem dX12_report_61 : decode cX12_report 61 = .ok (.istore 6, 2) := by decide +kernel
theorem dX12_report_63 : decode cX12_report 63 = .ok (.iload 6, 2) := by decide +kernel
theorem dX12_report_65 : decode cX12_report 65 = .ok (.bipush 6, 2) := by decide +kernel
theorem dX12_report_67 : decode cX12_report 67 = .ok (.if_icmp .ne 6, 3) := by decide +kernel
theorem dX12_report_70 : decode cX12_report 70 = .ok (.bipush (-2), 2) := by decide +kernel
theorem dX12_report_72 : decode cX12_report 72 = .ok (.ireturn, 1) := by decide +kernel
theorem dX12_report_73 : decode cX12_report 73 = .ok (.aload_n 0, 1) := by decide +kernel
theorem dX12_report_74 : decode cX12_report 74 = .ok (.getfield 9, 3) := by decide +kernel
theorem dX12_report_77 : decode cX12_report 77 = .ok (.iconst 5, 1) := by decide +kernel
theorem dX12_report_78 : decode cX12_report 78 = .ok (.dup2, 1) := by decide +kernel
theorem dX12_report_79 : decode cX12_report 79 = .ok (.iaload, 1) := by decide +kernel
theorem dX12_report_80 : decode cX12_report 80 = .ok (.iconst 1, 1) := by decide +kernel
theorem dX12_report_81 : decode cX12_report 81 = .ok (.iadd, 1) := by decide +kernel
theorem dX12_report_82 : decode cX12_report 82 = .ok (.iastore, 1) := by decide +kernel
theorem dX12_report_83 : decode cX12_report 83 = .ok (.aload_n 0, 1) := by decide +kernel
theorem dX12_report_84 : decode cX12_report 84 = .ok (.getfield 9, 3) := by decide +kernel
theorem dX12_report_87 : decode cX12_report 87 = .ok (.bipush 65, 2) := by decide +kernel
theorem dX12_report_89 : decode cX12_report 89 = .ok (.iconst 4, 1) := by decide +kernel
theorem dX12_report_90 : decode cX12_report 90 = .ok (.iload 6, 2) := by decide +kernel
theorem dX12_report_92 : decode cX12_report 92 = .ok (.imul, 1) := by decide +kernel
theorem dX12_report_93 : decode cX12_report 93 = .ok (.iadd, 1) := by decide +kernel
theorem dX12_report_94 : decode cX12_report 94 = .ok (.iload_n 1, 1) := by decide +kernel
theorem dX12_report_95 : decode cX12_report 95 = .ok (.iastore, 1) := by decide +kernel
theorem dX12_report_96 : decode cX12_report 96 = .ok (.aload_n 0, 1) := by decide +kernel
theorem dX12_report_97 : decode cX12_report 97 = .ok (.getfield 9, 3) := by decide +kernel
theorem dX12_report_100 : decode cX12_report 100 = .ok (.bipush 65, 2) := by decide +kernel
theorem dX12_report_102 : decode cX12_report 102 = .ok (.iconst 4, 1) := by decide +kernel
theorem dX12_report_103 : decode cX12_report 103 = .ok (.iload 6, 2) := by decide +kernel
theorem dX12_report_105 : decode cX12_report 105 = .ok (.imul, 1) := by decide +kernel
theorem dX12_report_106 : decode cX12_report 106 = .ok (.iadd, 1) := by decide +kernel
theorem dX12_report_107 : decode cX12_report 107 = .ok (.iconst 1, 1) := by decide +kernel
theorem dX12_report_108 : decode cX12_report 108 = .ok (.iadd, 1) := by decide +kernel
theorem dX12_report_109 : decode cX12_report 109 = .ok (.iload_n 2, 1) := by decide +kernel
theorem dX12_report_110 : decode cX12_report 110 = .ok (.iastore, 1) := by decide +kernel
theorem dX12_report_111 : decode cX12_report 111 = .ok (.aload_n 0, 1) := by decide +kernel
theorem dX12_report_112 : decode cX12_report 112 = .ok (.getfield 9, 3) := by decide +kernel
theorem dX12_report_115 : decode cX12_report 115 = .ok (.bipush 65, 2) := by decide +kernel
theorem dX12_report_117 : decode cX12_report 117 = .ok (.iconst 4, 1) := by decide +kernel
theorem dX12_report_118 : decode cX12_report 118 = .ok (.iload 6, 2) := by decide +kernel
theorem dX12_report_120 : decode cX12_report 120 = .ok (.imul, 1) := by decide +kernel
theorem dX12_report_121 : decode cX12_report 121 = .ok (.iadd, 1) := by decide +kernel
theorem dX12_report_122 : decode cX12_report 122 = .ok (.iconst 2, 1) := by decide +kernel
theorem dX12_report_123 : decode cX12_report 123 = .ok (.iadd, 1) := by decide +kernel
theorem dX12_report_124 : decode cX12_report 124 = .ok (.iload_n 3, 1) := by decide +kernel
theorem dX12_report_125 : decode cX12_report 125 = .ok (.iastore, 1) := by decide +kernel
theorem dX12_report_126 : decode cX12_report 126 = .ok (.aload_n 0, 1) := by decide +kernel
theorem dX12_report_127 : decode cX12_report 127 = .ok (.getfield 9, 3) := by decide +kernel
theorem dX12_report_130 : decode cX12_report 130 = .ok (.bipush 65, 2) := by decide +kernel
theorem dX12_report_132 : decode cX12_report 132 = .ok (.iconst 4, 1) := by decide +kernel
theorem dX12_report_133 : decode cX12_report 133 = .ok (.iload 6, 2) := by decide +kernel
theorem dX12_report_135 : decode cX12_report 135 = .ok (.imul, 1) := by decide +kernel
theorem dX12_report_136 : decode cX12_report 136 = .ok (.iadd, 1) := by decide +kernel
theorem dX12_report_137 : decode cX12_report 137 = .ok (.iconst 3, 1) := by decide +kernel
theorem dX12_report_138 : decode cX12_report 138 = .ok (.iadd, 1) := by decide +kernel
theorem dX12_report_139 : decode cX12_report 139 = .ok (.iload 4, 2) := by decide +kernel
theorem dX12_report_141 : decode cX12_report 141 = .ok (.iastore, 1) := by decide +kernel
theorem dX12_report_142 : decode cX12_report 142 = .ok (.iload 6, 2) := by decide +kernel
theorem dX12_report_144 : decode cX12_report 144 = .ok (.ireturn, 1) := by decide +kernel
theorem dX12_forget_0 : decode cX12_forget 0 = .ok (.aload_n 0, 1) := by decide +kernel
theorem dX12_forget_1 : decode cX12_forget 1 = .ok (.iconst 5, 1) := by decide +kernel
theorem dX12_forget_2 : decode cX12_forget 2 = .ok (.iconst 0, 1) := by decide +kernel
theorem dX12_forget_3 : decode cX12_forget 3 = .ok (.invokevirtual 118, 3) := by decide +kernel
theorem dX12_forget_6 : decode cX12_forget 6 = .ok (.ireturn, 1) := by decide +kernel
theorem dX12_fits_0 : decode cX12_fits 0 = .ok (.iconst 1, 1) := by decide +kernel
theorem dX12_fits_1 : decode cX12_fits 1 = .ok (.iload_n 1, 1) := by decide +kernel
theorem dX12_fits_2 : decode cX12_fits 2 = .ok (.bipush 100, 2) := by decide +kernel
theorem dX12_fits_4 : decode cX12_fits 4 = .ok (.idiv, 1) := by decide +kernel
theorem dX12_fits_5 : decode cX12_fits 5 = .ok (.iadd, 1) := by decide +kernel
theorem dX12_fits_6 : decode cX12_fits 6 = .ok (.istore_n 3, 1) := by decide +kernel
theorem dX12_fits_7 : decode cX12_fits 7 = .ok (.iload_n 1, 1) := by decide +kernel
theorem dX12_fits_8 : decode cX12_fits 8 = .ok (.bipush 10, 2) := by decide +kernel
theorem dX12_fits_10 : decode cX12_fits 10 = .ok (.idiv, 1) := by decide +kernel
theorem dX12_fits_11 : decode cX12_fits 11 = .ok (.bipush 10, 2) := by decide +kernel
theorem dX12_fits_13 : decode cX12_fits 13 = .ok (.irem, 1) := by decide +kernel
theorem dX12_fits_14 : decode cX12_fits 14 = .ok (.istore 4, 2) := by decide +kernel
theorem dX12_fits_16 : decode cX12_fits 16 = .ok (.bipush 9, 2) := by decide +kernel
theorem dX12_fits_18 : decode cX12_fits 18 = .ok (.iload_n 1, 1) := by decide +kernel
theorem dX12_fits_19 : decode cX12_fits 19 = .ok (.bipush 10, 2) := by decide +kernel
theorem dX12_fits_21 : decode cX12_fits 21 = .ok (.irem, 1) := by decide +kernel
theorem dX12_fits_22 : decode cX12_fits 22 = .ok (.imul, 1) := by decide +kernel
theorem dX12_fits_23 : decode cX12_fits 23 = .ok (.istore 5, 2) := by decide +kernel
theorem dX12_fits_25 : decode cX12_fits 25 = .ok (.iconst 0, 1) := by decide +kernel
theorem dX12_fits_26 : decode cX12_fits 26 = .ok (.istore 6, 2) := by decide +kernel
theorem dX12_fits_28 : decode cX12_fits 28 = .ok (.iconst 1, 1) := by decide +kernel
theorem dX12_fits_29 : decode cX12_fits 29 = .ok (.istore 7, 2) := by decide +kernel
theorem dX12_fits_31 : decode cX12_fits 31 = .ok (.iconst 0, 1) := by decide +kernel
theorem dX12_fits_32 : decode cX12_fits 32 = .ok (.istore 8, 2) := by decide +kernel
theorem dX12_fits_34 : decode cX12_fits 34 = .ok (.iload 8, 2) := by decide +kernel
theorem dX12_fits_36 : decode cX12_fits 36 = .ok (.bipush 16, 2) := by decide +kernel
theorem dX12_fits_38 : decode cX12_fits 38 = .ok (.if_icmp .ge 198, 3) := by decide +kernel
theorem dX12_fits_41 : decode cX12_fits 41 = .ok (.iconst 0, 1) := by decide +kernel
theorem dX12_fits_42 : decode cX12_fits 42 = .ok (.istore 9, 2) := by decide +kernel
theorem dX12_fits_44 : decode cX12_fits 44 = .ok (.iload 9, 2) := by decide +kernel
theorem dX12_fits_46 : decode cX12_fits 46 = .ok (.aload_n 0, 1) := by decide +kernel
theorem dX12_fits_47 : decode cX12_fits 47 = .ok (.getfield 9, 3) := by decide +kernel
theorem dX12_fits_50 : decode cX12_fits 50 = .ok (.iconst 5, 1) := by decide +kernel
theorem dX12_fits_51 : decode cX12_fits 51 = .ok (.iaload, 1) := by decide +kernel
theorem dX12_fits_52 : decode cX12_fits 52 = .ok (.if_icmp .ge 95, 3) := by decide +kernel
theorem dX12_fits_55 : decode cX12_fits 55 = .ok (.bipush 65, 2) := by decide +kernel
theorem dX12_fits_57 : decode cX12_fits 57 = .ok (.iconst 4, 1) := by decide +kernel
theorem dX12_fits_58 : decode cX12_fits 58 = .ok (.iload 9, 2) := by decide +kernel
theorem dX12_fits_60 : decode cX12_fits 60 = .ok (.imul, 1) := by decide +kernel
theorem dX12_fits_61 : decode cX12_fits 61 = .ok (.iadd, 1) := by decide +kernel
theorem dX12_fits_62 : decode cX12_fits 62 = .ok (.istore 10, 2) := by decide +kernel
theorem dX12_fits_64 : decode cX12_fits 64 = .ok (.aload_n 0, 1) := by decide +kernel
theorem dX12_fits_65 : decode cX12_fits 65 = .ok (.getfield 9, 3) := by decide +kernel
theorem dX12_fits_68 : decode cX12_fits 68 = .ok (.iload 10, 2) := by decide +kernel
theorem dX12_fits_70 : decode cX12_fits 70 = .ok (.iconst 1, 1) := by decide +kernel
theorem dX12_fits_71 : decode cX12_fits 71 = .ok (.iadd, 1) := by decide +kernel
theorem dX12_fits_72 : decode cX12_fits 72 = .ok (.iaload, 1) := by decide +kernel
theorem dX12_fits_73 : decode cX12_fits 73 = .ok (.ifCond .ne 8, 3) := by decide +kernel
theorem dX12_fits_76 : decode cX12_fits 76 = .ok (.iload 5, 2) := by decide +kernel
theorem dX12_fits_78 : decode cX12_fits 78 = .ok (.goto 5, 3) := by decide +kernel
theorem dX12_fits_81 : decode cX12_fits 81 = .ok (.iload 6, 2) := by decide +kernel
theorem dX12_fits_83 : decode cX12_fits 83 = .ok (.istore 11, 2) := by decide +kernel
theorem dX12_fits_85 : decode cX12_fits 85 = .ok (.iload 7, 2) := by decide +kernel
theorem dX12_fits_87 : decode cX12_fits 87 = .ok (.ifCond .eq 51, 3) := by decide +kernel
theorem dX12_fits_90 : decode cX12_fits 90 = .ok (.iload 9, 2) := by decide +kernel
theorem dX12_fits_92 : decode cX12_fits 92 = .ok (.iload_n 2, 1) := by decide +kernel
theorem dX12_fits_93 : decode cX12_fits 93 = .ok (.if_icmp .eq 41, 3) := by decide +kernel
theorem dX12_fits_96 : decode cX12_fits 96 = .ok (.aload_n 0, 1) := by decide +kernel
theorem dX12_fits_97 : decode cX12_fits 97 = .ok (.getfield 9, 3) := by decide +kernel
theorem dX12_fits_100 : decode cX12_fits 100 = .ok (.iload 10, 2) := by decide +kernel
theorem dX12_fits_102 : decode cX12_fits 102 = .ok (.iaload, 1) := by decide +kernel
theorem dX12_fits_103 : decode cX12_fits 103 = .ok (.iload 8, 2) := by decide +kernel
theorem dX12_fits_105 : decode cX12_fits 105 = .ok (.if_icmp .ne 29, 3) := by decide +kernel
theorem dX12_fits_108 : decode cX12_fits 108 = .ok (.iload 11, 2) := by decide +kernel
theorem dX12_fits_110 : decode cX12_fits 110 = .ok (.aload_n 0, 1) := by decide +kernel
theorem dX12_fits_111 : decode cX12_fits 111 = .ok (.getfield 9, 3) := by decide +kernel
theorem dX12_fits_114 : decode cX12_fits 114 = .ok (.iload 10, 2) := by decide +kernel
theorem dX12_fits_116 : decode cX12_fits 116 = .ok (.iconst 2, 1) := by decide +kernel
theorem dX12_fits_117 : decode cX12_fits 117 = .ok (.iadd, 1) := by decide +kernel
theorem dX12_fits_118 : decode cX12_fits 118 = .ok (.iaload, 1) := by decide +kernel
theorem dX12_fits_119 : decode cX12_fits 119 = .ok (.aload_n 0, 1) := by decide +kernel
theorem dX12_fits_120 : decode cX12_fits 120 = .ok (.getfield 9, 3) := by decide +kernel
theorem dX12_fits_123 : decode cX12_fits 123 = .ok (.iload 10, 2) := by decide +kernel
theorem dX12_fits_125 : decode cX12_fits 125 = .ok (.iconst 3, 1) := by decide +kernel
theorem dX12_fits_126 : decode cX12_fits 126 = .ok (.iadd, 1) := by decide +kernel
theorem dX12_fits_127 : decode cX12_fits 127 = .ok (.iaload, 1) := by decide +kernel
theorem dX12_fits_128 : decode cX12_fits 128 = .ok (.invokestatic 61, 3) := by decide +kernel
theorem dX12_fits_131 : decode cX12_fits 131 = .ok (.ifCond .eq 7, 3) := by decide +kernel
theorem dX12_fits_134 : decode cX12_fits 134 = .ok (.iconst 1, 1) := by decide +kernel
theorem dX12_fits_135 : decode cX12_fits 135 = .ok (.goto 4, 3) := by decide +kernel
theorem dX12_fits_138 : decode cX12_fits 138 = .ok (.iconst 0, 1) := by decide +kernel
theorem dX12_fits_139 : decode cX12_fits 139 = .ok (.istore 7, 2) := by decide +kernel
theorem dX12_fits_141 : decode cX12_fits 141 = .ok (.iinc 9 1, 3) := by decide +kernel
theorem dX12_fits_144 : decode cX12_fits 144 = .ok (.goto (-100), 3) := by decide +kernel
theorem dX12_fits_147 : decode cX12_fits 147 = .ok (.aload_n 0, 1) := by decide +kernel
theorem dX12_fits_148 : decode cX12_fits 148 = .ok (.getfield 9, 3) := by decide +kernel
theorem dX12_fits_151 : decode cX12_fits 151 = .ok (.bipush 7, 2) := by decide +kernel
theorem dX12_fits_153 : decode cX12_fits 153 = .ok (.iload 8, 2) := by decide +kernel
theorem dX12_fits_155 : decode cX12_fits 155 = .ok (.iadd, 1) := by decide +kernel
theorem dX12_fits_156 : decode cX12_fits 156 = .ok (.iaload, 1) := by decide +kernel
theorem dX12_fits_157 : decode cX12_fits 157 = .ok (.iconst 4, 1) := by decide +kernel
theorem dX12_fits_158 : decode cX12_fits 158 = .ok (.idiv, 1) := by decide +kernel
theorem dX12_fits_159 : decode cX12_fits 159 = .ok (.istore 9, 2) := by decide +kernel
theorem dX12_fits_161 : decode cX12_fits 161 = .ok (.iload 6, 2) := by decide +kernel
theorem dX12_fits_163 : decode cX12_fits 163 = .ok (.iload 5, 2) := by decide +kernel
theorem dX12_fits_165 : decode cX12_fits 165 = .ok (.bipush 6, 2) := by decide +kernel
theorem dX12_fits_167 : decode cX12_fits 167 = .ok (.iload 9, 2) := by decide +kernel
theorem dX12_fits_169 : decode cX12_fits 169 = .ok (.imul, 1) := by decide +kernel
theorem dX12_fits_170 : decode cX12_fits 170 = .ok (.iadd, 1) := by decide +kernel
theorem dX12_fits_171 : decode cX12_fits 171 = .ok (.iload_n 3, 1) := by decide +kernel
theorem dX12_fits_172 : decode cX12_fits 172 = .ok (.iload 4, 2) := by decide +kernel
theorem dX12_fits_174 : decode cX12_fits 174 = .ok (.iconst 0, 1) := by decide +kernel
theorem dX12_fits_175 : decode cX12_fits 175 = .ok (.invokestatic 84, 3) := by decide +kernel
theorem dX12_fits_178 : decode cX12_fits 178 = .ok (.if_icmp .lt 7, 3) := by decide +kernel
theorem dX12_fits_181 : decode cX12_fits 181 = .ok (.iconst 1, 1) := by decide +kernel
theorem dX12_fits_182 : decode cX12_fits 182 = .ok (.goto 4, 3) := by decide +kernel
theorem dX12_fits_185 : decode cX12_fits 185 = .ok (.iconst 0, 1) := by decide +kernel
theorem dX12_fits_186 : decode cX12_fits 186 = .ok (.iadd, 1) := by decide +kernel
theorem dX12_fits_187 : decode cX12_fits 187 = .ok (.istore 6, 2) := by decide +kernel
theorem dX12_fits_189 : decode cX12_fits 189 = .ok (.iload 5, 2) := by decide +kernel
theorem dX12_fits_191 : decode cX12_fits 191 = .ok (.iload_n 3, 1) := by decide +kernel
theorem dX12_fits_192 : decode cX12_fits 192 = .ok (.iload 9, 2) := by decide +kernel
theorem dX12_fits_194 : decode cX12_fits 194 = .ok (.aload_n 0, 1) := by decide +kernel
theorem dX12_fits_195 : decode cX12_fits 195 = .ok (.getfield 9, 3) := by decide +kernel
theorem dX12_fits_198 : decode cX12_fits 198 = .ok (.bipush 7, 2) := by decide +kernel
theorem dX12_fits_200 : decode cX12_fits 200 = .ok (.iload 8, 2) := by decide +kernel
theorem dX12_fits_202 : decode cX12_fits 202 = .ok (.iadd, 1) := by decide +kernel
theorem dX12_fits_203 : decode cX12_fits 203 = .ok (.iaload, 1) := by decide +kernel
theorem dX12_fits_204 : decode cX12_fits 204 = .ok (.iconst 4, 1) := by decide +kernel
theorem dX12_fits_205 : decode cX12_fits 205 = .ok (.irem, 1) := by decide +kernel
theorem dX12_fits_206 : decode cX12_fits 206 = .ok (.iload 8, 2) := by decide +kernel
theorem dX12_fits_208 : decode cX12_fits 208 = .ok (.invokestatic 80, 3) := by decide +kernel
theorem dX12_fits_211 : decode cX12_fits 211 = .ok (.iadd, 1) := by decide +kernel
theorem dX12_fits_212 : decode cX12_fits 212 = .ok (.istore 5, 2) := by decide +kernel
theorem dX12_fits_214 : decode cX12_fits 214 = .ok (.iload 5, 2) := by decide +kernel
theorem dX12_fits_216 : decode cX12_fits 216 = .ok (.bipush 99, 2) := by decide +kernel
theorem dX12_fits_218 : decode cX12_fits 218 = .ok (.if_icmp .le 8, 3) := by decide +kernel
theorem dX12_fits_221 : decode cX12_fits 221 = .ok (.bipush 99, 2) := by decide +kernel
theorem dX12_fits_223 : decode cX12_fits 223 = .ok (.goto 5, 3) := by decide +kernel
theorem dX12_fits_226 : decode cX12_fits 226 = .ok (.iload 5, 2) := by decide +kernel
theorem dX12_fits_228 : decode cX12_fits 228 = .ok (.istore 5, 2) := by decide +kernel
theorem dX12_fits_230 : decode cX12_fits 230 = .ok (.iinc 8 1, 3) := by decide +kernel
theorem dX12_fits_233 : decode cX12_fits 233 = .ok (.goto (-199), 3) := by decide +kernel
theorem dX12_fits_236 : decode cX12_fits 236 = .ok (.iload 7, 2) := by decide +kernel
theorem dX12_fits_238 : decode cX12_fits 238 = .ok (.ireturn, 1) := by decide +kernel
theorem dX12_stranger_0 : decode cX12_stranger 0 = .ok (.iconst 0, 1) := by decide +kernel
theorem dX12_stranger_1 : decode cX12_stranger 1 = .ok (.istore_n 2, 1) := by decide +kernel
theorem dX12_stranger_2 : decode cX12_stranger 2 = .ok (.iload_n 2, 1) := by decide +kernel
theorem dX12_stranger_3 : decode cX12_stranger 3 = .ok (.sipush 500, 3) := by decide +kernel
theorem dX12_stranger_6 : decode cX12_stranger 6 = .ok (.if_icmp .ge 20, 3) := by decide +kernel
theorem dX12_stranger_9 : decode cX12_stranger 9 = .ok (.aload_n 0, 1) := by decide +kernel
theorem dX12_stranger_10 : decode cX12_stranger 10 = .ok (.iload_n 2, 1) := by decide +kernel
theorem dX12_stranger_11 : decode cX12_stranger 11 = .ok (.iload_n 1, 1) := by decide +kernel
theorem dX12_stranger_12 : decode cX12_stranger 12 = .ok (.invokevirtual 278, 3) := by decide +kernel
theorem dX12_stranger_15 : decode cX12_stranger 15 = .ok (.ifCond .eq 5, 3) := by decide +kernel
theorem dX12_stranger_18 : decode cX12_stranger 18 = .ok (.iload_n 2, 1) := by decide +kernel
theorem dX12_stranger_19 : decode cX12_stranger 19 = .ok (.ireturn, 1) := by decide +kernel
theorem dX12_stranger_20 : decode cX12_stranger 20 = .ok (.iinc 2 1, 3) := by decide +kernel
theorem dX12_stranger_23 : decode cX12_stranger 23 = .ok (.goto (-21), 3) := by decide +kernel
theorem dX12_stranger_26 : decode cX12_stranger 26 = .ok (.iconst (-1), 1) := by decide +kernel
theorem dX12_stranger_27 : decode cX12_stranger 27 = .ok (.ireturn, 1) := by decide +kernel
theorem dX12_lone_0 : decode cX12_lone 0 = .ok (.iload_n 1, 1) := by decide +kernel
theorem dX12_lone_1 : decode cX12_lone 1 = .ok (.invokestatic 281, 3) := by decide +kernel
theorem dX12_lone_4 : decode cX12_lone 4 = .ok (.ifCond .ne 5, 3) := by decide +kernel
theorem dX12_lone_7 : decode cX12_lone 7 = .ok (.iconst (-1), 1) := by decide +kernel
theorem dX12_lone_8 : decode cX12_lone 8 = .ok (.ireturn, 1) := by decide +kernel
theorem dX12_lone_9 : decode cX12_lone 9 = .ok (.iload_n 1, 1) := by decide +kernel
theorem dX12_lone_10 : decode cX12_lone 10 = .ok (.ifCond .le 55, 3) := by decide +kernel
theorem dX12_lone_13 : decode cX12_lone 13 = .ok (.aload_n 0, 1) := by decide +kernel
theorem dX12_lone_14 : decode cX12_lone 14 = .ok (.iconst (-1), 1) := by decide +kernel
theorem dX12_lone_15 : decode cX12_lone 15 = .ok (.invokevirtual 284, 3) := by decide +kernel
theorem dX12_lone_18 : decode cX12_lone 18 = .ok (.istore_n 2, 1) := by decide +kernel
theorem dX12_lone_19 : decode cX12_lone 19 = .ok (.iload_n 2, 1) := by decide +kernel
theorem dX12_lone_20 : decode cX12_lone 20 = .ok (.ifCond .ge 8, 3) := by decide +kernel
theorem dX12_lone_23 : decode cX12_lone 23 = .ok (.bipush (-3), 2) := by decide +kernel
theorem dX12_lone_25 : decode cX12_lone 25 = .ok (.goto 39, 3) := by decide +kernel
theorem dX12_lone_28 : decode cX12_lone 28 = .ok (.iload_n 1, 1) := by decide +kernel
theorem dX12_lone_29 : decode cX12_lone 29 = .ok (.iconst 1, 1) := by decide +kernel
theorem dX12_lone_30 : decode cX12_lone 30 = .ok (.if_icmp .ne 12, 3) := by decide +kernel
theorem dX12_lone_33 : decode cX12_lone 33 = .ok (.iconst 1, 1) := by decide +kernel
theorem dX12_lone_34 : decode cX12_lone 34 = .ok (.iload_n 2, 1) := by decide +kernel
theorem dX12_lone_35 : decode cX12_lone 35 = .ok (.bipush 100, 2) := by decide +kernel
theorem dX12_lone_37 : decode cX12_lone 37 = .ok (.idiv, 1) := by decide +kernel
theorem dX12_lone_38 : decode cX12_lone 38 = .ok (.iadd, 1) := by decide +kernel
theorem dX12_lone_39 : decode cX12_lone 39 = .ok (.goto 25, 3) := by decide +kernel
theorem dX12_lone_42 : decode cX12_lone 42 = .ok (.iload_n 1, 1) := by decide +kernel
theorem dX12_lone_43 : decode cX12_lone 43 = .ok (.iconst 2, 1) := by decide +kernel
theorem dX12_lone_44 : decode cX12_lone 44 = .ok (.if_icmp .ne 13, 3) := by decide +kernel
theorem dX12_lone_47 : decode cX12_lone 47 = .ok (.iload_n 2, 1) := by decide +kernel
theorem dX12_lone_48 : decode cX12_lone 48 = .ok (.bipush 10, 2) := by decide +kernel
theorem dX12_lone_50 : decode cX12_lone 50 = .ok (.idiv, 1) := by decide +kernel
theorem dX12_lone_51 : decode cX12_lone 51 = .ok (.bipush 10, 2) := by decide +kernel
theorem dX12_lone_53 : decode cX12_lone 53 = .ok (.irem, 1) := by decide +kernel
theorem dX12_lone_54 : decode cX12_lone 54 = .ok (.goto 10, 3) := by decide +kernel
theorem dX12_lone_57 : decode cX12_lone 57 = .ok (.bipush 9, 2) := by decide +kernel
theorem dX12_lone_59 : decode cX12_lone 59 = .ok (.iload_n 2, 1) := by decide +kernel
theorem dX12_lone_60 : decode cX12_lone 60 = .ok (.bipush 10, 2) := by decide +kernel
theorem dX12_lone_62 : decode cX12_lone 62 = .ok (.irem, 1) := by decide +kernel
theorem dX12_lone_63 : decode cX12_lone 63 = .ok (.imul, 1) := by decide +kernel
theorem dX12_lone_64 : decode cX12_lone 64 = .ok (.ireturn, 1) := by decide +kernel
theorem dX12_lone_65 : decode cX12_lone 65 = .ok (.iconst 0, 1) := by decide +kernel
theorem dX12_lone_66 : decode cX12_lone 66 = .ok (.istore_n 2, 1) := by decide +kernel
theorem dX12_lone_67 : decode cX12_lone 67 = .ok (.iconst 0, 1) := by decide +kernel
theorem dX12_lone_68 : decode cX12_lone 68 = .ok (.istore_n 3, 1) := by decide +kernel
theorem dX12_lone_69 : decode cX12_lone 69 = .ok (.iload_n 3, 1) := by decide +kernel
theorem dX12_lone_70 : decode cX12_lone 70 = .ok (.sipush 500, 3) := by decide +kernel
theorem dX12_lone_73 : decode cX12_lone 73 = .ok (.if_icmp .ge 26, 3) := by decide +kernel
theorem dX12_lone_76 : decode cX12_lone 76 = .ok (.iload_n 2, 1) := by decide +kernel
theorem dX12_lone_77 : decode cX12_lone 77 = .ok (.aload_n 0, 1) := by decide +kernel
theorem dX12_lone_78 : decode cX12_lone 78 = .ok (.iload_n 3, 1) := by decide +kernel
theorem dX12_lone_79 : decode cX12_lone 79 = .ok (.iconst (-1), 1) := by decide +kernel
theorem dX12_lone_80 : decode cX12_lone 80 = .ok (.invokevirtual 278, 3) := by decide +kernel
theorem dX12_lone_83 : decode cX12_lone 83 = .ok (.ifCond .eq 7, 3) := by decide +kernel
theorem dX12_lone_86 : decode cX12_lone 86 = .ok (.iconst 1, 1) := by decide +kernel
theorem dX12_lone_87 : decode cX12_lone 87 = .ok (.goto 4, 3) := by decide +kernel
theorem dX12_lone_90 : decode cX12_lone 90 = .ok (.iconst 0, 1) := by decide +kernel
theorem dX12_lone_91 : decode cX12_lone 91 = .ok (.iadd, 1) := by decide +kernel
theorem dX12_lone_92 : decode cX12_lone 92 = .ok (.istore_n 2, 1) := by decide +kernel
theorem dX12_lone_93 : decode cX12_lone 93 = .ok (.iinc 3 1, 3) := by decide +kernel
theorem dX12_lone_96 : decode cX12_lone 96 = .ok (.goto (-27), 3) := by decide +kernel
theorem dX12_lone_99 : decode cX12_lone 99 = .ok (.iload_n 2, 1) := by decide +kernel
theorem dX12_lone_100 : decode cX12_lone 100 = .ok (.ireturn, 1) := by decide +kernel
theorem dX12_liar_0 : decode cX12_liar 0 = .ok (.aload_n 0, 1) := by decide +kernel
theorem dX12_liar_1 : decode cX12_liar 1 = .ok (.iconst (-1), 1) := by decide +kernel
theorem dX12_liar_2 : decode cX12_liar 2 = .ok (.invokevirtual 284, 3) := by decide +kernel
theorem dX12_liar_5 : decode cX12_liar 5 = .ok (.ifCond .lt 6, 3) := by decide +kernel
theorem dX12_liar_8 : decode cX12_liar 8 = .ok (.bipush (-3), 2) := by decide +kernel
theorem dX12_liar_10 : decode cX12_liar 10 = .ok (.ireturn, 1) := by decide +kernel
theorem dX12_liar_11 : decode cX12_liar 11 = .ok (.iconst 0, 1) := by decide +kernel
theorem dX12_liar_12 : decode cX12_liar 12 = .ok (.istore_n 1, 1) := by decide +kernel
theorem dX12_liar_13 : decode cX12_liar 13 = .ok (.iload_n 1, 1) := by decide +kernel
theorem dX12_liar_14 : decode cX12_liar 14 = .ok (.aload_n 0, 1) := by decide +kernel
theorem dX12_liar_15 : decode cX12_liar 15 = .ok (.getfield 9, 3) := by decide +kernel
theorem dX12_liar_18 : decode cX12_liar 18 = .ok (.iconst 5, 1) := by decide +kernel
theorem dX12_liar_19 : decode cX12_liar 19 = .ok (.iaload, 1) := by decide +kernel
theorem dX12_liar_20 : decode cX12_liar 20 = .ok (.if_icmp .ge 19, 3) := by decide +kernel
theorem dX12_liar_23 : decode cX12_liar 23 = .ok (.aload_n 0, 1) := by decide +kernel
theorem dX12_liar_24 : decode cX12_liar 24 = .ok (.iload_n 1, 1) := by decide +kernel
theorem dX12_liar_25 : decode cX12_liar 25 = .ok (.invokevirtual 284, 3) := by decide +kernel
theorem dX12_liar_28 : decode cX12_liar 28 = .ok (.ifCond .lt 5, 3) := by decide +kernel
theorem dX12_liar_31 : decode cX12_liar 31 = .ok (.iload_n 1, 1) := by decide +kernel
theorem dX12_liar_32 : decode cX12_liar 32 = .ok (.ireturn, 1) := by decide +kernel
