theorem cl_0 : dk_CL 0 RX0 TX0 5 tyX0 := ⟨rfl, by decide +kernel, by decide, ws_0, tyX0_ok, nmX0⟩
theorem cl_1 : dk_CL 1 RX1 TX1 5 tyX1 := ⟨rfl, by decide +kernel, by decide, ws_1, tyX1_ok, nmX1⟩
theorem cl_2 : dk_CL 2 RX2 TX2 5 tyX2 := ⟨rfl, by decide +kernel, by decide, ws_2, tyX2_ok, nmX2⟩
theorem cl_3 : dk_CL 3 RX3 TX3 5 tyX3 := ⟨rfl, by decide +kernel, by decide, ws_3, tyX3_ok, nmX3⟩
theorem cl_4 : dk_CL 4 RX4 TX4 3 tyX4 := ⟨rfl, by decide +kernel, by decide, ws_4, tyX4_ok, nmX4⟩
theorem cl_5 : dk_CL 5 RX5 TX5 5 tyX5 := ⟨rfl, by decide +kernel, by decide, ws_5, tyX5_ok, nmX5⟩
theorem cl_6 : dk_CL 6 RX6 TX6 4 tyX6 := ⟨rfl, by decide +kernel, by decide, ws_6, tyX6_ok, nmX6⟩
theorem cl_7 : dk_CL 7 RX7 TX7 10 tyX7 := ⟨rfl, by decide +kernel, by decide, ws_7, tyX7_ok, nmX7⟩
theorem cl_8 : dk_CL 8 RX8 TX8 10 tyX8 := ⟨rfl, by decide +kernel, by decide, ws_8, tyX8_ok, nmX8⟩
theorem cl_9 : dk_CL 9 RX9 TX9 5 tyX9 := ⟨rfl, by decide +kernel, by decide, ws_9, tyX9_ok, nmX9⟩
theorem cl_10 : dk_CL 10 RX10 TX10 15 tyX10 := ⟨rfl, by decide +kernel, by decide, ws_10, tyX10_ok, nmX10⟩
theorem cl_11 : dk_CL 11 RX11 TX11 17 tyX11 := ⟨rfl, by decide +kernel, by decide, ws_11, tyX11_ok, nmX11⟩
theorem cl_12 : dk_CL 12 RX12 TX12 31 tyX12 := ⟨rfl, by decide +kernel, by decide, ws_12, tyX12_ok, nmX12⟩
theorem pl_0 : dk_is 0 11 := ⟨by decide +kernel, by decide⟩
theorem rf_0_0 : dk_rf 0 0 = some 1 := by decide +kernel
theorem rf_0_1 : dk_rf 0 1 = some 14 := by decide +kernel
theorem rf_0_2 : dk_rf 0 2 = some 37 := by decide +kernel
theorem rf_0_4 : dk_rf 0 4 = some 60 := by decide +kernel
theorem rf_0_5 : dk_rf 0 5 = some 79 := by decide +kernel
theorem rf_0_6 : dk_rf 0 6 = some 81 := by decide +kernel
theorem rf_0_9 : dk_rf 0 9 = some 90 := by decide +kernel
theorem rf_0_11 : dk_rf 0 11 = some 95 := by decide +kernel
theorem rf_0_12 : dk_rf 0 12 = some 96 := by decide +kernel
theorem rf_0_13 : dk_rf 0 13 = some 97 := by decide +kernel
theorem rf_0_14 : dk_rf 0 14 = some 102 := by decide +kernel
theorem rf_0_15 : dk_rf 0 15 = some 103 := by decide +kernel
theorem pl_1 : dk_ar 1 25 6 := ⟨by decide +kernel, by decide, by decide +kernel⟩
theorem rf_1_0 : dk_rf 1 0 = some 2 := by decide +kernel
theorem rf_1_1 : dk_rf 1 1 = some 4 := by decide +kernel
theorem rf_1_2 : dk_rf 1 2 = some 6 := by decide +kernel
theorem rf_1_3 : dk_rf 1 3 = some 8 := by decide +kernel
theorem rf_1_4 : dk_rf 1 4 = some 10 := by decide +kernel
theorem rf_1_5 : dk_rf 1 5 = some 12 := by decide +kernel
theorem pl_2 : dk_is 2 5 := ⟨by decide +kernel, by decide⟩
theorem rf_2_0 : dk_rf 2 0 = some 3 := by decide +kernel
theorem pl_3 : dk_ar 3 20 30 := ⟨by decide +kernel, by decide, by decide +kernel⟩
theorem pl_4 : dk_is 4 0 := ⟨by decide +kernel, by decide⟩
theorem rf_4_0 : dk_rf 4 0 = some 5 := by decide +kernel
theorem pl_5 : dk_ar 5 20 30 := ⟨by decide +kernel, by decide, by decide +kernel⟩
theorem pl_6 : dk_is 6 2 := ⟨by decide +kernel, by decide⟩
theorem rf_6_0 : dk_rf 6 0 = some 7 := by decide +kernel
theorem pl_7 : dk_ar 7 20 30 := ⟨by decide +kernel, by decide, by decide +kernel⟩
theorem pl_8 : dk_is 8 1 := ⟨by decide +kernel, by decide⟩
theorem rf_8_0 : dk_rf 8 0 = some 9 := by decide +kernel
theorem pl_9 : dk_ar 9 20 30 := ⟨by decide +kernel, by decide, by decide +kernel⟩
theorem pl_10 : dk_is 10 3 := ⟨by decide +kernel, by decide⟩
theorem rf_10_0 : dk_rf 10 0 = some 11 := by decide +kernel
theorem pl_11 : dk_ar 11 20 30 := ⟨by decide +kernel, by decide, by decide +kernel⟩
theorem pl_12 : dk_is 12 9 := ⟨by decide +kernel, by decide⟩
theorem rf_12_0 : dk_rf 12 0 = some 13 := by decide +kernel
theorem pl_13 : dk_ar 13 20 30 := ⟨by decide +kernel, by decide, by decide +kernel⟩
theorem pl_14 : dk_is 14 10 := ⟨by decide +kernel, by decide⟩
theorem rf_14_0 : dk_rf 14 0 = some 1 := by decide +kernel
theorem rf_14_2 : dk_rf 14 2 = some 15 := by decide +kernel
theorem rf_14_3 : dk_rf 14 3 = some 16 := by decide +kernel
theorem rf_14_4 : dk_rf 14 4 = some 17 := by decide +kernel
theorem rf_14_5 : dk_rf 14 5 = some 18 := by decide +kernel
theorem rf_14_6 : dk_rf 14 6 = some 19 := by decide +kernel
theorem rf_14_7 : dk_rf 14 7 = some 20 := by decide +kernel
theorem rf_14_8 : dk_rf 14 8 = some 21 := by decide +kernel
theorem rf_14_9 : dk_rf 14 9 = some 22 := by decide +kernel
theorem rf_14_14 : dk_rf 14 14 = some 32 := by decide +kernel
theorem pl_15 : dk_ar 15 20 6 := ⟨by decide +kernel, by decide, by decide +kernel⟩
theorem pl_16 : dk_ar 16 20 6 := ⟨by decide +kernel, by decide, by decide +kernel⟩
theorem pl_17 : dk_ar 17 20 6 := ⟨by decide +kernel, by decide, by decide +kernel⟩
theorem pl_18 : dk_ar 18 20 6 := ⟨by decide +kernel, by decide, by decide +kernel⟩
theorem pl_19 : dk_ar 19 20 16 := ⟨by decide +kernel, by decide, by decide +kernel⟩
theorem pl_20 : dk_ar 20 20 6 := ⟨by decide +kernel, by decide, by decide +kernel⟩
theorem pl_21 : dk_ar 21 20 6 := ⟨by decide +kernel, by decide, by decide +kernel⟩
theorem pl_22 : dk_is 22 4 := ⟨by decide +kernel, by decide⟩
theorem rf_22_2 : dk_rf 22 2 = some 23 := by decide +kernel
theorem pl_23 : dk_ar 23 20 6 := ⟨by decide +kernel, by decide, by decide +kernel⟩
theorem pl_24 : dk_is 24 8 := ⟨by decide +kernel, by decide⟩
theorem rf_24_1 : dk_rf 24 1 = some 25 := by decide +kernel
theorem rf_24_2 : dk_rf 24 2 = some 26 := by decide +kernel
theorem rf_24_3 : dk_rf 24 3 = some 27 := by decide +kernel
theorem rf_24_4 : dk_rf 24 4 = some 28 := by decide +kernel
theorem rf_24_6 : dk_rf 24 6 = some 29 := by decide +kernel
theorem rf_24_7 : dk_rf 24 7 = some 30 := by decide +kernel
theorem rf_24_8 : dk_rf 24 8 = some 31 := by decide +kernel
theorem pl_25 : dk_ar 25 20 8 := ⟨by decide +kernel, by decide, by decide +kernel⟩
theorem pl_26 : dk_ar 26 20 8 := ⟨by decide +kernel, by decide, by decide +kernel⟩
theorem pl_27 : dk_ar 27 20 9 := ⟨by decide +kernel, by decide, by decide +kernel⟩
theorem pl_28 : dk_ar 28 20 200 := ⟨by decide +kernel, by decide, by decide +kernel⟩
theorem pl_29 : dk_ar 29 20 5 := ⟨by decide +kernel, by decide, by decide +kernel⟩
theorem pl_30 : dk_ar 30 20 201 := ⟨by decide +kernel, by decide, by decide +kernel⟩
theorem pl_31 : dk_ar 31 20 201 := ⟨by decide +kernel, by decide, by decide +kernel⟩
theorem pl_32 : dk_is 32 7 := ⟨by decide +kernel, by decide⟩
theorem rf_32_1 : dk_rf 32 1 = some 33 := by decide +kernel
theorem rf_32_2 : dk_rf 32 2 = some 34 := by decide +kernel
theorem rf_32_3 : dk_rf 32 3 = some 35 := by decide +kernel
theorem rf_32_4 : dk_rf 32 4 = some 36 := by decide +kernel
theorem pl_33 : dk_ar 33 20 6 := ⟨by decide +kernel, by decide, by decide +kernel⟩
theorem pl_34 : dk_ar 34 20 6 := ⟨by decide +kernel, by decide, by decide +kernel⟩
theorem pl_35 : dk_ar 35 20 6 := ⟨by decide +kernel, by decide, by decide +kernel⟩
theorem pl_36 : dk_ar 36 20 6 := ⟨by decide +kernel, by decide, by decide +kernel⟩
theorem pl_37 : dk_is 37 10 := ⟨by decide +kernel, by decide⟩
theorem rf_37_0 : dk_rf 37 0 = some 1 := by decide +kernel
theorem rf_37_2 : dk_rf 37 2 = some 38 := by decide +kernel
theorem rf_37_3 : dk_rf 37 3 = some 39 := by decide +kernel
theorem rf_37_4 : dk_rf 37 4 = some 40 := by decide +kernel
theorem rf_37_5 : dk_rf 37 5 = some 41 := by decide +kernel
theorem rf_37_6 : dk_rf 37 6 = some 42 := by decide +kernel
theorem rf_37_7 : dk_rf 37 7 = some 43 := by decide +kernel
theorem rf_37_8 : dk_rf 37 8 = some 44 := by decide +kernel
theorem rf_37_9 : dk_rf 37 9 = some 45 := by decide +kernel
theorem rf_37_14 : dk_rf 37 14 = some 55 := by decide +kernel
theorem pl_38 : dk_ar 38 20 6 := ⟨by decide +kernel, by decide, by decide +kernel⟩
theorem pl_39 : dk_ar 39 20 6 := ⟨by decide +kernel, by decide, by decide +kernel⟩
theorem pl_40 : dk_ar 40 20 6 := ⟨by decide +kernel, by decide, by decide +kernel⟩
theorem pl_41 : dk_ar 41 20 6 := ⟨by decide +kernel, by decide, by decide +kernel⟩
theorem pl_42 : dk_ar 42 20 16 := ⟨by decide +kernel, by decide, by decide +kernel⟩
theorem pl_43 : dk_ar 43 20 6 := ⟨by decide +kernel, by decide, by decide +kernel⟩
theorem pl_44 : dk_ar 44 20 6 := ⟨by decide +kernel, by decide, by decide +kernel⟩
theorem pl_45 : dk_is 45 4 := ⟨by decide +kernel, by decide⟩
theorem rf_45_2 : dk_rf 45 2 = some 46 := by decide +kernel
theorem pl_46 : dk_ar 46 20 6 := ⟨by decide +kernel, by decide, by decide +kernel⟩
theorem pl_47 : dk_is 47 8 := ⟨by decide +kernel, by decide⟩
theorem rf_47_1 : dk_rf 47 1 = some 48 := by decide +kernel
theorem rf_47_2 : dk_rf 47 2 = some 49 := by decide +kernel
theorem rf_47_3 : dk_rf 47 3 = some 50 := by decide +kernel
theorem rf_47_4 : dk_rf 47 4 = some 51 := by decide +kernel
theorem rf_47_6 : dk_rf 47 6 = some 52 := by decide +kernel
theorem rf_47_7 : dk_rf 47 7 = some 53 := by decide +kernel
theorem rf_47_8 : dk_rf 47 8 = some 54 := by decide +kernel
theorem pl_48 : dk_ar 48 20 8 := ⟨by decide +kernel, by decide, by decide +kernel⟩
theorem pl_49 : dk_ar 49 20 8 := ⟨by decide +kernel, by decide, by decide +kernel⟩
theorem pl_50 : dk_ar 50 20 9 := ⟨by decide +kernel, by decide, by decide +kernel⟩
theorem pl_51 : dk_ar 51 20 200 := ⟨by decide +kernel, by decide, by decide +kernel⟩
theorem pl_52 : dk_ar 52 20 5 := ⟨by decide +kernel, by decide, by decide +kernel⟩
theorem pl_53 : dk_ar 53 20 201 := ⟨by decide +kernel, by decide, by decide +kernel⟩
theorem pl_54 : dk_ar 54 20 201 := ⟨by decide +kernel, by decide, by decide +kernel⟩
theorem pl_55 : dk_is 55 7 := ⟨by decide +kernel, by decide⟩
theorem rf_55_1 : dk_rf 55 1 = some 56 := by decide +kernel
theorem rf_55_2 : dk_rf 55 2 = some 57 := by decide +kernel
theorem rf_55_3 : dk_rf 55 3 = some 58 := by decide +kernel
theorem rf_55_4 : dk_rf 55 4 = some 59 := by decide +kernel
theorem pl_56 : dk_ar 56 20 6 := ⟨by decide +kernel, by decide, by decide +kernel⟩
theorem pl_57 : dk_ar 57 20 6 := ⟨by decide +kernel, by decide, by decide +kernel⟩
theorem pl_58 : dk_ar 58 20 6 := ⟨by decide +kernel, by decide, by decide +kernel⟩
theorem pl_59 : dk_ar 59 20 6 := ⟨by decide +kernel, by decide, by decide +kernel⟩
theorem pl_60 : dk_is 60 6 := ⟨by decide +kernel, by decide⟩
theorem rf_60_0 : dk_rf 60 0 = some 14 := by decide +kernel
theorem rf_60_1 : dk_rf 60 1 = some 61 := by decide +kernel
theorem rf_60_2 : dk_rf 60 2 = some 62 := by decide +kernel
theorem rf_60_3 : dk_rf 60 3 = some 68 := by decide +kernel
theorem pl_61 : dk_ar 61 24 5 := ⟨by decide +kernel, by decide, by decide +kernel⟩
theorem rf_61_0 : dk_rf 61 0 = some 69 := by decide +kernel
theorem rf_61_1 : dk_rf 61 1 = some 71 := by decide +kernel
theorem rf_61_2 : dk_rf 61 2 = some 73 := by decide +kernel
theorem rf_61_3 : dk_rf 61 3 = some 75 := by decide +kernel
theorem rf_61_4 : dk_rf 61 4 = some 77 := by decide +kernel
theorem pl_62 : dk_ar 62 26 5 := ⟨by decide +kernel, by decide, by decide +kernel⟩
theorem rf_62_0 : dk_rf 62 0 = some 63 := by decide +kernel
theorem rf_62_1 : dk_rf 62 1 = some 64 := by decide +kernel
theorem rf_62_2 : dk_rf 62 2 = some 65 := by decide +kernel
theorem rf_62_3 : dk_rf 62 3 = some 66 := by decide +kernel
theorem rf_62_4 : dk_rf 62 4 = some 67 := by decide +kernel
theorem pl_63 : dk_ar 63 20 4 := ⟨by decide +kernel, by decide, by decide +kernel⟩
theorem pl_64 : dk_ar 64 20 4 := ⟨by decide +kernel, by decide, by decide +kernel⟩
theorem pl_65 : dk_ar 65 20 4 := ⟨by decide +kernel, by decide, by decide +kernel⟩
theorem pl_66 : dk_ar 66 20 4 := ⟨by decide +kernel, by decide, by decide +kernel⟩
theorem pl_67 : dk_ar 67 20 4 := ⟨by decide +kernel, by decide, by decide +kernel⟩
theorem pl_68 : dk_ar 68 20 5 := ⟨by decide +kernel, by decide, by decide +kernel⟩
theorem pl_69 : dk_is 69 4 := ⟨by decide +kernel, by decide⟩
theorem rf_69_2 : dk_rf 69 2 = some 70 := by decide +kernel
theorem pl_70 : dk_ar 70 20 6 := ⟨by decide +kernel, by decide, by decide +kernel⟩
theorem pl_71 : dk_is 71 4 := ⟨by decide +kernel, by decide⟩
theorem rf_71_2 : dk_rf 71 2 = some 72 := by decide +kernel
theorem pl_72 : dk_ar 72 20 6 := ⟨by decide +kernel, by decide, by decide +kernel⟩
theorem pl_73 : dk_is 73 4 := ⟨by decide +kernel, by decide⟩
theorem rf_73_2 : dk_rf 73 2 = some 74 := by decide +kernel
theorem pl_74 : dk_ar 74 20 6 := ⟨by decide +kernel, by decide, by decide +kernel⟩
theorem pl_75 : dk_is 75 4 := ⟨by decide +kernel, by decide⟩
theorem rf_75_2 : dk_rf 75 2 = some 76 := by decide +kernel
theorem pl_76 : dk_ar 76 20 6 := ⟨by decide +kernel, by decide, by decide +kernel⟩
theorem pl_77 : dk_is 77 4 := ⟨by decide +kernel, by decide⟩
theorem rf_77_2 : dk_rf 77 2 = some 78 := by decide +kernel
theorem pl_78 : dk_ar 78 20 6 := ⟨by decide +kernel, by decide, by decide +kernel⟩
theorem pl_79 : dk_is 79 4 := ⟨by decide +kernel, by decide⟩
theorem rf_79_2 : dk_rf 79 2 = some 80 := by decide +kernel
theorem pl_80 : dk_ar 80 20 6 := ⟨by decide +kernel, by decide, by decide +kernel⟩
theorem pl_81 : dk_ar 81 21 200 := ⟨by decide +kernel, by decide, by decide +kernel⟩
theorem pl_82 : dk_is 82 8 := ⟨by decide +kernel, by decide⟩
theorem rf_82_1 : dk_rf 82 1 = some 83 := by decide +kernel
theorem rf_82_2 : dk_rf 82 2 = some 84 := by decide +kernel
theorem rf_82_3 : dk_rf 82 3 = some 85 := by decide +kernel
theorem rf_82_4 : dk_rf 82 4 = some 86 := by decide +kernel
theorem rf_82_6 : dk_rf 82 6 = some 87 := by decide +kernel
theorem rf_82_7 : dk_rf 82 7 = some 88 := by decide +kernel
theorem rf_82_8 : dk_rf 82 8 = some 89 := by decide +kernel
theorem pl_83 : dk_ar 83 20 8 := ⟨by decide +kernel, by decide, by decide +kernel⟩
theorem pl_84 : dk_ar 84 20 8 := ⟨by decide +kernel, by decide, by decide +kernel⟩
theorem pl_85 : dk_ar 85 20 9 := ⟨by decide +kernel, by decide, by decide +kernel⟩
theorem pl_86 : dk_ar 86 20 200 := ⟨by decide +kernel, by decide, by decide +kernel⟩
theorem pl_87 : dk_ar 87 20 5 := ⟨by decide +kernel, by decide, by decide +kernel⟩
theorem pl_88 : dk_ar 88 20 201 := ⟨by decide +kernel, by decide, by decide +kernel⟩
theorem pl_89 : dk_ar 89 20 201 := ⟨by decide +kernel, by decide, by decide +kernel⟩
theorem pl_90 : dk_ar 90 26 4 := ⟨by decide +kernel, by decide, by decide +kernel⟩
theorem rf_90_0 : dk_rf 90 0 = some 91 := by decide +kernel
theorem rf_90_1 : dk_rf 90 1 = some 92 := by decide +kernel
theorem rf_90_2 : dk_rf 90 2 = some 93 := by decide +kernel
theorem rf_90_3 : dk_rf 90 3 = some 94 := by decide +kernel
theorem pl_91 : dk_ar 91 20 3 := ⟨by decide +kernel, by decide, by decide +kernel⟩
theorem pl_92 : dk_ar 92 20 3 := ⟨by decide +kernel, by decide, by decide +kernel⟩
theorem pl_93 : dk_ar 93 20 3 := ⟨by decide +kernel, by decide, by decide +kernel⟩
theorem pl_94 : dk_ar 94 20 3 := ⟨by decide +kernel, by decide, by decide +kernel⟩
theorem pl_95 : dk_ar 95 20 4 := ⟨by decide +kernel, by decide, by decide +kernel⟩
theorem pl_96 : dk_ar 96 20 4 := ⟨by decide +kernel, by decide, by decide +kernel⟩
theorem pl_97 : dk_ar 97 26 4 := ⟨by decide +kernel, by decide, by decide +kernel⟩
theorem rf_97_0 : dk_rf 97 0 = some 98 := by decide +kernel
theorem rf_97_1 : dk_rf 97 1 = some 99 := by decide +kernel
theorem rf_97_2 : dk_rf 97 2 = some 100 := by decide +kernel
theorem rf_97_3 : dk_rf 97 3 = some 101 := by decide +kernel
theorem pl_98 : dk_ar 98 20 40 := ⟨by decide +kernel, by decide, by decide +kernel⟩
theorem pl_99 : dk_ar 99 20 40 := ⟨by decide +kernel, by decide, by decide +kernel⟩
theorem pl_100 : dk_ar 100 20 40 := ⟨by decide +kernel, by decide, by decide +kernel⟩
theorem pl_101 : dk_ar 101 20 40 := ⟨by decide +kernel, by decide, by decide +kernel⟩
theorem pl_102 : dk_ar 102 20 4 := ⟨by decide +kernel, by decide, by decide +kernel⟩
theorem pl_103 : dk_ar 103 20 4 := ⟨by decide +kernel, by decide, by decide +kernel⟩
theorem pl_104 : dk_is 104 12 := ⟨by decide +kernel, by decide⟩
theorem rf_104_0 : dk_rf 104 0 = some 105 := by decide +kernel
theorem rf_104_1 : dk_rf 104 1 = some 106 := by decide +kernel
theorem rf_104_2 : dk_rf 104 2 = some 107 := by decide +kernel
theorem rf_104_4 : dk_rf 104 4 = some 108 := by decide +kernel
theorem rf_104_13 : dk_rf 104 13 = some 109 := by decide +kernel
theorem rf_104_18 : dk_rf 104 18 = some 110 := by decide +kernel
theorem rf_104_19 : dk_rf 104 19 = some 111 := by decide +kernel
theorem rf_104_21 : dk_rf 104 21 = some 112 := by decide +kernel
theorem rf_104_22 : dk_rf 104 22 = some 113 := by decide +kernel
theorem rf_104_23 : dk_rf 104 23 = some 114 := by decide +kernel
theorem rf_104_24 : dk_rf 104 24 = some 115 := by decide +kernel
theorem rf_104_25 : dk_rf 104 25 = some 116 := by decide +kernel
theorem rf_104_26 : dk_rf 104 26 = some 117 := by decide +kernel
theorem rf_104_27 : dk_rf 104 27 = some 118 := by decide +kernel
theorem rf_104_28 : dk_rf 104 28 = some 119 := by decide +kernel
theorem pl_105 : dk_ar 105 20 621 := ⟨by decide +kernel, by decide, by decide +kernel⟩
theorem pl_106 : dk_ar 106 20 621 := ⟨by decide +kernel, by decide, by decide +kernel⟩
theorem pl_107 : dk_ar 107 20 621 := ⟨by decide +kernel, by decide, by decide +kernel⟩
theorem pl_108 : dk_ar 108 20 200 := ⟨by decide +kernel, by decide, by decide +kernel⟩
theorem pl_109 : dk_ar 109 22 100 := ⟨by decide +kernel, by decide, by decide +kernel⟩
theorem pl_110 : dk_ar 110 20 2484 := ⟨by decide +kernel, by decide, by decide +kernel⟩
theorem pl_111 : dk_ar 111 20 621 := ⟨by decide +kernel, by decide, by decide +kernel⟩
theorem pl_112 : dk_ar 112 20 12 := ⟨by decide +kernel, by decide, by decide +kernel⟩
theorem pl_113 : dk_ar 113 20 4 := ⟨by decide +kernel, by decide, by decide +kernel⟩
theorem pl_114 : dk_ar 114 20 4 := ⟨by decide +kernel, by decide, by decide +kernel⟩
theorem pl_115 : dk_ar 115 23 160 := ⟨by decide +kernel, by decide, by decide +kernel⟩
theorem pl_116 : dk_ar 116 20 4 := ⟨by decide +kernel, by decide, by decide +kernel⟩
theorem pl_117 : dk_ar 117 20 4 := ⟨by decide +kernel, by decide, by decide +kernel⟩
theorem pl_118 : dk_ar 118 20 4 := ⟨by decide +kernel, by decide, by decide +kernel⟩
theorem pl_119 : dk_ar 119 20 30 := ⟨by decide +kernel, by decide, by decide +kernel⟩
theorem f_X5_9_5 : dk_F RX5 9 5 0 true (.array .int) ∧ dk_ft 5 0 = 2 := ⟨⟨RX5, TX5, 5, tyX5, "DominoKin$Piece", cl_5, by decide, rfl, rfl, in_128, Or.inl rfl⟩, by decide +kernel⟩
theorem f_X5_9_0 : dk_F RX5 9 0 0 true (.array .int) ∧ dk_ft 0 0 = 2 := ⟨⟨RX0, TX0, 5, tyX0, "DominoKin$Piece", cl_0, by decide, rfl, rfl, in_128, Or.inl rfl⟩, by decide +kernel⟩
theorem f_X5_9_2 : dk_F RX5 9 2 0 true (.array .int) ∧ dk_ft 2 0 = 2 := ⟨⟨RX2, TX2, 5, tyX2, "DominoKin$Piece", cl_2, by decide, rfl, rfl, in_128, Or.inl rfl⟩, by decide +kernel⟩
theorem f_X5_9_1 : dk_F RX5 9 1 0 true (.array .int) ∧ dk_ft 1 0 = 2 := ⟨⟨RX1, TX1, 5, tyX1, "DominoKin$Piece", cl_1, by decide, rfl, rfl, in_128, Or.inl rfl⟩, by decide +kernel⟩
theorem f_X5_9_3 : dk_F RX5 9 3 0 true (.array .int) ∧ dk_ft 3 0 = 2 := ⟨⟨RX3, TX3, 5, tyX3, "DominoKin$Piece", cl_3, by decide, rfl, rfl, in_128, Or.inl rfl⟩, by decide +kernel⟩
theorem f_X5_9_9 : dk_F RX5 9 9 0 true (.array .int) ∧ dk_ft 9 0 = 2 := ⟨⟨RX9, TX9, 5, tyX9, "DominoKin$Piece", cl_9, by decide, rfl, rfl, in_128, Or.inl rfl⟩, by decide +kernel⟩
theorem f_X11_357_5 : dk_F RX11 357 5 0 true (.array .int) ∧ dk_ft 5 0 = 2 := ⟨⟨RX5, TX5, 5, tyX5, "DominoKin$Piece", cl_5, by decide, rfl, rfl, in_129, Or.inl rfl⟩, by decide +kernel⟩
theorem f_X11_357_0 : dk_F RX11 357 0 0 true (.array .int) ∧ dk_ft 0 0 = 2 := ⟨⟨RX0, TX0, 5, tyX0, "DominoKin$Piece", cl_0, by decide, rfl, rfl, in_129, Or.inl rfl⟩, by decide +kernel⟩
theorem f_X11_357_2 : dk_F RX11 357 2 0 true (.array .int) ∧ dk_ft 2 0 = 2 := ⟨⟨RX2, TX2, 5, tyX2, "DominoKin$Piece", cl_2, by decide, rfl, rfl, in_129, Or.inl rfl⟩, by decide +kernel⟩
theorem f_X11_357_1 : dk_F RX11 357 1 0 true (.array .int) ∧ dk_ft 1 0 = 2 := ⟨⟨RX1, TX1, 5, tyX1, "DominoKin$Piece", cl_1, by decide, rfl, rfl, in_129, Or.inl rfl⟩, by decide +kernel⟩
theorem f_X11_357_3 : dk_F RX11 357 3 0 true (.array .int) ∧ dk_ft 3 0 = 2 := ⟨⟨RX3, TX3, 5, tyX3, "DominoKin$Piece", cl_3, by decide, rfl, rfl, in_129, Or.inl rfl⟩, by decide +kernel⟩
theorem f_X11_357_9 : dk_F RX11 357 9 0 true (.array .int) ∧ dk_ft 9 0 = 2 := ⟨⟨RX9, TX9, 5, tyX9, "DominoKin$Piece", cl_9, by decide, rfl, rfl, in_129, Or.inl rfl⟩, by decide +kernel⟩
theorem f_X5_15_5 : dk_F RX5 15 5 1 false (.int) ∧ dk_ft 5 1 < 2 := ⟨⟨RX5, TX5, 5, tyX5, "DominoKin$Piece", cl_5, by decide, rfl, rfl, in_130, Or.inl rfl⟩, by decide +kernel⟩
theorem f_X5_15_0 : dk_F RX5 15 0 1 false (.int) ∧ dk_ft 0 1 < 2 := ⟨⟨RX0, TX0, 5, tyX0, "DominoKin$Piece", cl_0, by decide, rfl, rfl, in_130, Or.inl rfl⟩, by decide +kernel⟩
theorem f_X5_15_2 : dk_F RX5 15 2 1 false (.int) ∧ dk_ft 2 1 < 2 := ⟨⟨RX2, TX2, 5, tyX2, "DominoKin$Piece", cl_2, by decide, rfl, rfl, in_130, Or.inl rfl⟩, by decide +kernel⟩
theorem f_X5_15_1 : dk_F RX5 15 1 1 false (.int) ∧ dk_ft 1 1 < 2 := ⟨⟨RX1, TX1, 5, tyX1, "DominoKin$Piece", cl_1, by decide, rfl, rfl, in_130, Or.inl rfl⟩, by decide +kernel⟩
theorem f_X5_15_3 : dk_F RX5 15 3 1 false (.int) ∧ dk_ft 3 1 < 2 := ⟨⟨RX3, TX3, 5, tyX3, "DominoKin$Piece", cl_3, by decide, rfl, rfl, in_130, Or.inl rfl⟩, by decide +kernel⟩
theorem f_X5_15_9 : dk_F RX5 15 9 1 false (.int) ∧ dk_ft 9 1 < 2 := ⟨⟨RX9, TX9, 5, tyX9, "DominoKin$Piece", cl_9, by decide, rfl, rfl, in_130, Or.inl rfl⟩, by decide +kernel⟩
theorem f_X11_354_5 : dk_F RX11 354 5 1 false (.int) ∧ dk_ft 5 1 < 2 := ⟨⟨RX5, TX5, 5, tyX5, "DominoKin$Piece", cl_5, by decide, rfl, rfl, in_131, Or.inl rfl⟩, by decide +kernel⟩
theorem f_X11_354_0 : dk_F RX11 354 0 1 false (.int) ∧ dk_ft 0 1 < 2 := ⟨⟨RX0, TX0, 5, tyX0, "DominoKin$Piece", cl_0, by decide, rfl, rfl, in_131, Or.inl rfl⟩, by decide +kernel⟩
theorem f_X11_354_2 : dk_F RX11 354 2 1 false (.int) ∧ dk_ft 2 1 < 2 := ⟨⟨RX2, TX2, 5, tyX2, "DominoKin$Piece", cl_2, by decide, rfl, rfl, in_131, Or.inl rfl⟩, by decide +kernel⟩
theorem f_X11_354_1 : dk_F RX11 354 1 1 false (.int) ∧ dk_ft 1 1 < 2 := ⟨⟨RX1, TX1, 5, tyX1, "DominoKin$Piece", cl_1, by decide, rfl, rfl, in_131, Or.inl rfl⟩, by decide +kernel⟩
theorem f_X11_354_3 : dk_F RX11 354 3 1 false (.int) ∧ dk_ft 3 1 < 2 := ⟨⟨RX3, TX3, 5, tyX3, "DominoKin$Piece", cl_3, by decide, rfl, rfl, in_131, Or.inl rfl⟩, by decide +kernel⟩
theorem f_X11_354_9 : dk_F RX11 354 9 1 false (.int) ∧ dk_ft 9 1 < 2 := ⟨⟨RX9, TX9, 5, tyX9, "DominoKin$Piece", cl_9, by decide, rfl, rfl, in_131, Or.inl rfl⟩, by decide +kernel⟩
theorem f_X5_19_5 : dk_F RX5 19 5 2 false (.boolean) ∧ dk_ft 5 2 < 2 := ⟨⟨RX5, TX5, 5, tyX5, "DominoKin$Piece", cl_5, by decide, rfl, rfl, in_132, Or.inl rfl⟩, by decide +kernel⟩
theorem f_X5_19_0 : dk_F RX5 19 0 2 false (.boolean) ∧ dk_ft 0 2 < 2 := ⟨⟨RX0, TX0, 5, tyX0, "DominoKin$Piece", cl_0, by decide, rfl, rfl, in_132, Or.inl rfl⟩, by decide +kernel⟩
theorem f_X5_19_2 : dk_F RX5 19 2 2 false (.boolean) ∧ dk_ft 2 2 < 2 := ⟨⟨RX2, TX2, 5, tyX2, "DominoKin$Piece", cl_2, by decide, rfl, rfl, in_132, Or.inl rfl⟩, by decide +kernel⟩
theorem f_X5_19_1 : dk_F RX5 19 1 2 false (.boolean) ∧ dk_ft 1 2 < 2 := ⟨⟨RX1, TX1, 5, tyX1, "DominoKin$Piece", cl_1, by decide, rfl, rfl, in_132, Or.inl rfl⟩, by decide +kernel⟩
theorem f_X5_19_3 : dk_F RX5 19 3 2 false (.boolean) ∧ dk_ft 3 2 < 2 := ⟨⟨RX3, TX3, 5, tyX3, "DominoKin$Piece", cl_3, by decide, rfl, rfl, in_132, Or.inl rfl⟩, by decide +kernel⟩
theorem f_X5_19_9 : dk_F RX5 19 9 2 false (.boolean) ∧ dk_ft 9 2 < 2 := ⟨⟨RX9, TX9, 5, tyX9, "DominoKin$Piece", cl_9, by decide, rfl, rfl, in_132, Or.inl rfl⟩, by decide +kernel⟩
theorem f_X11_351_5 : dk_F RX11 351 5 2 false (.boolean) ∧ dk_ft 5 2 < 2 := ⟨⟨RX5, TX5, 5, tyX5, "DominoKin$Piece", cl_5, by decide, rfl, rfl, in_133, Or.inl rfl⟩, by decide +kernel⟩
theorem f_X11_351_0 : dk_F RX11 351 0 2 false (.boolean) ∧ dk_ft 0 2 < 2 := ⟨⟨RX0, TX0, 5, tyX0, "DominoKin$Piece", cl_0, by decide, rfl, rfl, in_133, Or.inl rfl⟩, by decide +kernel⟩
theorem f_X11_351_2 : dk_F RX11 351 2 2 false (.boolean) ∧ dk_ft 2 2 < 2 := ⟨⟨RX2, TX2, 5, tyX2, "DominoKin$Piece", cl_2, by decide, rfl, rfl, in_133, Or.inl rfl⟩, by decide +kernel⟩
theorem f_X11_351_1 : dk_F RX11 351 1 2 false (.boolean) ∧ dk_ft 1 2 < 2 := ⟨⟨RX1, TX1, 5, tyX1, "DominoKin$Piece", cl_1, by decide, rfl, rfl, in_133, Or.inl rfl⟩, by decide +kernel⟩
theorem f_X11_351_3 : dk_F RX11 351 3 2 false (.boolean) ∧ dk_ft 3 2 < 2 := ⟨⟨RX3, TX3, 5, tyX3, "DominoKin$Piece", cl_3, by decide, rfl, rfl, in_133, Or.inl rfl⟩, by decide +kernel⟩
theorem f_X11_351_9 : dk_F RX11 351 9 2 false (.boolean) ∧ dk_ft 9 2 < 2 := ⟨⟨RX9, TX9, 5, tyX9, "DominoKin$Piece", cl_9, by decide, rfl, rfl, in_133, Or.inl rfl⟩, by decide +kernel⟩
theorem f_X5_23_5 : dk_F RX5 23 5 3 false (.int) ∧ dk_ft 5 3 < 2 := ⟨⟨RX5, TX5, 5, tyX5, "DominoKin$Piece", cl_5, by decide, rfl, rfl, in_134, Or.inl rfl⟩, by decide +kernel⟩
theorem f_X5_23_0 : dk_F RX5 23 0 3 false (.int) ∧ dk_ft 0 3 < 2 := ⟨⟨RX0, TX0, 5, tyX0, "DominoKin$Piece", cl_0, by decide, rfl, rfl, in_134, Or.inl rfl⟩, by decide +kernel⟩
theorem f_X5_23_2 : dk_F RX5 23 2 3 false (.int) ∧ dk_ft 2 3 < 2 := ⟨⟨RX2, TX2, 5, tyX2, "DominoKin$Piece", cl_2, by decide, rfl, rfl, in_134, Or.inl rfl⟩, by decide +kernel⟩
theorem f_X5_23_1 : dk_F RX5 23 1 3 false (.int) ∧ dk_ft 1 3 < 2 := ⟨⟨RX1, TX1, 5, tyX1, "DominoKin$Piece", cl_1, by decide, rfl, rfl, in_134, Or.inl rfl⟩, by decide +kernel⟩
theorem f_X5_23_3 : dk_F RX5 23 3 3 false (.int) ∧ dk_ft 3 3 < 2 := ⟨⟨RX3, TX3, 5, tyX3, "DominoKin$Piece", cl_3, by decide, rfl, rfl, in_134, Or.inl rfl⟩, by decide +kernel⟩
theorem f_X5_23_9 : dk_F RX5 23 9 3 false (.int) ∧ dk_ft 9 3 < 2 := ⟨⟨RX9, TX9, 5, tyX9, "DominoKin$Piece", cl_9, by decide, rfl, rfl, in_134, Or.inl rfl⟩, by decide +kernel⟩
theorem f_X9_28_9 : dk_F RX9 28 9 3 false (.int) ∧ dk_ft 9 3 < 2 := ⟨⟨RX9, TX9, 5, tyX9, "DominoKin$Sailor", cl_9, by decide, rfl, rfl, in_135, Or.inr (in_136)⟩, by decide +kernel⟩
theorem f_X5_26_5 : dk_F RX5 26 5 4 false (.int) ∧ dk_ft 5 4 < 2 := ⟨⟨RX5, TX5, 5, tyX5, "DominoKin$Piece", cl_5, by decide, rfl, rfl, in_137, Or.inl rfl⟩, by decide +kernel⟩
theorem f_X5_26_0 : dk_F RX5 26 0 4 false (.int) ∧ dk_ft 0 4 < 2 := ⟨⟨RX0, TX0, 5, tyX0, "DominoKin$Piece", cl_0, by decide, rfl, rfl, in_137, Or.inl rfl⟩, by decide +kernel⟩
theorem f_X5_26_2 : dk_F RX5 26 2 4 false (.int) ∧ dk_ft 2 4 < 2 := ⟨⟨RX2, TX2, 5, tyX2, "DominoKin$Piece", cl_2, by decide, rfl, rfl, in_137, Or.inl rfl⟩, by decide +kernel⟩
theorem f_X5_26_1 : dk_F RX5 26 1 4 false (.int) ∧ dk_ft 1 4 < 2 := ⟨⟨RX1, TX1, 5, tyX1, "DominoKin$Piece", cl_1, by decide, rfl, rfl, in_137, Or.inl rfl⟩, by decide +kernel⟩
theorem f_X5_26_3 : dk_F RX5 26 3 4 false (.int) ∧ dk_ft 3 4 < 2 := ⟨⟨RX3, TX3, 5, tyX3, "DominoKin$Piece", cl_3, by decide, rfl, rfl, in_137, Or.inl rfl⟩, by decide +kernel⟩
theorem f_X5_26_9 : dk_F RX5 26 9 4 false (.int) ∧ dk_ft 9 4 < 2 := ⟨⟨RX9, TX9, 5, tyX9, "DominoKin$Piece", cl_9, by decide, rfl, rfl, in_137, Or.inl rfl⟩, by decide +kernel⟩
theorem f_X1_28_1 : dk_F RX1 28 1 4 false (.int) ∧ dk_ft 1 4 < 2 := ⟨⟨RX1, TX1, 5, tyX1, "DominoKin$Eldest", cl_1, by decide, rfl, rfl, in_138, Or.inr (in_139)⟩, by decide +kernel⟩
theorem f_X4_9_4 : dk_F RX4 9 4 0 false (.int) ∧ dk_ft 4 0 < 2 := ⟨⟨RX4, TX4, 3, tyX4, "DominoKin$Moment", cl_4, by decide, rfl, rfl, in_224, Or.inl rfl⟩, by decide +kernel⟩
theorem f_X11_185_4 : dk_F RX11 185 4 0 false (.int) ∧ dk_ft 4 0 < 2 := ⟨⟨RX4, TX4, 3, tyX4, "DominoKin$Moment", cl_4, by decide, rfl, rfl, in_225, Or.inl rfl⟩, by decide +kernel⟩
theorem f_X10_108_4 : dk_F RX10 108 4 0 false (.int) ∧ dk_ft 4 0 < 2 := ⟨⟨RX4, TX4, 3, tyX4, "DominoKin$Moment", cl_4, by decide, rfl, rfl, in_226, Or.inl rfl⟩, by decide +kernel⟩
theorem f_X4_15_4 : dk_F RX4 15 4 1 false (.int) ∧ dk_ft 4 1 < 2 := ⟨⟨RX4, TX4, 3, tyX4, "DominoKin$Moment", cl_4, by decide, rfl, rfl, in_227, Or.inl rfl⟩, by decide +kernel⟩
theorem f_X6_72_4 : dk_F RX6 72 4 1 false (.int) ∧ dk_ft 4 1 < 2 := ⟨⟨RX4, TX4, 3, tyX4, "DominoKin$Moment", cl_4, by decide, rfl, rfl, in_228, Or.inl rfl⟩, by decide +kernel⟩
theorem f_X11_191_4 : dk_F RX11 191 4 1 false (.int) ∧ dk_ft 4 1 < 2 := ⟨⟨RX4, TX4, 3, tyX4, "DominoKin$Moment", cl_4, by decide, rfl, rfl, in_229, Or.inl rfl⟩, by decide +kernel⟩
theorem f_X4_18_4 : dk_F RX4 18 4 2 true (.array .int) ∧ dk_ft 4 2 = 2 := ⟨⟨RX4, TX4, 3, tyX4, "DominoKin$Moment", cl_4, by decide, rfl, rfl, in_230, Or.inl rfl⟩, by decide +kernel⟩
theorem f_X10_93_4 : dk_F RX10 93 4 2 true (.array .int) ∧ dk_ft 4 2 = 2 := ⟨⟨RX4, TX4, 3, tyX4, "DominoKin$Moment", cl_4, by decide, rfl, rfl, in_231, Or.inl rfl⟩, by decide +kernel⟩
theorem f_X11_133_4 : dk_F RX11 133 4 2 true (.array .int) ∧ dk_ft 4 2 = 2 := ⟨⟨RX4, TX4, 3, tyX4, "DominoKin$Moment", cl_4, by decide, rfl, rfl, in_232, Or.inl rfl⟩, by decide +kernel⟩
theorem f_X8_9_8 : dk_F RX8 9 8 0 false (.int) ∧ dk_ft 8 0 < 2 := ⟨⟨RX8, TX8, 10, tyX8, "DominoKin$RuleBook", cl_8, by decide, rfl, rfl, in_246, Or.inl rfl⟩, by decide +kernel⟩
theorem f_X10_129_8 : dk_F RX10 129 8 0 false (.int) ∧ dk_ft 8 0 < 2 := ⟨⟨RX8, TX8, 10, tyX8, "DominoKin$RuleBook", cl_8, by decide, rfl, rfl, in_247, Or.inl rfl⟩, by decide +kernel⟩
theorem f_X11_360_8 : dk_F RX11 360 8 0 false (.int) ∧ dk_ft 8 0 < 2 := ⟨⟨RX8, TX8, 10, tyX8, "DominoKin$RuleBook", cl_8, by decide, rfl, rfl, in_248, Or.inl rfl⟩, by decide +kernel⟩
theorem f_X8_15_8 : dk_F RX8 15 8 1 true (.array .int) ∧ dk_ft 8 1 = 2 := ⟨⟨RX8, TX8, 10, tyX8, "DominoKin$RuleBook", cl_8, by decide, rfl, rfl, in_249, Or.inl rfl⟩, by decide +kernel⟩
theorem f_X10_134_8 : dk_F RX10 134 8 1 true (.array .int) ∧ dk_ft 8 1 = 2 := ⟨⟨RX8, TX8, 10, tyX8, "DominoKin$RuleBook", cl_8, by decide, rfl, rfl, in_250, Or.inl rfl⟩, by decide +kernel⟩
theorem f_X8_19_8 : dk_F RX8 19 8 2 true (.array .int) ∧ dk_ft 8 2 = 2 := ⟨⟨RX8, TX8, 10, tyX8, "DominoKin$RuleBook", cl_8, by decide, rfl, rfl, in_251, Or.inl rfl⟩, by decide +kernel⟩
theorem f_X10_143_8 : dk_F RX10 143 8 2 true (.array .int) ∧ dk_ft 8 2 = 2 := ⟨⟨RX8, TX8, 10, tyX8, "DominoKin$RuleBook", cl_8, by decide, rfl, rfl, in_252, Or.inl rfl⟩, by decide +kernel⟩
theorem f_X8_22_8 : dk_F RX8 22 8 3 true (.array .int) ∧ dk_ft 8 3 = 2 := ⟨⟨RX8, TX8, 10, tyX8, "DominoKin$RuleBook", cl_8, by decide, rfl, rfl, in_253, Or.inl rfl⟩, by decide +kernel⟩
theorem f_X8_25_8 : dk_F RX8 25 8 4 true (.array .int) ∧ dk_ft 8 4 = 2 := ⟨⟨RX8, TX8, 10, tyX8, "DominoKin$RuleBook", cl_8, by decide, rfl, rfl, in_254, Or.inl rfl⟩, by decide +kernel⟩
theorem f_X8_28_8 : dk_F RX8 28 8 5 false (.int) ∧ dk_ft 8 5 < 2 := ⟨⟨RX8, TX8, 10, tyX8, "DominoKin$RuleBook", cl_8, by decide, rfl, rfl, in_255, Or.inl rfl⟩, by decide +kernel⟩
theorem f_X8_31_8 : dk_F RX8 31 8 6 true (.array .int) ∧ dk_ft 8 6 = 2 := ⟨⟨RX8, TX8, 10, tyX8, "DominoKin$RuleBook", cl_8, by decide, rfl, rfl, in_256, Or.inl rfl⟩, by decide +kernel⟩
theorem f_X8_34_8 : dk_F RX8 34 8 7 true (.array .int) ∧ dk_ft 8 7 = 2 := ⟨⟨RX8, TX8, 10, tyX8, "DominoKin$RuleBook", cl_8, by decide, rfl, rfl, in_257, Or.inl rfl⟩, by decide +kernel⟩
theorem f_X8_37_8 : dk_F RX8 37 8 8 true (.array .int) ∧ dk_ft 8 8 = 2 := ⟨⟨RX8, TX8, 10, tyX8, "DominoKin$RuleBook", cl_8, by decide, rfl, rfl, in_258, Or.inl rfl⟩, by decide +kernel⟩
theorem f_X8_40_8 : dk_F RX8 40 8 9 false (.int) ∧ dk_ft 8 9 < 2 := ⟨⟨RX8, TX8, 10, tyX8, "DominoKin$RuleBook", cl_8, by decide, rfl, rfl, in_259, Or.inl rfl⟩, by decide +kernel⟩
theorem f_X7_9_7 : dk_F RX7 9 7 0 false (.int) ∧ dk_ft 7 0 < 2 := ⟨⟨RX7, TX7, 10, tyX7, "DominoKin$Reports", cl_7, by decide, rfl, rfl, in_287, Or.inl rfl⟩, by decide +kernel⟩
theorem f_X11_285_7 : dk_F RX11 285 7 0 false (.int) ∧ dk_ft 7 0 < 2 := ⟨⟨RX7, TX7, 10, tyX7, "DominoKin$Reports", cl_7, by decide, rfl, rfl, in_288, Or.inl rfl⟩, by decide +kernel⟩
theorem f_X7_15_7 : dk_F RX7 15 7 1 true (.array .int) ∧ dk_ft 7 1 = 2 := ⟨⟨RX7, TX7, 10, tyX7, "DominoKin$Reports", cl_7, by decide, rfl, rfl, in_289, Or.inl rfl⟩, by decide +kernel⟩
theorem f_X7_19_7 : dk_F RX7 19 7 2 true (.array .int) ∧ dk_ft 7 2 = 2 := ⟨⟨RX7, TX7, 10, tyX7, "DominoKin$Reports", cl_7, by decide, rfl, rfl, in_290, Or.inl rfl⟩, by decide +kernel⟩
theorem f_X7_22_7 : dk_F RX7 22 7 3 true (.array .int) ∧ dk_ft 7 3 = 2 := ⟨⟨RX7, TX7, 10, tyX7, "DominoKin$Reports", cl_7, by decide, rfl, rfl, in_291, Or.inl rfl⟩, by decide +kernel⟩
theorem f_X7_25_7 : dk_F RX7 25 7 4 true (.array .int) ∧ dk_ft 7 4 = 2 := ⟨⟨RX7, TX7, 10, tyX7, "DominoKin$Reports", cl_7, by decide, rfl, rfl, in_292, Or.inl rfl⟩, by decide +kernel⟩
theorem f_X7_28_7 : dk_F RX7 28 7 5 false (.int) ∧ dk_ft 7 5 < 2 := ⟨⟨RX7, TX7, 10, tyX7, "DominoKin$Reports", cl_7, by decide, rfl, rfl, in_293, Or.inl rfl⟩, by decide +kernel⟩
theorem f_X11_292_7 : dk_F RX11 292 7 5 false (.int) ∧ dk_ft 7 5 < 2 := ⟨⟨RX7, TX7, 10, tyX7, "DominoKin$Reports", cl_7, by decide, rfl, rfl, in_294, Or.inl rfl⟩, by decide +kernel⟩
theorem f_X7_31_7 : dk_F RX7 31 7 6 false (.int) ∧ dk_ft 7 6 < 2 := ⟨⟨RX7, TX7, 10, tyX7, "DominoKin$Reports", cl_7, by decide, rfl, rfl, in_295, Or.inl rfl⟩, by decide +kernel⟩
theorem f_X11_295_7 : dk_F RX11 295 7 6 false (.int) ∧ dk_ft 7 6 < 2 := ⟨⟨RX7, TX7, 10, tyX7, "DominoKin$Reports", cl_7, by decide, rfl, rfl, in_296, Or.inl rfl⟩, by decide +kernel⟩
theorem f_X7_34_7 : dk_F RX7 34 7 7 false (.int) ∧ dk_ft 7 7 < 2 := ⟨⟨RX7, TX7, 10, tyX7, "DominoKin$Reports", cl_7, by decide, rfl, rfl, in_297, Or.inl rfl⟩, by decide +kernel⟩
theorem f_X11_298_7 : dk_F RX11 298 7 7 false (.int) ∧ dk_ft 7 7 < 2 := ⟨⟨RX7, TX7, 10, tyX7, "DominoKin$Reports", cl_7, by decide, rfl, rfl, in_298, Or.inl rfl⟩, by decide +kernel⟩
theorem f_X7_37_7 : dk_F RX7 37 7 8 false (.int) ∧ dk_ft 7 8 < 2 := ⟨⟨RX7, TX7, 10, tyX7, "DominoKin$Reports", cl_7, by decide, rfl, rfl, in_299, Or.inl rfl⟩, by decide +kernel⟩
theorem f_X11_301_7 : dk_F RX11 301 7 8 false (.int) ∧ dk_ft 7 8 < 2 := ⟨⟨RX7, TX7, 10, tyX7, "DominoKin$Reports", cl_7, by decide, rfl, rfl, in_300, Or.inl rfl⟩, by decide +kernel⟩
theorem f_X7_40_7 : dk_F RX7 40 7 9 false (.int) ∧ dk_ft 7 9 < 2 := ⟨⟨RX7, TX7, 10, tyX7, "DominoKin$Reports", cl_7, by decide, rfl, rfl, in_301, Or.inl rfl⟩, by decide +kernel⟩
theorem f_X11_304_7 : dk_F RX11 304 7 9 false (.int) ∧ dk_ft 7 9 < 2 := ⟨⟨RX7, TX7, 10, tyX7, "DominoKin$Reports", cl_7, by decide, rfl, rfl, in_302, Or.inl rfl⟩, by decide +kernel⟩
theorem f_X10_67_10 : dk_F RX10 67 10 0 true (.array (.object "DominoKin$Piece")) ∧ dk_ft 10 0 = 2 := ⟨⟨RX10, TX10, 15, tyX10, "DominoKin$Street", cl_10, by decide, rfl, rfl, in_327, Or.inl rfl⟩, by decide +kernel⟩
theorem f_X7_53_10 : dk_F RX7 53 10 0 true (.array (.object "DominoKin$Piece")) ∧ dk_ft 10 0 = 2 := ⟨⟨RX10, TX10, 15, tyX10, "DominoKin$Street", cl_10, by decide, rfl, rfl, in_328, Or.inl rfl⟩, by decide +kernel⟩
theorem f_X10_9_10 : dk_F RX10 9 10 1 false (.int) ∧ dk_ft 10 1 < 2 := ⟨⟨RX10, TX10, 15, tyX10, "DominoKin$Street", cl_10, by decide, rfl, rfl, in_329, Or.inl rfl⟩, by decide +kernel⟩
theorem f_X11_116_10 : dk_F RX11 116 10 1 false (.int) ∧ dk_ft 10 1 < 2 := ⟨⟨RX10, TX10, 15, tyX10, "DominoKin$Street", cl_10, by decide, rfl, rfl, in_330, Or.inl rfl⟩, by decide +kernel⟩
theorem f_X6_64_10 : dk_F RX6 64 10 1 false (.int) ∧ dk_ft 10 1 < 2 := ⟨⟨RX10, TX10, 15, tyX10, "DominoKin$Street", cl_10, by decide, rfl, rfl, in_331, Or.inl rfl⟩, by decide +kernel⟩
theorem f_X10_15_10 : dk_F RX10 15 10 2 true (.array .int) ∧ dk_ft 10 2 = 2 := ⟨⟨RX10, TX10, 15, tyX10, "DominoKin$Street", cl_10, by decide, rfl, rfl, in_332, Or.inl rfl⟩, by decide +kernel⟩
theorem f_X11_130_10 : dk_F RX11 130 10 2 true (.array .int) ∧ dk_ft 10 2 = 2 := ⟨⟨RX10, TX10, 15, tyX10, "DominoKin$Street", cl_10, by decide, rfl, rfl, in_333, Or.inl rfl⟩, by decide +kernel⟩
theorem f_X10_19_10 : dk_F RX10 19 10 3 true (.array .int) ∧ dk_ft 10 3 = 2 := ⟨⟨RX10, TX10, 15, tyX10, "DominoKin$Street", cl_10, by decide, rfl, rfl, in_334, Or.inl rfl⟩, by decide +kernel⟩
theorem f_X11_136_10 : dk_F RX11 136 10 3 true (.array .int) ∧ dk_ft 10 3 = 2 := ⟨⟨RX10, TX10, 15, tyX10, "DominoKin$Street", cl_10, by decide, rfl, rfl, in_335, Or.inl rfl⟩, by decide +kernel⟩
theorem f_X10_22_10 : dk_F RX10 22 10 4 true (.array .int) ∧ dk_ft 10 4 = 2 := ⟨⟨RX10, TX10, 15, tyX10, "DominoKin$Street", cl_10, by decide, rfl, rfl, in_336, Or.inl rfl⟩, by decide +kernel⟩
theorem f_X11_139_10 : dk_F RX11 139 10 4 true (.array .int) ∧ dk_ft 10 4 = 2 := ⟨⟨RX10, TX10, 15, tyX10, "DominoKin$Street", cl_10, by decide, rfl, rfl, in_337, Or.inl rfl⟩, by decide +kernel⟩
theorem f_X10_25_10 : dk_F RX10 25 10 5 true (.array .int) ∧ dk_ft 10 5 = 2 := ⟨⟨RX10, TX10, 15, tyX10, "DominoKin$Street", cl_10, by decide, rfl, rfl, in_338, Or.inl rfl⟩, by decide +kernel⟩
theorem f_X11_149_10 : dk_F RX11 149 10 5 true (.array .int) ∧ dk_ft 10 5 = 2 := ⟨⟨RX10, TX10, 15, tyX10, "DominoKin$Street", cl_10, by decide, rfl, rfl, in_339, Or.inl rfl⟩, by decide +kernel⟩
theorem f_X10_28_10 : dk_F RX10 28 10 6 true (.array .int) ∧ dk_ft 10 6 = 2 := ⟨⟨RX10, TX10, 15, tyX10, "DominoKin$Street", cl_10, by decide, rfl, rfl, in_340, Or.inl rfl⟩, by decide +kernel⟩
theorem f_X11_176_10 : dk_F RX11 176 10 6 true (.array .int) ∧ dk_ft 10 6 = 2 := ⟨⟨RX10, TX10, 15, tyX10, "DominoKin$Street", cl_10, by decide, rfl, rfl, in_341, Or.inl rfl⟩, by decide +kernel⟩
theorem f_X10_31_10 : dk_F RX10 31 10 7 true (.array .int) ∧ dk_ft 10 7 = 2 := ⟨⟨RX10, TX10, 15, tyX10, "DominoKin$Street", cl_10, by decide, rfl, rfl, in_342, Or.inl rfl⟩, by decide +kernel⟩
theorem f_X11_179_10 : dk_F RX11 179 10 7 true (.array .int) ∧ dk_ft 10 7 = 2 := ⟨⟨RX10, TX10, 15, tyX10, "DominoKin$Street", cl_10, by decide, rfl, rfl, in_343, Or.inl rfl⟩, by decide +kernel⟩
theorem f_X10_34_10 : dk_F RX10 34 10 8 true (.array .int) ∧ dk_ft 10 8 = 2 := ⟨⟨RX10, TX10, 15, tyX10, "DominoKin$Street", cl_10, by decide, rfl, rfl, in_344, Or.inl rfl⟩, by decide +kernel⟩
theorem f_X11_182_10 : dk_F RX11 182 10 8 true (.array .int) ∧ dk_ft 10 8 = 2 := ⟨⟨RX10, TX10, 15, tyX10, "DominoKin$Street", cl_10, by decide, rfl, rfl, in_345, Or.inl rfl⟩, by decide +kernel⟩
theorem f_X10_40_10 : dk_F RX10 40 10 9 true (.object "DominoKin$Moment") ∧ dk_ft 10 9 = 2 := ⟨⟨RX10, TX10, 15, tyX10, "DominoKin$Street", cl_10, by decide, rfl, rfl, in_346, Or.inl rfl⟩, by decide +kernel⟩
theorem f_X6_31_10 : dk_F RX6 31 10 9 true (.object "DominoKin$Moment") ∧ dk_ft 10 9 = 2 := ⟨⟨RX10, TX10, 15, tyX10, "DominoKin$Street", cl_10, by decide, rfl, rfl, in_347, Or.inl rfl⟩, by decide +kernel⟩
theorem f_X11_127_10 : dk_F RX11 127 10 9 true (.object "DominoKin$Moment") ∧ dk_ft 10 9 = 2 := ⟨⟨RX10, TX10, 15, tyX10, "DominoKin$Street", cl_10, by decide, rfl, rfl, in_348, Or.inl rfl⟩, by decide +kernel⟩
theorem f_X10_44_10 : dk_F RX10 44 10 10 false (.int) ∧ dk_ft 10 10 < 2 := ⟨⟨RX10, TX10, 15, tyX10, "DominoKin$Street", cl_10, by decide, rfl, rfl, in_349, Or.inl rfl⟩, by decide +kernel⟩
theorem f_X11_188_10 : dk_F RX11 188 10 10 false (.int) ∧ dk_ft 10 10 < 2 := ⟨⟨RX10, TX10, 15, tyX10, "DominoKin$Street", cl_10, by decide, rfl, rfl, in_350, Or.inl rfl⟩, by decide +kernel⟩
theorem f_X10_47_10 : dk_F RX10 47 10 11 false (.int) ∧ dk_ft 10 11 < 2 := ⟨⟨RX10, TX10, 15, tyX10, "DominoKin$Street", cl_10, by decide, rfl, rfl, in_351, Or.inl rfl⟩, by decide +kernel⟩
theorem f_X11_194_10 : dk_F RX11 194 10 11 false (.int) ∧ dk_ft 10 11 < 2 := ⟨⟨RX10, TX10, 15, tyX10, "DominoKin$Street", cl_10, by decide, rfl, rfl, in_352, Or.inl rfl⟩, by decide +kernel⟩
theorem f_X10_50_10 : dk_F RX10 50 10 12 false (.int) ∧ dk_ft 10 12 < 2 := ⟨⟨RX10, TX10, 15, tyX10, "DominoKin$Street", cl_10, by decide, rfl, rfl, in_353, Or.inl rfl⟩, by decide +kernel⟩
theorem f_X11_307_10 : dk_F RX11 307 10 12 false (.int) ∧ dk_ft 10 12 < 2 := ⟨⟨RX10, TX10, 15, tyX10, "DominoKin$Street", cl_10, by decide, rfl, rfl, in_354, Or.inl rfl⟩, by decide +kernel⟩
theorem f_X10_56_10 : dk_F RX10 56 10 13 false (.object "DominoKin$RuleBook") ∧ dk_ft 10 13 = 3 := ⟨⟨RX10, TX10, 15, tyX10, "DominoKin$Street", cl_10, by decide, rfl, rfl, in_355, Or.inl rfl⟩, by decide +kernel⟩
theorem f_X11_213_10 : dk_F RX11 213 10 13 false (.object "DominoKin$RuleBook") ∧ dk_ft 10 13 = 3 := ⟨⟨RX10, TX10, 15, tyX10, "DominoKin$Street", cl_10, by decide, rfl, rfl, in_356, Or.inl rfl⟩, by decide +kernel⟩
theorem f_X10_63_10 : dk_F RX10 63 10 14 true (.object "DominoKin$Reports") ∧ dk_ft 10 14 = 2 := ⟨⟨RX10, TX10, 15, tyX10, "DominoKin$Street", cl_10, by decide, rfl, rfl, in_357, Or.inl rfl⟩, by decide +kernel⟩
theorem f_X11_281_10 : dk_F RX11 281 10 14 true (.object "DominoKin$Reports") ∧ dk_ft 10 14 = 2 := ⟨⟨RX10, TX10, 15, tyX10, "DominoKin$Street", cl_10, by decide, rfl, rfl, in_358, Or.inl rfl⟩, by decide +kernel⟩
theorem f_X6_26_6 : dk_F RX6 26 6 0 true (.object "DominoKin$Street") ∧ dk_ft 6 0 = 2 := ⟨⟨RX6, TX6, 4, tyX6, "DominoKin$Planner", cl_6, by decide, rfl, rfl, in_401, Or.inl rfl⟩, by decide +kernel⟩
theorem f_X6_11_6 : dk_F RX6 11 6 1 true (.array (.object "DominoKin$Moment")) ∧ dk_ft 6 1 = 2 := ⟨⟨RX6, TX6, 4, tyX6, "DominoKin$Planner", cl_6, by decide, rfl, rfl, in_402, Or.inl rfl⟩, by decide +kernel⟩
theorem f_X6_19_6 : dk_F RX6 19 6 2 true (.array (.array .int)) ∧ dk_ft 6 2 = 2 := ⟨⟨RX6, TX6, 4, tyX6, "DominoKin$Planner", cl_6, by decide, rfl, rfl, in_403, Or.inl rfl⟩, by decide +kernel⟩
theorem f_X11_260_6 : dk_F RX11 260 6 2 true (.array (.array .int)) ∧ dk_ft 6 2 = 2 := ⟨⟨RX6, TX6, 4, tyX6, "DominoKin$Planner", cl_6, by decide, rfl, rfl, in_404, Or.inl rfl⟩, by decide +kernel⟩
theorem f_X6_22_6 : dk_F RX6 22 6 3 true (.array .int) ∧ dk_ft 6 3 = 2 := ⟨⟨RX6, TX6, 4, tyX6, "DominoKin$Planner", cl_6, by decide, rfl, rfl, in_405, Or.inl rfl⟩, by decide +kernel⟩
theorem f_X11_263_6 : dk_F RX11 263 6 3 true (.array .int) ∧ dk_ft 6 3 = 2 := ⟨⟨RX6, TX6, 4, tyX6, "DominoKin$Planner", cl_6, by decide, rfl, rfl, in_406, Or.inl rfl⟩, by decide +kernel⟩
theorem f_X11_25_11 : dk_F RX11 25 11 0 true (.array (.object "DominoKin$Piece")) ∧ dk_ft 11 0 = 2 := ⟨⟨RX11, TX11, 17, tyX11, "DominoKin", cl_11, by decide, rfl, rfl, in_422, Or.inl rfl⟩, by decide +kernel⟩
theorem f_X11_36_11 : dk_F RX11 36 11 1 true (.object "DominoKin$Street") ∧ dk_ft 11 1 = 2 := ⟨⟨RX11, TX11, 17, tyX11, "DominoKin", cl_11, by decide, rfl, rfl, in_423, Or.inl rfl⟩, by decide +kernel⟩
theorem f_X11_40_11 : dk_F RX11 40 11 2 true (.object "DominoKin$Street") ∧ dk_ft 11 2 = 2 := ⟨⟨RX11, TX11, 17, tyX11, "DominoKin", cl_11, by decide, rfl, rfl, in_424, Or.inl rfl⟩, by decide +kernel⟩
theorem f_X11_43_11 : dk_F RX11 43 11 3 false (.boolean) ∧ dk_ft 11 3 < 2 := ⟨⟨RX11, TX11, 17, tyX11, "DominoKin", cl_11, by decide, rfl, rfl, in_425, Or.inl rfl⟩, by decide +kernel⟩
theorem f_X11_52_11 : dk_F RX11 52 11 4 true (.object "DominoKin$Planner") ∧ dk_ft 11 4 = 2 := ⟨⟨RX11, TX11, 17, tyX11, "DominoKin", cl_11, by decide, rfl, rfl, in_426, Or.inl rfl⟩, by decide +kernel⟩
theorem f_X11_59_11 : dk_F RX11 59 11 5 true (.object "DominoKin$Moment") ∧ dk_ft 11 5 = 2 := ⟨⟨RX11, TX11, 17, tyX11, "DominoKin", cl_11, by decide, rfl, rfl, in_427, Or.inl rfl⟩, by decide +kernel⟩
theorem f_X11_63_11 : dk_F RX11 63 11 6 true (.array .byte) ∧ dk_ft 11 6 = 2 := ⟨⟨RX11, TX11, 17, tyX11, "DominoKin", cl_11, by decide, rfl, rfl, in_428, Or.inl rfl⟩, by decide +kernel⟩
theorem f_X11_67_11 : dk_F RX11 67 11 7 false (.int) ∧ dk_ft 11 7 < 2 := ⟨⟨RX11, TX11, 17, tyX11, "DominoKin", cl_11, by decide, rfl, rfl, in_429, Or.inl rfl⟩, by decide +kernel⟩
theorem f_X11_74_11 : dk_F RX11 74 11 8 false (.object "DominoKin$RuleBook") ∧ dk_ft 11 8 = 3 := ⟨⟨RX11, TX11, 17, tyX11, "DominoKin", cl_11, by decide, rfl, rfl, in_430, Or.inl rfl⟩, by decide +kernel⟩
theorem f_X11_80_11 : dk_F RX11 80 11 9 true (.array (.array .int)) ∧ dk_ft 11 9 = 2 := ⟨⟨RX11, TX11, 17, tyX11, "DominoKin", cl_11, by decide, rfl, rfl, in_431, Or.inl rfl⟩, by decide +kernel⟩
theorem f_X11_83_11 : dk_F RX11 83 11 10 false (.int) ∧ dk_ft 11 10 < 2 := ⟨⟨RX11, TX11, 17, tyX11, "DominoKin", cl_11, by decide, rfl, rfl, in_432, Or.inl rfl⟩, by decide +kernel⟩
theorem f_X11_86_11 : dk_F RX11 86 11 11 true (.array .int) ∧ dk_ft 11 11 = 2 := ⟨⟨RX11, TX11, 17, tyX11, "DominoKin", cl_11, by decide, rfl, rfl, in_433, Or.inl rfl⟩, by decide +kernel⟩
theorem f_X11_90_11 : dk_F RX11 90 11 12 true (.array .int) ∧ dk_ft 11 12 = 2 := ⟨⟨RX11, TX11, 17, tyX11, "DominoKin", cl_11, by decide, rfl, rfl, in_434, Or.inl rfl⟩, by decide +kernel⟩
theorem f_X11_93_11 : dk_F RX11 93 11 13 true (.array (.array .int)) ∧ dk_ft 11 13 = 2 := ⟨⟨RX11, TX11, 17, tyX11, "DominoKin", cl_11, by decide, rfl, rfl, in_435, Or.inl rfl⟩, by decide +kernel⟩
theorem f_X11_96_11 : dk_F RX11 96 11 14 true (.array .int) ∧ dk_ft 11 14 = 2 := ⟨⟨RX11, TX11, 17, tyX11, "DominoKin", cl_11, by decide, rfl, rfl, in_436, Or.inl rfl⟩, by decide +kernel⟩
theorem f_X11_99_11 : dk_F RX11 99 11 15 true (.array .int) ∧ dk_ft 11 15 = 2 := ⟨⟨RX11, TX11, 17, tyX11, "DominoKin", cl_11, by decide, rfl, rfl, in_437, Or.inl rfl⟩, by decide +kernel⟩
theorem f_X11_102_11 : dk_F RX11 102 11 16 false (.object "DominoKin$Piece") ∧ dk_ft 11 16 = 3 := ⟨⟨RX11, TX11, 17, tyX11, "DominoKin", cl_11, by decide, rfl, rfl, in_438, Or.inl rfl⟩, by decide +kernel⟩
theorem f_X12_9_12 : dk_F RX12 9 12 0 true (.array .int) ∧ dk_ft 12 0 = 2 := ⟨⟨RX12, TX12, 31, tyX12, "DominoKinModel", cl_12, by decide, rfl, rfl, in_1254, Or.inl rfl⟩, by decide +kernel⟩
theorem f_X12_13_12 : dk_F RX12 13 12 1 true (.array .int) ∧ dk_ft 12 1 = 2 := ⟨⟨RX12, TX12, 31, tyX12, "DominoKinModel", cl_12, by decide, rfl, rfl, in_1255, Or.inl rfl⟩, by decide +kernel⟩
theorem f_X12_16_12 : dk_F RX12 16 12 2 true (.array .int) ∧ dk_ft 12 2 = 2 := ⟨⟨RX12, TX12, 31, tyX12, "DominoKinModel", cl_12, by decide, rfl, rfl, in_1256, Or.inl rfl⟩, by decide +kernel⟩
theorem f_X12_346_12 : dk_F RX12 346 12 3 false (.boolean) ∧ dk_ft 12 3 < 2 := ⟨⟨RX12, TX12, 31, tyX12, "DominoKinModel", cl_12, by decide, rfl, rfl, in_1257, Or.inl rfl⟩, by decide +kernel⟩
theorem f_X12_19_12 : dk_F RX12 19 12 4 true (.array .int) ∧ dk_ft 12 4 = 2 := ⟨⟨RX12, TX12, 31, tyX12, "DominoKinModel", cl_12, by decide, rfl, rfl, in_1258, Or.inl rfl⟩, by decide +kernel⟩
theorem f_X12_131_12 : dk_F RX12 131 12 5 false (.int) ∧ dk_ft 12 5 < 2 := ⟨⟨RX12, TX12, 31, tyX12, "DominoKinModel", cl_12, by decide, rfl, rfl, in_1259, Or.inl rfl⟩, by decide +kernel⟩
theorem f_X12_155_12 : dk_F RX12 155 12 6 false (.int) ∧ dk_ft 12 6 < 2 := ⟨⟨RX12, TX12, 31, tyX12, "DominoKinModel", cl_12, by decide, rfl, rfl, in_1260, Or.inl rfl⟩, by decide +kernel⟩
theorem f_X12_140_12 : dk_F RX12 140 12 7 false (.int) ∧ dk_ft 12 7 < 2 := ⟨⟨RX12, TX12, 31, tyX12, "DominoKinModel", cl_12, by decide, rfl, rfl, in_1261, Or.inl rfl⟩, by decide +kernel⟩
theorem f_X12_143_12 : dk_F RX12 143 12 8 false (.int) ∧ dk_ft 12 8 < 2 := ⟨⟨RX12, TX12, 31, tyX12, "DominoKinModel", cl_12, by decide, rfl, rfl, in_1262, Or.inl rfl⟩, by decide +kernel⟩
theorem f_X12_152_12 : dk_F RX12 152 12 9 false (.int) ∧ dk_ft 12 9 < 2 := ⟨⟨RX12, TX12, 31, tyX12, "DominoKinModel", cl_12, by decide, rfl, rfl, in_1263, Or.inl rfl⟩, by decide +kernel⟩
theorem f_X12_164_12 : dk_F RX12 164 12 10 false (.boolean) ∧ dk_ft 12 10 < 2 := ⟨⟨RX12, TX12, 31, tyX12, "DominoKinModel", cl_12, by decide, rfl, rfl, in_1264, Or.inl rfl⟩, by decide +kernel⟩
theorem f_X12_177_12 : dk_F RX12 177 12 11 false (.int) ∧ dk_ft 12 11 < 2 := ⟨⟨RX12, TX12, 31, tyX12, "DominoKinModel", cl_12, by decide, rfl, rfl, in_1265, Or.inl rfl⟩, by decide +kernel⟩
theorem f_X12_171_12 : dk_F RX12 171 12 12 false (.int) ∧ dk_ft 12 12 < 2 := ⟨⟨RX12, TX12, 31, tyX12, "DominoKinModel", cl_12, by decide, rfl, rfl, in_1266, Or.inl rfl⟩, by decide +kernel⟩
theorem f_X12_22_12 : dk_F RX12 22 12 13 true (.array .boolean) ∧ dk_ft 12 13 = 2 := ⟨⟨RX12, TX12, 31, tyX12, "DominoKinModel", cl_12, by decide, rfl, rfl, in_1267, Or.inl rfl⟩, by decide +kernel⟩
theorem f_X12_250_12 : dk_F RX12 250 12 14 false (.int) ∧ dk_ft 12 14 < 2 := ⟨⟨RX12, TX12, 31, tyX12, "DominoKinModel", cl_12, by decide, rfl, rfl, in_1268, Or.inl rfl⟩, by decide +kernel⟩
theorem f_X12_265_12 : dk_F RX12 265 12 15 false (.int) ∧ dk_ft 12 15 < 2 := ⟨⟨RX12, TX12, 31, tyX12, "DominoKinModel", cl_12, by decide, rfl, rfl, in_1269, Or.inl rfl⟩, by decide +kernel⟩
theorem f_X12_256_12 : dk_F RX12 256 12 16 false (.int) ∧ dk_ft 12 16 < 2 := ⟨⟨RX12, TX12, 31, tyX12, "DominoKinModel", cl_12, by decide, rfl, rfl, in_1270, Or.inl rfl⟩, by decide +kernel⟩
theorem f_X12_262_12 : dk_F RX12 262 12 17 false (.int) ∧ dk_ft 12 17 < 2 := ⟨⟨RX12, TX12, 31, tyX12, "DominoKinModel", cl_12, by decide, rfl, rfl, in_1271, Or.inl rfl⟩, by decide +kernel⟩
theorem f_X12_26_12 : dk_F RX12 26 12 18 true (.array .int) ∧ dk_ft 12 18 = 2 := ⟨⟨RX12, TX12, 31, tyX12, "DominoKinModel", cl_12, by decide, rfl, rfl, in_1272, Or.inl rfl⟩, by decide +kernel⟩
theorem f_X12_29_12 : dk_F RX12 29 12 19 true (.array .int) ∧ dk_ft 12 19 = 2 := ⟨⟨RX12, TX12, 31, tyX12, "DominoKinModel", cl_12, by decide, rfl, rfl, in_1273, Or.inl rfl⟩, by decide +kernel⟩
theorem f_X12_291_12 : dk_F RX12 291 12 20 false (.int) ∧ dk_ft 12 20 < 2 := ⟨⟨RX12, TX12, 31, tyX12, "DominoKinModel", cl_12, by decide, rfl, rfl, in_1274, Or.inl rfl⟩, by decide +kernel⟩
theorem f_X12_32_12 : dk_F RX12 32 12 21 true (.array .int) ∧ dk_ft 12 21 = 2 := ⟨⟨RX12, TX12, 31, tyX12, "DominoKinModel", cl_12, by decide, rfl, rfl, in_1275, Or.inl rfl⟩, by decide +kernel⟩
theorem f_X12_35_12 : dk_F RX12 35 12 22 true (.array .int) ∧ dk_ft 12 22 = 2 := ⟨⟨RX12, TX12, 31, tyX12, "DominoKinModel", cl_12, by decide, rfl, rfl, in_1276, Or.inl rfl⟩, by decide +kernel⟩
theorem f_X12_38_12 : dk_F RX12 38 12 23 true (.array .int) ∧ dk_ft 12 23 = 2 := ⟨⟨RX12, TX12, 31, tyX12, "DominoKinModel", cl_12, by decide, rfl, rfl, in_1277, Or.inl rfl⟩, by decide +kernel⟩
theorem f_X12_41_12 : dk_F RX12 41 12 24 true (.array .long) ∧ dk_ft 12 24 = 2 := ⟨⟨RX12, TX12, 31, tyX12, "DominoKinModel", cl_12, by decide, rfl, rfl, in_1278, Or.inl rfl⟩, by decide +kernel⟩
theorem f_X12_45_12 : dk_F RX12 45 12 25 true (.array .int) ∧ dk_ft 12 25 = 2 := ⟨⟨RX12, TX12, 31, tyX12, "DominoKinModel", cl_12, by decide, rfl, rfl, in_1279, Or.inl rfl⟩, by decide +kernel⟩
theorem f_X12_48_12 : dk_F RX12 48 12 26 true (.array .int) ∧ dk_ft 12 26 = 2 := ⟨⟨RX12, TX12, 31, tyX12, "DominoKinModel", cl_12, by decide, rfl, rfl, in_1280, Or.inl rfl⟩, by decide +kernel⟩
theorem f_X12_51_12 : dk_F RX12 51 12 27 true (.array .int) ∧ dk_ft 12 27 = 2 := ⟨⟨RX12, TX12, 31, tyX12, "DominoKinModel", cl_12, by decide, rfl, rfl, in_1281, Or.inl rfl⟩, by decide +kernel⟩
theorem f_X12_54_12 : dk_F RX12 54 12 28 true (.array .int) ∧ dk_ft 12 28 = 2 := ⟨⟨RX12, TX12, 31, tyX12, "DominoKinModel", cl_12, by decide, rfl, rfl, in_1282, Or.inl rfl⟩, by decide +kernel⟩
theorem f_X12_307_12 : dk_F RX12 307 12 29 false (.int) ∧ dk_ft 12 29 < 2 := ⟨⟨RX12, TX12, 31, tyX12, "DominoKinModel", cl_12, by decide, rfl, rfl, in_1283, Or.inl rfl⟩, by decide +kernel⟩
theorem f_X12_322_12 : dk_F RX12 322 12 30 false (.boolean) ∧ dk_ft 12 30 < 2 := ⟨⟨RX12, TX12, 31, tyX12, "DominoKinModel", cl_12, by decide, rfl, rfl, in_1284, Or.inl rfl⟩, by decide +kernel⟩
abbrev mX0_init : dk_Mt := (yX0_init, cX0_init, 1, none)
abbrev mX0_leansMore : dk_Mt := (yX0_leansMore, cX0_leansMore, 4, some .int)
theorem s0_X0_leansMore : dk_S0 mX0_leansMore 3 := ⟨in_552, in_94, by decide +kernel, by decide⟩
abbrev mX0_bears : dk_Mt := (yX0_bears, cX0_bears, 3, some .int)
theorem s0_X0_bears : dk_S0 mX0_bears 2 := ⟨in_500, in_94, by decide +kernel, by decide⟩
abbrev mX0_tips : dk_Mt := (yX0_tips, cX0_tips, 2, some .int)
theorem s0_X0_tips : dk_S0 mX0_tips 1 := ⟨in_1123, in_94, by decide +kernel, by decide⟩
abbrev mX1_init : dk_Mt := (yX1_init, cX1_init, 1, none)
abbrev mX1_leansMore : dk_Mt := (yX1_leansMore, cX1_leansMore, 4, some .int)
theorem s0_X1_leansMore : dk_S0 mX1_leansMore 3 := ⟨in_555, in_96, by decide +kernel, by decide⟩
abbrev mX1_bears : dk_Mt := (yX1_bears, cX1_bears, 3, some .int)
theorem s0_X1_bears : dk_S0 mX1_bears 2 := ⟨in_503, in_96, by decide +kernel, by decide⟩
abbrev mX1_tips : dk_Mt := (yX1_tips, cX1_tips, 2, some .int)
theorem s0_X1_tips : dk_S0 mX1_tips 1 := ⟨in_1133, in_96, by decide +kernel, by decide⟩
abbrev mX1_turns : dk_Mt := (yX1_turns, cX1_turns, 2, some .int)
theorem s0_X1_turns : dk_S0 mX1_turns 1 := ⟨in_1201, in_96, by decide +kernel, by decide⟩
abbrev mX2_init : dk_Mt := (yX2_init, cX2_init, 1, none)
abbrev mX2_leansMore : dk_Mt := (yX2_leansMore, cX2_leansMore, 4, some .int)
theorem s0_X2_leansMore : dk_S0 mX2_leansMore 3 := ⟨in_558, in_95, by decide +kernel, by decide⟩
abbrev mX2_bears : dk_Mt := (yX2_bears, cX2_bears, 3, some .int)
theorem s0_X2_bears : dk_S0 mX2_bears 2 := ⟨in_506, in_95, by decide +kernel, by decide⟩
abbrev mX2_taps : dk_Mt := (yX2_taps, cX2_taps, 2, some .int)
theorem s0_X2_taps : dk_S0 mX2_taps 1 := ⟨in_1152, in_95, by decide +kernel, by decide⟩
abbrev mX3_init : dk_Mt := (yX3_init, cX3_init, 1, none)
abbrev mX3_leansMore : dk_Mt := (yX3_leansMore, cX3_leansMore, 4, some .int)
theorem s0_X3_leansMore : dk_S0 mX3_leansMore 3 := ⟨in_563, in_97, by decide +kernel, by decide⟩
abbrev mX3_bears : dk_Mt := (yX3_bears, cX3_bears, 3, some .int)
theorem s0_X3_bears : dk_S0 mX3_bears 2 := ⟨in_511, in_97, by decide +kernel, by decide⟩
abbrev mX3_halves : dk_Mt := (yX3_halves, cX3_halves, 2, some .int)
theorem s0_X3_halves : dk_S0 mX3_halves 1 := ⟨in_1180, in_97, by decide +kernel, by decide⟩
abbrev mX4_init : dk_Mt := (yX4_init, cX4_init, 1, none)
abbrev mX4_take : dk_Mt := (yX4_take, cX4_take, 2, none)
theorem s0_X4_take : dk_S0 mX4_take 1 := ⟨in_830, in_100, by decide +kernel, by decide⟩
abbrev mX4_isFallen : dk_Mt := (yX4_isFallen, cX4_isFallen, 2, some .boolean)
theorem s0_X4_isFallen : dk_S0 mX4_isFallen 1 := ⟨in_529, in_100, by decide +kernel, by decide⟩
abbrev mX4_setFallen : dk_Mt := (yX4_setFallen, cX4_setFallen, 4, some .int)
theorem s0_X4_setFallen : dk_S0 mX4_setFallen 2 := ⟨in_489, in_100, by decide +kernel, by decide⟩
abbrev mX4_leanMore : dk_Mt := (yX4_leanMore, cX4_leanMore, 3, none)
theorem s0_X4_leanMore : dk_S0 mX4_leanMore 2 := ⟨in_804, in_100, by decide +kernel, by decide⟩
abbrev mX5_init : dk_Mt := (yX5_init, cX5_init, 1, none)
abbrev mX5_leansMore : dk_Mt := (yX5_leansMore, cX5_leansMore, 4, some .int)
theorem s0_X5_leansMore : dk_S0 mX5_leansMore 3 := ⟨in_572, in_93, by decide +kernel, by decide⟩
abbrev mX5_bears : dk_Mt := (yX5_bears, cX5_bears, 3, some .int)
theorem s0_X5_bears : dk_S0 mX5_bears 2 := ⟨in_517, in_93, by decide +kernel, by decide⟩
abbrev mX5_becomes : dk_Mt := (yX5_becomes, cX5_becomes, 3, none)
theorem s0_X5_becomes : dk_S0 mX5_becomes 2 := ⟨in_1116, in_93, by decide +kernel, by decide⟩
abbrev mX5_began : dk_Mt := (yX5_began, cX5_began, 2, none)
theorem s0_X5_began : dk_S0 mX5_began 1 := ⟨in_1129, in_93, by decide +kernel, by decide⟩
abbrev mX5_tips : dk_Mt := (yX5_tips, cX5_tips, 2, some .int)
theorem s0_X5_tips : dk_S0 mX5_tips 1 := ⟨in_1143, in_93, by decide +kernel, by decide⟩
abbrev mX5_taps : dk_Mt := (yX5_taps, cX5_taps, 2, some .int)
theorem s0_X5_taps : dk_S0 mX5_taps 1 := ⟨in_1169, in_93, by decide +kernel, by decide⟩
abbrev mX5_halves : dk_Mt := (yX5_halves, cX5_halves, 3, some .int)
theorem s0_X5_halves : dk_S0 mX5_halves 1 := ⟨in_1193, in_93, by decide +kernel, by decide⟩
abbrev mX5_turns : dk_Mt := (yX5_turns, cX5_turns, 2, some .int)
theorem s0_X5_turns : dk_S0 mX5_turns 1 := ⟨in_1212, in_93, by decide +kernel, by decide⟩
abbrev mX6_init : dk_Mt := (yX6_init, cX6_init, 3, none)
abbrev mX6_start : dk_Mt := (yX6_start, cX6_start, 1, none)
theorem s0_X6_start : dk_S0 mX6_start 0 := ⟨in_897, in_104, by decide +kernel, by decide⟩
abbrev mX6_isLast : dk_Mt := (yX6_isLast, cX6_isLast, 3, some .boolean)
theorem s0_X6_isLast : dk_S0 mX6_isLast 2 := ⟨in_906, in_104, by decide +kernel, by decide⟩
abbrev mX6_goDeeper : dk_Mt := (yX6_goDeeper, cX6_goDeeper, 4, some .int)
theorem s0_X6_goDeeper : dk_S0 mX6_goDeeper 2 := ⟨in_911, in_104, by decide +kernel, by decide⟩
abbrev mX6_bestFrom : dk_Mt := (yX6_bestFrom, cX6_bestFrom, 10, some .int)
theorem s0_X6_bestFrom : dk_S0 mX6_bestFrom 2 := ⟨in_902, in_104, by decide +kernel, by decide⟩
abbrev mX6_noteFirst : dk_Mt := (yX6_noteFirst, cX6_noteFirst, 4, none)
theorem s0_X6_noteFirst : dk_S0 mX6_noteFirst 2 := ⟨in_917, in_104, by decide +kernel, by decide⟩
abbrev mX6_fewestFrom : dk_Mt := (yX6_fewestFrom, cX6_fewestFrom, 6, some .int)
theorem s0_X6_fewestFrom : dk_S0 mX6_fewestFrom 3 := ⟨in_947, in_104, by decide +kernel, by decide⟩
abbrev mX6_reachFrom : dk_Mt := (yX6_reachFrom, cX6_reachFrom, 5, some .int)
theorem s0_X6_reachFrom : dk_S0 mX6_reachFrom 2 := ⟨in_957, in_104, by decide +kernel, by decide⟩
abbrev mX6_gameFrom : dk_Mt := (yX6_gameFrom, cX6_gameFrom, 8, some .int)
theorem s0_X6_gameFrom : dk_S0 mX6_gameFrom 2 := ⟨in_966, in_104, by decide +kernel, by decide⟩
abbrev mX7_init : dk_Mt := (yX7_init, cX7_init, 1, none)
abbrev mX7_take : dk_Mt := (yX7_take, cX7_take, 2, none)
theorem s0_X7_take : dk_S0 mX7_take 1 := ⟨in_1242, in_102, by decide +kernel, by decide⟩
abbrev mX7_add : dk_Mt := (yX7_add, cX7_add, 6, some .int)
theorem s0_X7_add : dk_S0 mX7_add 4 := ⟨in_979, in_102, by decide +kernel, by decide⟩
abbrev mX7_search : dk_Mt := (yX7_search, cX7_search, 5, none)
theorem s0_X7_search : dk_S0 mX7_search 1 := ⟨in_991, in_102, by decide +kernel, by decide⟩
abbrev mX7_noteLone : dk_Mt := (yX7_noteLone, cX7_noteLone, 6, none)
theorem s0_X7_noteLone : dk_S0 mX7_noteLone 4 := ⟨in_995, in_102, by decide +kernel, by decide⟩
abbrev mX7_brokenBy : dk_Mt := (yX7_brokenBy, cX7_brokenBy, 12, some .int)
theorem s0_X7_brokenBy : dk_S0 mX7_brokenBy 4 := ⟨in_999, in_102, by decide +kernel, by decide⟩
abbrev mX7_brokenBehind : dk_Mt := (yX7_brokenBehind, cX7_brokenBehind, 7, some .int)
theorem s0_X7_brokenBehind : dk_S0 mX7_brokenBehind 3 := ⟨in_1009, in_102, by decide +kernel, by decide⟩
abbrev mX7_lastYear : dk_Mt := (yX7_lastYear, cX7_lastYear, 3, some .int)
theorem s0_X7_lastYear : dk_S0 mX7_lastYear 0 := ⟨in_1004, in_102, by decide +kernel, by decide⟩
abbrev mX8_init : dk_Mt := (yX8_init, cX8_init, 1, none)
abbrev mX8_take : dk_Mt := (yX8_take, cX8_take, 2, none)
theorem s0_X8_take : dk_S0 mX8_take 1 := ⟨in_1237, in_101, by decide +kernel, by decide⟩
abbrev mX8_learn : dk_Mt := (yX8_learn, cX8_learn, 6, none)
theorem s0_X8_learn : dk_S0 mX8_learn 5 := ⟨in_590, in_101, by decide +kernel, by decide⟩
abbrev mX8_holds : dk_Mt := (yX8_holds, cX8_holds, 5, some .boolean)
theorem s0_X8_holds : dk_S0 mX8_holds 1 := ⟨in_599, in_101, by decide +kernel, by decide⟩
abbrev mX8_compares : dk_Mt := (yX8_compares, cX8_compares, 6, some .boolean)
theorem s0_X8_compares : dk_S0 mX8_compares 1 := ⟨in_603, in_101, by decide +kernel, by decide⟩
abbrev mX8_readText : dk_Mt := (yX8_readText, cX8_readText, 4, some .int)
theorem s0_X8_readText : dk_S0 mX8_readText 2 := ⟨in_669, in_101, by decide +kernel, by decide⟩
abbrev mX8_split : dk_Mt := (yX8_split, cX8_split, 7, none)
theorem s0_X8_split : dk_S0 mX8_split 2 := ⟨in_673, in_101, by decide +kernel, by decide⟩
abbrev mX8_endOf : dk_Mt := (yX8_endOf, cX8_endOf, 4, some .int)
theorem s0_X8_endOf : dk_S0 mX8_endOf 3 := ⟨in_676, in_101, by decide +kernel, by decide⟩
abbrev mX8_tokenOf : dk_Mt := (yX8_tokenOf, cX8_tokenOf, 3, some .int)
theorem s0_X8_tokenOf : dk_S0 mX8_tokenOf 3 := ⟨in_685, in_101, by decide +kernel, by decide⟩
abbrev mX8_wordOf : dk_Mt := (yX8_wordOf, cX8_wordOf, 6, some .int)
theorem s0_X8_wordOf : dk_S0 mX8_wordOf 3 := ⟨in_688, in_101, by decide +kernel, by decide⟩
abbrev mX8_spells : dk_Mt := (yX8_spells, cX8_spells, 5, some .boolean)
theorem s0_X8_spells : dk_S0 mX8_spells 4 := ⟨in_740, in_101, by decide +kernel, by decide⟩
abbrev mX8_numberOf : dk_Mt := (yX8_numberOf, cX8_numberOf, 5, some .int)
theorem s0_X8_numberOf : dk_S0 mX8_numberOf 3 := ⟨in_743, in_101, by decide +kernel, by decide⟩
abbrev mX8_isLetter : dk_Mt := (yX8_isLetter, cX8_isLetter, 1, some .boolean)
theorem s0_X8_isLetter : dk_S0 mX8_isLetter 1 := ⟨in_679, in_101, by decide +kernel, by decide⟩
abbrev mX8_isDigit : dk_Mt := (yX8_isDigit, cX8_isDigit, 1, some .boolean)
theorem s0_X8_isDigit : dk_S0 mX8_isDigit 1 := ⟨in_682, in_101, by decide +kernel, by decide⟩
abbrev mX8_readRule : dk_Mt := (yX8_readRule, cX8_readRule, 3, some .boolean)
theorem s0_X8_readRule : dk_S0 mX8_readRule 0 := ⟨in_747, in_101, by decide +kernel, by decide⟩
abbrev mX8_passes : dk_Mt := (yX8_passes, cX8_passes, 2, some .boolean)
theorem s0_X8_passes : dk_S0 mX8_passes 1 := ⟨in_763, in_101, by decide +kernel, by decide⟩
abbrev mX8_readCondition : dk_Mt := (yX8_readCondition, cX8_readCondition, 3, some .boolean)
theorem s0_X8_readCondition : dk_S0 mX8_readCondition 1 := ⟨in_751, in_101, by decide +kernel, by decide⟩
abbrev mX8_readAllOf : dk_Mt := (yX8_readAllOf, cX8_readAllOf, 3, some .boolean)
theorem s0_X8_readAllOf : dk_S0 mX8_readAllOf 1 := ⟨in_755, in_101, by decide +kernel, by decide⟩
abbrev mX8_readOne : dk_Mt := (yX8_readOne, cX8_readOne, 4, some .boolean)
theorem s0_X8_readOne : dk_S0 mX8_readOne 1 := ⟨in_759, in_101, by decide +kernel, by decide⟩
abbrev mX8_readComparison : dk_Mt := (yX8_readComparison, cX8_readComparison, 4, some .boolean)
theorem s0_X8_readComparison : dk_S0 mX8_readComparison 0 := ⟨in_767, in_101, by decide +kernel, by decide⟩
abbrev mX8_valueCode : dk_Mt := (yX8_valueCode, cX8_valueCode, 2, some .int)
theorem s0_X8_valueCode : dk_S0 mX8_valueCode 1 := ⟨in_770, in_101, by decide +kernel, by decide⟩
abbrev mX8_emit : dk_Mt := (yX8_emit, cX8_emit, 2, none)
theorem s0_X8_emit : dk_S0 mX8_emit 1 := ⟨in_774, in_101, by decide +kernel, by decide⟩
abbrev mX9_init : dk_Mt := (yX9_init, cX9_init, 1, none)
abbrev mX9_leansMore : dk_Mt := (yX9_leansMore, cX9_leansMore, 4, some .int)
theorem s0_X9_leansMore : dk_S0 mX9_leansMore 3 := ⟨in_570, in_98, by decide +kernel, by decide⟩
abbrev mX9_bears : dk_Mt := (yX9_bears, cX9_bears, 3, some .int)
theorem s0_X9_bears : dk_S0 mX9_bears 2 := ⟨in_515, in_98, by decide +kernel, by decide⟩
abbrev mX9_taps : dk_Mt := (yX9_taps, cX9_taps, 2, some .int)
theorem s0_X9_taps : dk_S0 mX9_taps 1 := ⟨in_1162, in_98, by decide +kernel, by decide⟩
abbrev mX9_halves : dk_Mt := (yX9_halves, cX9_halves, 2, some .int)
theorem s0_X9_halves : dk_S0 mX9_halves 1 := ⟨in_1188, in_98, by decide +kernel, by decide⟩
abbrev mX10_init : dk_Mt := (yX10_init, cX10_init, 2, none)
abbrev mX10_take : dk_Mt := (yX10_take, cX10_take, 2, none)
theorem s0_X10_take : dk_S0 mX10_take 1 := ⟨in_1231, in_99, by decide +kernel, by decide⟩
abbrev mX10_add : dk_Mt := (yX10_add, cX10_add, 6, some .int)
theorem s0_X10_add : dk_S0 mX10_add 4 := ⟨in_485, in_99, by decide +kernel, by decide⟩
abbrev mX10_setGap : dk_Mt := (yX10_setGap, cX10_setGap, 4, some .int)
theorem s0_X10_setGap : dk_S0 mX10_setGap 2 := ⟨in_615, in_99, by decide +kernel, by decide⟩
abbrev mX10_setKind : dk_Mt := (yX10_setKind, cX10_setKind, 4, some .int)
theorem s0_X10_setKind : dk_S0 mX10_setKind 2 := ⟨in_624, in_99, by decide +kernel, by decide⟩
abbrev mX10_settleBears : dk_Mt := (yX10_settleBears, cX10_settleBears, 2, none)
theorem s0_X10_settleBears : dk_S0 mX10_settleBears 1 := ⟨in_493, in_99, by decide +kernel, by decide⟩
abbrev mX10_isPiece : dk_Mt := (yX10_isPiece, cX10_isPiece, 2, some .boolean)
theorem s0_X10_isPiece : dk_S0 mX10_isPiece 1 := ⟨in_525, in_99, by decide +kernel, by decide⟩
abbrev mX10_isAct : dk_Mt := (yX10_isAct, cX10_isAct, 2, some .boolean)
theorem s0_X10_isAct : dk_S0 mX10_isAct 1 := ⟨in_1058, in_99, by decide +kernel, by decide⟩
abbrev mX10_isSet : dk_Mt := (yX10_isSet, cX10_isSet, 2, some .boolean)
theorem s0_X10_isSet : dk_S0 mX10_isSet 1 := ⟨in_943, in_99, by decide +kernel, by decide⟩
abbrev mX10_isOver : dk_Mt := (yX10_isOver, cX10_isOver, 2, some .boolean)
theorem s0_X10_isOver : dk_S0 mX10_isOver 1 := ⟨in_652, in_99, by decide +kernel, by decide⟩
abbrev mX10_sayingOf : dk_Mt := (yX10_sayingOf, cX10_sayingOf, 2, some .int)
theorem s0_X10_sayingOf : dk_S0 mX10_sayingOf 1 := ⟨in_541, in_99, by decide +kernel, by decide⟩
abbrev mX10_wordOf : dk_Mt := (yX10_wordOf, cX10_wordOf, 2, some .int)
theorem s0_X10_wordOf : dk_S0 mX10_wordOf 1 := ⟨in_537, in_99, by decide +kernel, by decide⟩
abbrev mX10_hushOf : dk_Mt := (yX10_hushOf, cX10_hushOf, 2, some .int)
theorem s0_X10_hushOf : dk_S0 mX10_hushOf 1 := ⟨in_545, in_99, by decide +kernel, by decide⟩
abbrev mX10_leanOfAll : dk_Mt := (yX10_leanOfAll, cX10_leanOfAll, 4, some .int)
theorem s0_X10_leanOfAll : dk_S0 mX10_leanOfAll 1 := ⟨in_657, in_99, by decide +kernel, by decide⟩
abbrev mX10_leansMore : dk_Mt := (yX10_leansMore, cX10_leansMore, 3, some .int)
theorem s0_X10_leansMore : dk_S0 mX10_leansMore 2 := ⟨in_533, in_99, by decide +kernel, by decide⟩
abbrev mX10_pays : dk_Mt := (yX10_pays, cX10_pays, 3, some .int)
theorem s0_X10_pays : dk_S0 mX10_pays 2 := ⟨in_576, in_99, by decide +kernel, by decide⟩
abbrev mX10_will : dk_Mt := (yX10_will, cX10_will, 4, some .int)
theorem s0_X10_will : dk_S0 mX10_will 2 := ⟨in_586, in_99, by decide +kernel, by decide⟩
abbrev mX10_mayFall : dk_Mt := (yX10_mayFall, cX10_mayFall, 3, some .boolean)
theorem s0_X10_mayFall : dk_S0 mX10_mayFall 2 := ⟨in_581, in_99, by decide +kernel, by decide⟩
abbrev mX10_leastWilling : dk_Mt := (yX10_leastWilling, cX10_leastWilling, 3, some .int)
theorem s0_X10_leastWilling : dk_S0 mX10_leastWilling 1 := ⟨in_782, in_99, by decide +kernel, by decide⟩
abbrev mX10_actByLot : dk_Mt := (yX10_actByLot, cX10_actByLot, 2, some .int)
theorem s0_X10_actByLot : dk_S0 mX10_actByLot 1 := ⟨in_1034, in_99, by decide +kernel, by decide⟩
abbrev mX10_isIdle : dk_Mt := (yX10_isIdle, cX10_isIdle, 4, some .boolean)
theorem s0_X10_isIdle : dk_S0 mX10_isIdle 2 := ⟨in_921, in_99, by decide +kernel, by decide⟩
abbrev mX10_fall : dk_Mt := (yX10_fall, cX10_fall, 5, none)
theorem s0_X10_fall : dk_S0 mX10_fall 2 := ⟨in_800, in_99, by decide +kernel, by decide⟩
abbrev mX10_passYear : dk_Mt := (yX10_passYear, cX10_passYear, 7, some .int)
theorem s0_X10_passYear : dk_S0 mX10_passYear 2 := ⟨in_791, in_99, by decide +kernel, by decide⟩
abbrev mX10_tell : dk_Mt := (yX10_tell, cX10_tell, 5, some .int)
theorem s0_X10_tell : dk_S0 mX10_tell 2 := ⟨in_796, in_99, by decide +kernel, by decide⟩
abbrev mX10_toppleBent : dk_Mt := (yX10_toppleBent, cX10_toppleBent, 4, some .int)
theorem s0_X10_toppleBent : dk_S0 mX10_toppleBent 1 := ⟨in_812, in_99, by decide +kernel, by decide⟩
abbrev mX10_chainOf : dk_Mt := (yX10_chainOf, cX10_chainOf, 5, some .int)
theorem s0_X10_chainOf : dk_S0 mX10_chainOf 1 := ⟨in_879, in_99, by decide +kernel, by decide⟩
abbrev mX10_isCloseToOne : dk_Mt := (yX10_isCloseToOne, cX10_isCloseToOne, 4, some .boolean)
theorem s0_X10_isCloseToOne : dk_S0 mX10_isCloseToOne 2 := ⟨in_883, in_99, by decide +kernel, by decide⟩
abbrev mX11_init : dk_Mt := (yX11_init, cX11_init, 1, none)
abbrev mX11_piece : dk_Mt := (yX11_piece, cX11_piece, 5, some .int)
theorem s0_X11_piece : dk_S0 mX11_piece 4 := ⟨in_478, in_92, by decide +kernel, by decide⟩
abbrev mX11_pieceOf : dk_Mt := (yX11_pieceOf, cX11_pieceOf, 4, some .int)
theorem s0_X11_pieceOf : dk_S0 mX11_pieceOf 2 := ⟨in_521, in_92, by decide +kernel, by decide⟩
abbrev mX11_change : dk_Mt := (yX11_change, cX11_change, 4, some .int)
theorem s0_X11_change : dk_S0 mX11_change 3 := ⟨in_608, in_92, by decide +kernel, by decide⟩
abbrev mX11_remake : dk_Mt := (yX11_remake, cX11_remake, 3, some .int)
theorem s0_X11_remake : dk_S0 mX11_remake 2 := ⟨in_620, in_92, by decide +kernel, by decide⟩
abbrev mX11_saying : dk_Mt := (yX11_saying, cX11_saying, 3, some .int)
theorem s0_X11_saying : dk_S0 mX11_saying 2 := ⟨in_628, in_92, by decide +kernel, by decide⟩
abbrev mX11_room : dk_Mt := (yX11_room, cX11_room, 4, some .int)
theorem s0_X11_room : dk_S0 mX11_room 3 := ⟨in_632, in_92, by decide +kernel, by decide⟩
abbrev mX11_roomOf : dk_Mt := (yX11_roomOf, cX11_roomOf, 3, some .int)
theorem s0_X11_roomOf : dk_S0 mX11_roomOf 2 := ⟨in_636, in_92, by decide +kernel, by decide⟩
abbrev mX11_ends : dk_Mt := (yX11_ends, cX11_ends, 3, some .int)
theorem s0_X11_ends : dk_S0 mX11_ends 1 := ⟨in_640, in_92, by decide +kernel, by decide⟩
abbrev mX11_anew : dk_Mt := (yX11_anew, cX11_anew, 2, some .int)
theorem s0_X11_anew : dk_S0 mX11_anew 0 := ⟨in_644, in_92, by decide +kernel, by decide⟩
abbrev mX11_state : dk_Mt := (yX11_state, cX11_state, 3, some .int)
theorem s0_X11_state : dk_S0 mX11_state 1 := ⟨in_648, in_92, by decide +kernel, by decide⟩
abbrev mX11_feed : dk_Mt := (yX11_feed, cX11_feed, 5, some .int)
theorem s0_X11_feed : dk_S0 mX11_feed 2 := ⟨in_661, in_92, by decide +kernel, by decide⟩
abbrev mX11_rules : dk_Mt := (yX11_rules, cX11_rules, 3, some .int)
theorem s0_X11_rules : dk_S0 mX11_rules 0 := ⟨in_665, in_92, by decide +kernel, by decide⟩
abbrev mX11_year : dk_Mt := (yX11_year, cX11_year, 1, some .int)
theorem s0_X11_year : dk_S0 mX11_year 0 := ⟨in_778, in_92, by decide +kernel, by decide⟩
abbrev mX11_on : dk_Mt := (yX11_on, cX11_on, 2, some .int)
theorem s0_X11_on : dk_S0 mX11_on 1 := ⟨in_822, in_92, by decide +kernel, by decide⟩
abbrev mX11_when : dk_Mt := (yX11_when, cX11_when, 2, some .int)
theorem s0_X11_when : dk_S0 mX11_when 1 := ⟨in_837, in_92, by decide +kernel, by decide⟩
abbrev mX11_gapFor : dk_Mt := (yX11_gapFor, cX11_gapFor, 2, some .int)
theorem s0_X11_gapFor : dk_S0 mX11_gapFor 1 := ⟨in_845, in_92, by decide +kernel, by decide⟩
abbrev mX11_roomFor : dk_Mt := (yX11_roomFor, cX11_roomFor, 2, some .int)
theorem s0_X11_roomFor : dk_S0 mX11_roomFor 1 := ⟨in_854, in_92, by decide +kernel, by decide⟩
abbrev mX11_itself : dk_Mt := (yX11_itself, cX11_itself, 2, some .int)
theorem s0_X11_itself : dk_S0 mX11_itself 1 := ⟨in_858, in_92, by decide +kernel, by decide⟩
abbrev mX11_least : dk_Mt := (yX11_least, cX11_least, 3, some .int)
theorem s0_X11_least : dk_S0 mX11_least 1 := ⟨in_862, in_92, by decide +kernel, by decide⟩
abbrev mX11_wave : dk_Mt := (yX11_wave, cX11_wave, 4, some .int)
theorem s0_X11_wave : dk_S0 mX11_wave 2 := ⟨in_866, in_92, by decide +kernel, by decide⟩
abbrev mX11_chains : dk_Mt := (yX11_chains, cX11_chains, 2, some .int)
theorem s0_X11_chains : dk_S0 mX11_chains 1 := ⟨in_871, in_92, by decide +kernel, by decide⟩
abbrev mX11_best : dk_Mt := (yX11_best, cX11_best, 2, some .int)
theorem s0_X11_best : dk_S0 mX11_best 1 := ⟨in_893, in_92, by decide +kernel, by decide⟩
abbrev mX11_ith : dk_Mt := (yX11_ith, cX11_ith, 3, some .int)
theorem s0_X11_ith : dk_S0 mX11_ith 2 := ⟨in_925, in_92, by decide +kernel, by decide⟩
abbrev mX11_ways : dk_Mt := (yX11_ways, cX11_ways, 2, some .int)
theorem s0_X11_ways : dk_S0 mX11_ways 1 := ⟨in_935, in_92, by decide +kernel, by decide⟩
abbrev mX11_line : dk_Mt := (yX11_line, cX11_line, 4, some .int)
theorem s0_X11_line : dk_S0 mX11_line 2 := ⟨in_939, in_92, by decide +kernel, by decide⟩
abbrev mX11_bars : dk_Mt := (yX11_bars, cX11_bars, 4, some .int)
theorem s0_X11_bars : dk_S0 mX11_bars 2 := ⟨in_953, in_92, by decide +kernel, by decide⟩
abbrev mX11_game : dk_Mt := (yX11_game, cX11_game, 2, some .int)
theorem s0_X11_game : dk_S0 mX11_game 1 := ⟨in_962, in_92, by decide +kernel, by decide⟩
abbrev mX11_play : dk_Mt := (yX11_play, cX11_play, 2, some .int)
theorem s0_X11_play : dk_S0 mX11_play 1 := ⟨in_971, in_92, by decide +kernel, by decide⟩
abbrev mX11_report : dk_Mt := (yX11_report, cX11_report, 6, some .int)
theorem s0_X11_report : dk_S0 mX11_report 4 := ⟨in_975, in_92, by decide +kernel, by decide⟩
abbrev mX11_forget : dk_Mt := (yX11_forget, cX11_forget, 2, some .int)
theorem s0_X11_forget : dk_S0 mX11_forget 0 := ⟨in_983, in_92, by decide +kernel, by decide⟩
abbrev mX11_lone : dk_Mt := (yX11_lone, cX11_lone, 3, some .int)
theorem s0_X11_lone : dk_S0 mX11_lone 1 := ⟨in_987, in_92, by decide +kernel, by decide⟩
abbrev mX11_liar : dk_Mt := (yX11_liar, cX11_liar, 2, some .int)
theorem s0_X11_liar : dk_S0 mX11_liar 0 := ⟨in_1018, in_92, by decide +kernel, by decide⟩
abbrev mX11_seed : dk_Mt := (yX11_seed, cX11_seed, 3, some .int)
theorem s0_X11_seed : dk_S0 mX11_seed 1 := ⟨in_1022, in_92, by decide +kernel, by decide⟩
abbrev mX11_lot : dk_Mt := (yX11_lot, cX11_lot, 1, some .int)
theorem s0_X11_lot : dk_S0 mX11_lot 0 := ⟨in_1026, in_92, by decide +kernel, by decide⟩
abbrev mX11_times : dk_Mt := (yX11_times, cX11_times, 8, some .int)
theorem s0_X11_times : dk_S0 mX11_times 2 := ⟨in_1038, in_92, by decide +kernel, by decide⟩
abbrev mX11_prove : dk_Mt := (yX11_prove, cX11_prove, 4, some .int)
theorem s0_X11_prove : dk_S0 mX11_prove 1 := ⟨in_1042, in_92, by decide +kernel, by decide⟩
abbrev mX11_row : dk_Mt := (yX11_row, cX11_row, 3, some .int)
theorem s0_X11_row : dk_S0 mX11_row 2 := ⟨in_1046, in_92, by decide +kernel, by decide⟩
abbrev mX11_alterRow : dk_Mt := (yX11_alterRow, cX11_alterRow, 4, some .int)
theorem s0_X11_alterRow : dk_S0 mX11_alterRow 3 := ⟨in_1050, in_92, by decide +kernel, by decide⟩
abbrev mX11_judge : dk_Mt := (yX11_judge, cX11_judge, 4, some .int)
theorem s0_X11_judge : dk_S0 mX11_judge 0 := ⟨in_1054, in_92, by decide +kernel, by decide⟩
abbrev mX11_sheet : dk_Mt := (yX11_sheet, cX11_sheet, 4, some .int)
theorem s0_X11_sheet : dk_S0 mX11_sheet 3 := ⟨in_1062, in_92, by decide +kernel, by decide⟩
abbrev mX11_write : dk_Mt := (yX11_write, cX11_write, 4, some .int)
theorem s0_X11_write : dk_S0 mX11_write 3 := ⟨in_1066, in_92, by decide +kernel, by decide⟩
abbrev mX11_item : dk_Mt := (yX11_item, cX11_item, 4, some .int)
theorem s0_X11_item : dk_S0 mX11_item 3 := ⟨in_1073, in_92, by decide +kernel, by decide⟩
abbrev mX11_goAll : dk_Mt := (yX11_goAll, cX11_goAll, 8, some .int)
theorem s0_X11_goAll : dk_S0 mX11_goAll 3 := ⟨in_1077, in_92, by decide +kernel, by decide⟩
abbrev mX11_wouldBe : dk_Mt := (yX11_wouldBe, cX11_wouldBe, 8, some .int)
theorem s0_X11_wouldBe : dk_S0 mX11_wouldBe 3 := ⟨in_1085, in_92, by decide +kernel, by decide⟩
abbrev mX11_shelf : dk_Mt := (yX11_shelf, cX11_shelf, 4, some .int)
theorem s0_X11_shelf : dk_S0 mX11_shelf 3 := ⟨in_1089, in_92, by decide +kernel, by decide⟩
abbrev mX11_taken : dk_Mt := (yX11_taken, cX11_taken, 5, some .int)
theorem s0_X11_taken : dk_S0 mX11_taken 2 := ⟨in_1097, in_92, by decide +kernel, by decide⟩
abbrev mX11_act : dk_Mt := (yX11_act, cX11_act, 6, some .int)
theorem s0_X11_act : dk_S0 mX11_act 3 := ⟨in_1106, in_92, by decide +kernel, by decide⟩
abbrev mX11_trace : dk_Mt := (yX11_trace, cX11_trace, 2, some .int)
theorem s0_X11_trace : dk_S0 mX11_trace 1 := ⟨in_1218, in_92, by decide +kernel, by decide⟩
abbrev mX11_many : dk_Mt := (yX11_many, cX11_many, 2, some .int)
theorem s0_X11_many : dk_S0 mX11_many 1 := ⟨in_1222, in_92, by decide +kernel, by decide⟩
abbrev mX11_keep : dk_Mt := (yX11_keep, cX11_keep, 1, some .int)
theorem s0_X11_keep : dk_S0 mX11_keep 0 := ⟨in_1227, in_92, by decide +kernel, by decide⟩
abbrev mX11_again : dk_Mt := (yX11_again, cX11_again, 1, some .int)
theorem s0_X11_again : dk_S0 mX11_again 0 := ⟨in_1247, in_92, by decide +kernel, by decide⟩
abbrev mX11_within : dk_Mt := (yX11_within, cX11_within, 3, some .boolean)
theorem s0_X11_within : dk_S0 mX11_within 3 := ⟨in_481, in_92, by decide +kernel, by decide⟩
abbrev mX11_replace : dk_Mt := (yX11_replace, cX11_replace, 4, some .int)
theorem s0_X11_replace : dk_S0 mX11_replace 3 := ⟨in_611, in_92, by decide +kernel, by decide⟩
abbrev mX11_isOrIsUnder : dk_Mt := (yX11_isOrIsUnder, cX11_isOrIsUnder, 2, some .boolean)
theorem s0_X11_isOrIsUnder : dk_S0 mX11_isOrIsUnder 2 := ⟨in_593, in_92, by decide +kernel, by decide⟩
abbrev mX11_leastOf : dk_Mt := (yX11_leastOf, cX11_leastOf, 2, some .int)
theorem s0_X11_leastOf : dk_S0 mX11_leastOf 1 := ⟨in_889, in_92, by decide +kernel, by decide⟩
abbrev mX11_nextLot : dk_Mt := (yX11_nextLot, cX11_nextLot, 1, some .int)
theorem s0_X11_nextLot : dk_S0 mX11_nextLot 1 := ⟨in_1029, in_92, by decide +kernel, by decide⟩
abbrev mX11_narrowed : dk_Mt := (yX11_narrowed, cX11_narrowed, 2, some .int)
theorem s0_X11_narrowed : dk_S0 mX11_narrowed 2 := ⟨in_1069, in_92, by decide +kernel, by decide⟩
abbrev mX11_goOn : dk_Mt := (yX11_goOn, cX11_goOn, 3, some .int)
theorem s0_X11_goOn : dk_S0 mX11_goOn 1 := ⟨in_787, in_92, by decide +kernel, by decide⟩
abbrev mX11_restWorth : dk_Mt := (yX11_restWorth, cX11_restWorth, 4, some .int)
theorem s0_X11_restWorth : dk_S0 mX11_restWorth 1 := ⟨in_826, in_92, by decide +kernel, by decide⟩
abbrev mX11_firstFallen : dk_Mt := (yX11_firstFallen, cX11_firstFallen, 4, some .int)
theorem s0_X11_firstFallen : dk_S0 mX11_firstFallen 2 := ⟨in_841, in_92, by decide +kernel, by decide⟩
abbrev mX11_bestFor : dk_Mt := (yX11_bestFor, cX11_bestFor, 9, some .int)
theorem s0_X11_bestFor : dk_S0 mX11_bestFor 3 := ⟨in_849, in_92, by decide +kernel, by decide⟩
abbrev mX11_countChains : dk_Mt := (yX11_countChains, cX11_countChains, 4, some .int)
theorem s0_X11_countChains : dk_S0 mX11_countChains 0 := ⟨in_875, in_92, by decide +kernel, by decide⟩
abbrev mX11_planLength : dk_Mt := (yX11_planLength, cX11_planLength, 2, some .int)
theorem s0_X11_planLength : dk_S0 mX11_planLength 1 := ⟨in_929, in_92, by decide +kernel, by decide⟩
abbrev mX11_refusalOfActs : dk_Mt := (yX11_refusalOfActs, cX11_refusalOfActs, 3, some .int)
theorem s0_X11_refusalOfActs : dk_S0 mX11_refusalOfActs 2 := ⟨in_1081, in_92, by decide +kernel, by decide⟩
abbrev mX11_put : dk_Mt := (yX11_put, cX11_put, 4, some .int)
theorem s0_X11_put : dk_S0 mX11_put 3 := ⟨in_1093, in_92, by decide +kernel, by decide⟩
abbrev mX11_heldOn : dk_Mt := (yX11_heldOn, cX11_heldOn, 2, some .int)
theorem s0_X11_heldOn : dk_S0 mX11_heldOn 1 := ⟨in_1101, in_92, by decide +kernel, by decide⟩
abbrev mX12_init : dk_Mt := (yX12_init, cX12_init, 2, none)
abbrev mX12_in : dk_Mt := (yX12_in, cX12_in, 3, some .boolean)
theorem s0_X12_in : dk_S0 mX12_in 3 := ⟨in_1356, in_105, by decide +kernel, by decide⟩
abbrev mX12_copyAll : dk_Mt := (yX12_copyAll, cX12_copyAll, 3, none)
theorem s0_X12_copyAll : dk_S0 mX12_copyAll 2 := ⟨in_1494, in_105, by decide +kernel, by decide⟩
abbrev mX12_thinks : dk_Mt := (yX12_thinks, cX12_thinks, 1, none)
theorem s0_X12_thinks : dk_S0 mX12_thinks 0 := ⟨in_1491, in_105, by decide +kernel, by decide⟩
abbrev mX12_putsBack : dk_Mt := (yX12_putsBack, cX12_putsBack, 1, none)
theorem s0_X12_putsBack : dk_S0 mX12_putsBack 0 := ⟨in_1547, in_105, by decide +kernel, by decide⟩
abbrev mX12_becomes : dk_Mt := (yX12_becomes, cX12_becomes, 4, some .int)
theorem s0_X12_becomes : dk_S0 mX12_becomes 2 := ⟨in_1438, in_105, by decide +kernel, by decide⟩
abbrev mX12_isPiece : dk_Mt := (yX12_isPiece, cX12_isPiece, 2, some .boolean)
theorem s0_X12_isPiece : dk_S0 mX12_isPiece 1 := ⟨in_1374, in_105, by decide +kernel, by decide⟩
abbrev mX12_isRoom : dk_Mt := (yX12_isRoom, cX12_isRoom, 1, some .boolean)
theorem s0_X12_isRoom : dk_S0 mX12_isRoom 1 := ⟨in_1362, in_105, by decide +kernel, by decide⟩
abbrev mX12_isFour : dk_Mt := (yX12_isFour, cX12_isFour, 1, some .boolean)
theorem s0_X12_isFour : dk_S0 mX12_isFour 1 := ⟨in_1689, in_105, by decide +kernel, by decide⟩
abbrev mX12_of : dk_Mt := (yX12_of, cX12_of, 3, some .int)
theorem s0_X12_of : dk_S0 mX12_of 2 := ⟨in_1382, in_105, by decide +kernel, by decide⟩
abbrev mX12_put : dk_Mt := (yX12_put, cX12_put, 4, none)
theorem s0_X12_put : dk_S0 mX12_put 3 := ⟨in_1366, in_105, by decide +kernel, by decide⟩
abbrev mX12_isOver : dk_Mt := (yX12_isOver, cX12_isOver, 1, some .boolean)
theorem s0_X12_isOver : dk_S0 mX12_isOver 0 := ⟨in_1470, in_105, by decide +kernel, by decide⟩
abbrev mX12_bits : dk_Mt := (yX12_bits, cX12_bits, 3, some .int)
theorem s0_X12_bits : dk_S0 mX12_bits 1 := ⟨in_1833, in_105, by decide +kernel, by decide⟩
abbrev mX12_sayingOf : dk_Mt := (yX12_sayingOf, cX12_sayingOf, 2, some .int)
theorem s0_X12_sayingOf : dk_S0 mX12_sayingOf 1 := ⟨in_1390, in_105, by decide +kernel, by decide⟩
abbrev mX12_word : dk_Mt := (yX12_word, cX12_word, 1, some .int)
theorem s0_X12_word : dk_S0 mX12_word 0 := ⟨in_1386, in_105, by decide +kernel, by decide⟩
abbrev mX12_hush : dk_Mt := (yX12_hush, cX12_hush, 1, some .int)
theorem s0_X12_hush : dk_S0 mX12_hush 0 := ⟨in_1394, in_105, by decide +kernel, by decide⟩
abbrev mX12_leansBy : dk_Mt := (yX12_leansBy, cX12_leansBy, 5, some .int)
theorem s0_X12_leansBy : dk_S0 mX12_leansBy 4 := ⟨in_1397, in_105, by decide +kernel, by decide⟩
abbrev mX12_bearsBy : dk_Mt := (yX12_bearsBy, cX12_bearsBy, 4, some .int)
theorem s0_X12_bearsBy : dk_S0 mX12_bearsBy 3 := ⟨in_1404, in_105, by decide +kernel, by decide⟩
abbrev mX12_leansOf : dk_Mt := (yX12_leansOf, cX12_leansOf, 2, some .int)
theorem s0_X12_leansOf : dk_S0 mX12_leansOf 1 := ⟨in_1378, in_105, by decide +kernel, by decide⟩
abbrev mX12_bearsOf : dk_Mt := (yX12_bearsOf, cX12_bearsOf, 2, some .int)
theorem s0_X12_bearsOf : dk_S0 mX12_bearsOf 1 := ⟨in_1401, in_105, by decide +kernel, by decide⟩
abbrev mX12_paysOf : dk_Mt := (yX12_paysOf, cX12_paysOf, 2, some .int)
theorem s0_X12_paysOf : dk_S0 mX12_paysOf 1 := ⟨in_1408, in_105, by decide +kernel, by decide⟩
abbrev mX12_mayFall : dk_Mt := (yX12_mayFall, cX12_mayFall, 2, some .boolean)
theorem s0_X12_mayFall : dk_S0 mX12_mayFall 1 := ⟨in_1412, in_105, by decide +kernel, by decide⟩
abbrev mX12_isUnder : dk_Mt := (yX12_isUnder, cX12_isUnder, 2, some .boolean)
theorem s0_X12_isUnder : dk_S0 mX12_isUnder 2 := ⟨in_1419, in_105, by decide +kernel, by decide⟩
abbrev mX12_fallenOnes : dk_Mt := (yX12_fallenOnes, cX12_fallenOnes, 3, some .int)
theorem s0_X12_fallenOnes : dk_S0 mX12_fallenOnes 0 := ⟨in_1474, in_105, by decide +kernel, by decide⟩
abbrev mX12_isOf : dk_Mt := (yX12_isOf, cX12_isOf, 2, some .boolean)
theorem s0_X12_isOf : dk_S0 mX12_isOf 2 := ⟨in_1359, in_105, by decide +kernel, by decide⟩
abbrev mX12_piece : dk_Mt := (yX12_piece, cX12_piece, 6, some .int)
theorem s0_X12_piece : dk_S0 mX12_piece 4 := ⟨in_1353, in_105, by decide +kernel, by decide⟩
abbrev mX12_pieceOf : dk_Mt := (yX12_pieceOf, cX12_pieceOf, 3, some .int)
theorem s0_X12_pieceOf : dk_S0 mX12_pieceOf 2 := ⟨in_1370, in_105, by decide +kernel, by decide⟩
abbrev mX12_change : dk_Mt := (yX12_change, cX12_change, 4, some .int)
theorem s0_X12_change : dk_S0 mX12_change 3 := ⟨in_1434, in_105, by decide +kernel, by decide⟩
abbrev mX12_remake : dk_Mt := (yX12_remake, cX12_remake, 3, some .int)
theorem s0_X12_remake : dk_S0 mX12_remake 2 := ⟨in_1442, in_105, by decide +kernel, by decide⟩
abbrev mX12_saying : dk_Mt := (yX12_saying, cX12_saying, 3, some .int)
theorem s0_X12_saying : dk_S0 mX12_saying 2 := ⟨in_1446, in_105, by decide +kernel, by decide⟩
abbrev mX12_room : dk_Mt := (yX12_room, cX12_room, 4, some .int)
theorem s0_X12_room : dk_S0 mX12_room 3 := ⟨in_1450, in_105, by decide +kernel, by decide⟩
abbrev mX12_roomOf : dk_Mt := (yX12_roomOf, cX12_roomOf, 3, some .int)
theorem s0_X12_roomOf : dk_S0 mX12_roomOf 2 := ⟨in_1454, in_105, by decide +kernel, by decide⟩
abbrev mX12_ends : dk_Mt := (yX12_ends, cX12_ends, 2, some .int)
theorem s0_X12_ends : dk_S0 mX12_ends 1 := ⟨in_1458, in_105, by decide +kernel, by decide⟩
abbrev mX12_anew : dk_Mt := (yX12_anew, cX12_anew, 3, some .int)
theorem s0_X12_anew : dk_S0 mX12_anew 0 := ⟨in_1462, in_105, by decide +kernel, by decide⟩
abbrev mX12_allLean : dk_Mt := (yX12_allLean, cX12_allLean, 3, some .int)
theorem s0_X12_allLean : dk_S0 mX12_allLean 0 := ⟨in_1478, in_105, by decide +kernel, by decide⟩
abbrev mX12_state : dk_Mt := (yX12_state, cX12_state, 2, some .int)
theorem s0_X12_state : dk_S0 mX12_state 1 := ⟨in_1466, in_105, by decide +kernel, by decide⟩
abbrev mX12_feed : dk_Mt := (yX12_feed, cX12_feed, 5, some .int)
theorem s0_X12_feed : dk_S0 mX12_feed 2 := ⟨in_1482, in_105, by decide +kernel, by decide⟩
abbrev mX12_isByte : dk_Mt := (yX12_isByte, cX12_isByte, 4, some .boolean)
theorem s0_X12_isByte : dk_S0 mX12_isByte 3 := ⟨in_1502, in_105, by decide +kernel, by decide⟩
abbrev mX12_isName : dk_Mt := (yX12_isName, cX12_isName, 5, some .boolean)
theorem s0_X12_isName : dk_S0 mX12_isName 2 := ⟨in_1510, in_105, by decide +kernel, by decide⟩
abbrev mX12_wordHere : dk_Mt := (yX12_wordHere, cX12_wordHere, 2, some .int)
theorem s0_X12_wordHere : dk_S0 mX12_wordHere 0 := ⟨in_1506, in_105, by decide +kernel, by decide⟩
abbrev mX12_signOf : dk_Mt := (yX12_signOf, cX12_signOf, 1, some .int)
theorem s0_X12_signOf : dk_S0 mX12_signOf 1 := ⟨in_1515, in_105, by decide +kernel, by decide⟩
abbrev mX12_reads : dk_Mt := (yX12_reads, cX12_reads, 1, none)
theorem s0_X12_reads : dk_S0 mX12_reads 0 := ⟨in_1498, in_105, by decide +kernel, by decide⟩
abbrev mX12_passes : dk_Mt := (yX12_passes, cX12_passes, 2, some .boolean)
theorem s0_X12_passes : dk_S0 mX12_passes 1 := ⟨in_1523, in_105, by decide +kernel, by decide⟩
abbrev mX12_step : dk_Mt := (yX12_step, cX12_step, 2, none)
theorem s0_X12_step : dk_S0 mX12_step 1 := ⟨in_1543, in_105, by decide +kernel, by decide⟩
abbrev mX12_side : dk_Mt := (yX12_side, cX12_side, 2, some .int)
theorem s0_X12_side : dk_S0 mX12_side 0 := ⟨in_1539, in_105, by decide +kernel, by decide⟩
abbrev mX12_one : dk_Mt := (yX12_one, cX12_one, 5, none)
theorem s0_X12_one : dk_S0 mX12_one 0 := ⟨in_1535, in_105, by decide +kernel, by decide⟩
abbrev mX12_all : dk_Mt := (yX12_all, cX12_all, 1, none)
theorem s0_X12_all : dk_S0 mX12_all 0 := ⟨in_1531, in_105, by decide +kernel, by decide⟩
abbrev mX12_condition : dk_Mt := (yX12_condition, cX12_condition, 1, none)
theorem s0_X12_condition : dk_S0 mX12_condition 0 := ⟨in_1527, in_105, by decide +kernel, by decide⟩
abbrev mX12_ruleHere : dk_Mt := (yX12_ruleHere, cX12_ruleHere, 2, none)
theorem s0_X12_ruleHere : dk_S0 mX12_ruleHere 0 := ⟨in_1519, in_105, by decide +kernel, by decide⟩
abbrev mX12_rules : dk_Mt := (yX12_rules, cX12_rules, 1, some .int)
theorem s0_X12_rules : dk_S0 mX12_rules 0 := ⟨in_1487, in_105, by decide +kernel, by decide⟩
abbrev mX12_factOf : dk_Mt := (yX12_factOf, cX12_factOf, 3, some .int)
theorem s0_X12_factOf : dk_S0 mX12_factOf 2 := ⟨in_1427, in_105, by decide +kernel, by decide⟩
abbrev mX12_isSo : dk_Mt := (yX12_isSo, cX12_isSo, 3, some .boolean)
theorem s0_X12_isSo : dk_S0 mX12_isSo 3 := ⟨in_1430, in_105, by decide +kernel, by decide⟩
abbrev mX12_isHolding : dk_Mt := (yX12_isHolding, cX12_isHolding, 8, some .boolean)
theorem s0_X12_isHolding : dk_S0 mX12_isHolding 2 := ⟨in_1423, in_105, by decide +kernel, by decide⟩
abbrev mX12_does : dk_Mt := (yX12_does, cX12_does, 4, some .int)
theorem s0_X12_does : dk_S0 mX12_does 1 := ⟨in_1416, in_105, by decide +kernel, by decide⟩
abbrev mX12_falls : dk_Mt := (yX12_falls, cX12_falls, 5, none)
theorem s0_X12_falls : dk_S0 mX12_falls 1 := ⟨in_1567, in_105, by decide +kernel, by decide⟩
abbrev mX12_tells : dk_Mt := (yX12_tells, cX12_tells, 4, some .int)
theorem s0_X12_tells : dk_S0 mX12_tells 1 := ⟨in_1563, in_105, by decide +kernel, by decide⟩
abbrev mX12_tipping : dk_Mt := (yX12_tipping, cX12_tipping, 3, some .int)
theorem s0_X12_tipping : dk_S0 mX12_tipping 0 := ⟨in_1571, in_105, by decide +kernel, by decide⟩
abbrev mX12_goes : dk_Mt := (yX12_goes, cX12_goes, 6, some .int)
theorem s0_X12_goes : dk_S0 mX12_goes 1 := ⟨in_1559, in_105, by decide +kernel, by decide⟩
abbrev mX12_goesByItself : dk_Mt := (yX12_goesByItself, cX12_goesByItself, 3, some .int)
theorem s0_X12_goesByItself : dk_S0 mX12_goesByItself 0 := ⟨in_1555, in_105, by decide +kernel, by decide⟩
abbrev mX12_year : dk_Mt := (yX12_year, cX12_year, 1, some .int)
theorem s0_X12_year : dk_S0 mX12_year 0 := ⟨in_1551, in_105, by decide +kernel, by decide⟩
abbrev mX12_restOf : dk_Mt := (yX12_restOf, cX12_restOf, 4, some .int)
theorem s0_X12_restOf : dk_S0 mX12_restOf 1 := ⟨in_1579, in_105, by decide +kernel, by decide⟩
abbrev mX12_on : dk_Mt := (yX12_on, cX12_on, 2, some .int)
theorem s0_X12_on : dk_S0 mX12_on 1 := ⟨in_1575, in_105, by decide +kernel, by decide⟩
abbrev mX12_when : dk_Mt := (yX12_when, cX12_when, 4, some .int)
theorem s0_X12_when : dk_S0 mX12_when 1 := ⟨in_1583, in_105, by decide +kernel, by decide⟩
abbrev mX12_bestFor : dk_Mt := (yX12_bestFor, cX12_bestFor, 8, some .int)
theorem s0_X12_bestFor : dk_S0 mX12_bestFor 3 := ⟨in_1591, in_105, by decide +kernel, by decide⟩
abbrev mX12_gapFor : dk_Mt := (yX12_gapFor, cX12_gapFor, 2, some .int)
theorem s0_X12_gapFor : dk_S0 mX12_gapFor 1 := ⟨in_1587, in_105, by decide +kernel, by decide⟩
abbrev mX12_roomFor : dk_Mt := (yX12_roomFor, cX12_roomFor, 2, some .int)
theorem s0_X12_roomFor : dk_S0 mX12_roomFor 1 := ⟨in_1595, in_105, by decide +kernel, by decide⟩
abbrev mX12_itself : dk_Mt := (yX12_itself, cX12_itself, 4, some .int)
theorem s0_X12_itself : dk_S0 mX12_itself 1 := ⟨in_1599, in_105, by decide +kernel, by decide⟩
abbrev mX12_least : dk_Mt := (yX12_least, cX12_least, 3, some .int)
theorem s0_X12_least : dk_S0 mX12_least 1 := ⟨in_1603, in_105, by decide +kernel, by decide⟩
abbrev mX12_wave : dk_Mt := (yX12_wave, cX12_wave, 5, some .int)
theorem s0_X12_wave : dk_S0 mX12_wave 2 := ⟨in_1607, in_105, by decide +kernel, by decide⟩
abbrev mX12_areClose : dk_Mt := (yX12_areClose, cX12_areClose, 4, some .boolean)
theorem s0_X12_areClose : dk_S0 mX12_areClose 2 := ⟨in_1619, in_105, by decide +kernel, by decide⟩
abbrev mX12_chainOf : dk_Mt := (yX12_chainOf, cX12_chainOf, 6, some .int)
theorem s0_X12_chainOf : dk_S0 mX12_chainOf 1 := ⟨in_1615, in_105, by decide +kernel, by decide⟩
abbrev mX12_chains : dk_Mt := (yX12_chains, cX12_chains, 5, some .int)
theorem s0_X12_chains : dk_S0 mX12_chains 1 := ⟨in_1611, in_105, by decide +kernel, by decide⟩
abbrev mX12_yearsOf : dk_Mt := (yX12_yearsOf, cX12_yearsOf, 3, some .int)
theorem s0_X12_yearsOf : dk_S0 mX12_yearsOf 1 := ⟨in_1631, in_105, by decide +kernel, by decide⟩
abbrev mX12_plansOf : dk_Mt := (yX12_plansOf, cX12_plansOf, 4, some .int)
theorem s0_X12_plansOf : dk_S0 mX12_plansOf 1 := ⟨in_1635, in_105, by decide +kernel, by decide⟩
abbrev mX12_digit : dk_Mt := (yX12_digit, cX12_digit, 6, some .int)
theorem s0_X12_digit : dk_S0 mX12_digit 4 := ⟨in_1642, in_105, by decide +kernel, by decide⟩
abbrev mX12_worthOf : dk_Mt := (yX12_worthOf, cX12_worthOf, 6, some .int)
theorem s0_X12_worthOf : dk_S0 mX12_worthOf 2 := ⟨in_1639, in_105, by decide +kernel, by decide⟩
abbrev mX12_findBest : dk_Mt := (yX12_findBest, cX12_findBest, 6, none)
theorem s0_X12_findBest : dk_S0 mX12_findBest 1 := ⟨in_1627, in_105, by decide +kernel, by decide⟩
abbrev mX12_best : dk_Mt := (yX12_best, cX12_best, 2, some .int)
theorem s0_X12_best : dk_S0 mX12_best 1 := ⟨in_1623, in_105, by decide +kernel, by decide⟩
abbrev mX12_ith : dk_Mt := (yX12_ith, cX12_ith, 4, some .int)
theorem s0_X12_ith : dk_S0 mX12_ith 2 := ⟨in_1646, in_105, by decide +kernel, by decide⟩
abbrev mX12_ways : dk_Mt := (yX12_ways, cX12_ways, 2, some .int)
theorem s0_X12_ways : dk_S0 mX12_ways 1 := ⟨in_1650, in_105, by decide +kernel, by decide⟩
abbrev mX12_actsIn : dk_Mt := (yX12_actsIn, cX12_actsIn, 5, some .int)
theorem s0_X12_actsIn : dk_S0 mX12_actsIn 2 := ⟨in_1658, in_105, by decide +kernel, by decide⟩
abbrev mX12_line : dk_Mt := (yX12_line, cX12_line, 10, some .int)
theorem s0_X12_line : dk_S0 mX12_line 2 := ⟨in_1654, in_105, by decide +kernel, by decide⟩
abbrev mX12_bars : dk_Mt := (yX12_bars, cX12_bars, 8, some .int)
theorem s0_X12_bars : dk_S0 mX12_bars 2 := ⟨in_1662, in_105, by decide +kernel, by decide⟩
abbrev mX12_gameOn : dk_Mt := (yX12_gameOn, cX12_gameOn, 8, some .int)
theorem s0_X12_gameOn : dk_S0 mX12_gameOn 2 := ⟨in_1670, in_105, by decide +kernel, by decide⟩
abbrev mX12_game : dk_Mt := (yX12_game, cX12_game, 2, some .int)
theorem s0_X12_game : dk_S0 mX12_game 1 := ⟨in_1666, in_105, by decide +kernel, by decide⟩
abbrev mX12_play : dk_Mt := (yX12_play, cX12_play, 5, some .int)
theorem s0_X12_play : dk_S0 mX12_play 1 := ⟨in_1674, in_105, by decide +kernel, by decide⟩
abbrev mX12_report : dk_Mt := (yX12_report, cX12_report, 7, some .int)
theorem s0_X12_report : dk_S0 mX12_report 4 := ⟨in_1678, in_105, by decide +kernel, by decide⟩
abbrev mX12_forget : dk_Mt := (yX12_forget, cX12_forget, 1, some .int)
theorem s0_X12_forget : dk_S0 mX12_forget 0 := ⟨in_1682, in_105, by decide +kernel, by decide⟩
abbrev mX12_fits : dk_Mt := (yX12_fits, cX12_fits, 12, some .boolean)
theorem s0_X12_fits : dk_S0 mX12_fits 2 := ⟨in_1697, in_105, by decide +kernel, by decide⟩
abbrev mX12_stranger : dk_Mt := (yX12_stranger, cX12_stranger, 3, some .int)
theorem s0_X12_stranger : dk_S0 mX12_stranger 1 := ⟨in_1693, in_105, by decide +kernel, by decide⟩
abbrev mX12_lone : dk_Mt := (yX12_lone, cX12_lone, 4, some .int)
theorem s0_X12_lone : dk_S0 mX12_lone 1 := ⟨in_1686, in_105, by decide +kernel, by decide⟩
abbrev mX12_liar : dk_Mt := (yX12_liar, cX12_liar, 2, some .int)
theorem s0_X12_liar : dk_S0 mX12_liar 0 := ⟨in_1701, in_105, by decide +kernel, by decide⟩
abbrev mX12_seed : dk_Mt := (yX12_seed, cX12_seed, 2, some .int)
theorem s0_X12_seed : dk_S0 mX12_seed 1 := ⟨in_1705, in_105, by decide +kernel, by decide⟩
abbrev mX12_byLot : dk_Mt := (yX12_byLot, cX12_byLot, 1, some .int)
theorem s0_X12_byLot : dk_S0 mX12_byLot 0 := ⟨in_1713, in_105, by decide +kernel, by decide⟩
abbrev mX12_lot : dk_Mt := (yX12_lot, cX12_lot, 1, some .int)
theorem s0_X12_lot : dk_S0 mX12_lot 0 := ⟨in_1709, in_105, by decide +kernel, by decide⟩
abbrev mX12_times : dk_Mt := (yX12_times, cX12_times, 7, some .int)
theorem s0_X12_times : dk_S0 mX12_times 2 := ⟨in_1718, in_105, by decide +kernel, by decide⟩
abbrev mX12_prove : dk_Mt := (yX12_prove, cX12_prove, 4, some .int)
theorem s0_X12_prove : dk_S0 mX12_prove 1 := ⟨in_1722, in_105, by decide +kernel, by decide⟩
abbrev mX12_isRow : dk_Mt := (yX12_isRow, cX12_isRow, 3, some .boolean)
theorem s0_X12_isRow : dk_S0 mX12_isRow 2 := ⟨in_1730, in_105, by decide +kernel, by decide⟩
abbrev mX12_row : dk_Mt := (yX12_row, cX12_row, 3, some .int)
theorem s0_X12_row : dk_S0 mX12_row 2 := ⟨in_1726, in_105, by decide +kernel, by decide⟩
abbrev mX12_alterRow : dk_Mt := (yX12_alterRow, cX12_alterRow, 5, some .int)
theorem s0_X12_alterRow : dk_S0 mX12_alterRow 3 := ⟨in_1734, in_105, by decide +kernel, by decide⟩
abbrev mX12_judge : dk_Mt := (yX12_judge, cX12_judge, 5, some .int)
theorem s0_X12_judge : dk_S0 mX12_judge 0 := ⟨in_1738, in_105, by decide +kernel, by decide⟩
abbrev mX12_sheet : dk_Mt := (yX12_sheet, cX12_sheet, 5, some .int)
theorem s0_X12_sheet : dk_S0 mX12_sheet 3 := ⟨in_1742, in_105, by decide +kernel, by decide⟩
abbrev mX12_write : dk_Mt := (yX12_write, cX12_write, 5, some .int)
theorem s0_X12_write : dk_S0 mX12_write 3 := ⟨in_1746, in_105, by decide +kernel, by decide⟩
abbrev mX12_item : dk_Mt := (yX12_item, cX12_item, 4, some .int)
theorem s0_X12_item : dk_S0 mX12_item 3 := ⟨in_1750, in_105, by decide +kernel, by decide⟩
abbrev mX12_notActs : dk_Mt := (yX12_notActs, cX12_notActs, 3, some .int)
theorem s0_X12_notActs : dk_S0 mX12_notActs 2 := ⟨in_1758, in_105, by decide +kernel, by decide⟩
abbrev mX12_isPlace : dk_Mt := (yX12_isPlace, cX12_isPlace, 4, some .boolean)
theorem s0_X12_isPlace : dk_S0 mX12_isPlace 2 := ⟨in_1762, in_105, by decide +kernel, by decide⟩
abbrev mX12_goAll : dk_Mt := (yX12_goAll, cX12_goAll, 8, some .int)
theorem s0_X12_goAll : dk_S0 mX12_goAll 3 := ⟨in_1754, in_105, by decide +kernel, by decide⟩
abbrev mX12_wouldBe : dk_Mt := (yX12_wouldBe, cX12_wouldBe, 9, some .int)
theorem s0_X12_wouldBe : dk_S0 mX12_wouldBe 3 := ⟨in_1766, in_105, by decide +kernel, by decide⟩
abbrev mX12_shelf : dk_Mt := (yX12_shelf, cX12_shelf, 5, some .int)
theorem s0_X12_shelf : dk_S0 mX12_shelf 3 := ⟨in_1770, in_105, by decide +kernel, by decide⟩
abbrev mX12_hasPiece : dk_Mt := (yX12_hasPiece, cX12_hasPiece, 2, some .boolean)
theorem s0_X12_hasPiece : dk_S0 mX12_hasPiece 1 := ⟨in_1778, in_105, by decide +kernel, by decide⟩
abbrev mX12_taken : dk_Mt := (yX12_taken, cX12_taken, 3, some .int)
theorem s0_X12_taken : dk_S0 mX12_taken 2 := ⟨in_1774, in_105, by decide +kernel, by decide⟩
abbrev mX12_begins : dk_Mt := (yX12_begins, cX12_begins, 2, none)
theorem s0_X12_begins : dk_S0 mX12_begins 1 := ⟨in_1790, in_105, by decide +kernel, by decide⟩
abbrev mX12_plainTips : dk_Mt := (yX12_plainTips, cX12_plainTips, 3, some .int)
theorem s0_X12_plainTips : dk_S0 mX12_plainTips 2 := ⟨in_1794, in_105, by decide +kernel, by decide⟩
abbrev mX12_tips : dk_Mt := (yX12_tips, cX12_tips, 3, some .int)
theorem s0_X12_tips : dk_S0 mX12_tips 2 := ⟨in_1786, in_105, by decide +kernel, by decide⟩
abbrev mX12_plainTaps : dk_Mt := (yX12_plainTaps, cX12_plainTaps, 3, some .int)
theorem s0_X12_plainTaps : dk_S0 mX12_plainTaps 2 := ⟨in_1802, in_105, by decide +kernel, by decide⟩
abbrev mX12_taps : dk_Mt := (yX12_taps, cX12_taps, 3, some .int)
theorem s0_X12_taps : dk_S0 mX12_taps 2 := ⟨in_1798, in_105, by decide +kernel, by decide⟩
abbrev mX12_plainHalves : dk_Mt := (yX12_plainHalves, cX12_plainHalves, 4, some .int)
theorem s0_X12_plainHalves : dk_S0 mX12_plainHalves 2 := ⟨in_1814, in_105, by decide +kernel, by decide⟩
abbrev mX12_girlHalves : dk_Mt := (yX12_girlHalves, cX12_girlHalves, 3, some .int)
theorem s0_X12_girlHalves : dk_S0 mX12_girlHalves 2 := ⟨in_1810, in_105, by decide +kernel, by decide⟩
abbrev mX12_halves : dk_Mt := (yX12_halves, cX12_halves, 4, some .int)
theorem s0_X12_halves : dk_S0 mX12_halves 2 := ⟨in_1806, in_105, by decide +kernel, by decide⟩
abbrev mX12_plainTurns : dk_Mt := (yX12_plainTurns, cX12_plainTurns, 4, some .int)
theorem s0_X12_plainTurns : dk_S0 mX12_plainTurns 2 := ⟨in_1822, in_105, by decide +kernel, by decide⟩
abbrev mX12_turns : dk_Mt := (yX12_turns, cX12_turns, 4, some .int)
theorem s0_X12_turns : dk_S0 mX12_turns 2 := ⟨in_1818, in_105, by decide +kernel, by decide⟩
abbrev mX12_act : dk_Mt := (yX12_act, cX12_act, 6, some .int)
theorem s0_X12_act : dk_S0 mX12_act 3 := ⟨in_1782, in_105, by decide +kernel, by decide⟩
abbrev mX12_trace : dk_Mt := (yX12_trace, cX12_trace, 2, some .int)
theorem s0_X12_trace : dk_S0 mX12_trace 1 := ⟨in_1826, in_105, by decide +kernel, by decide⟩
abbrev mX12_many : dk_Mt := (yX12_many, cX12_many, 2, some .int)
theorem s0_X12_many : dk_S0 mX12_many 1 := ⟨in_1830, in_105, by decide +kernel, by decide⟩
abbrev mX12_keep : dk_Mt := (yX12_keep, cX12_keep, 1, some .int)
theorem s0_X12_keep : dk_S0 mX12_keep 0 := ⟨in_1837, in_105, by decide +kernel, by decide⟩
abbrev mX12_again : dk_Mt := (yX12_again, cX12_again, 1, some .int)
theorem s0_X12_again : dk_S0 mX12_again 0 := ⟨in_1841, in_105, by decide +kernel, by decide⟩
abbrev mJ6_bitCount_0f7a4 : dk_Mt := (yJ6_bitCount_0f7a4, cJ6_bitCount_0f7a4, 1, some .int)
theorem s0_J6_bitCount_0f7a4 : dk_S0 mJ6_bitCount_0f7a4 1 := ⟨in_815, in_111, by decide +kernel, by decide⟩
abbrev mJ9_abs_0f7a4 : dk_Mt := (yJ9_abs_0f7a4, cJ9_abs_0f7a4, 1, some .int)
theorem s0_J9_abs_0f7a4 : dk_S0 mJ9_abs_0f7a4 1 := ⟨in_886, in_106, by decide +kernel, by decide⟩
abbrev mJ9_max_7cf53 : dk_Mt := (yJ9_max_7cf53, cJ9_max_7cf53, 2, some .int)
theorem s0_J9_max_7cf53 : dk_S0 mJ9_max_7cf53 2 := ⟨in_567, in_106, by decide +kernel, by decide⟩
abbrev mJ9_min_7cf53 : dk_Mt := (yJ9_min_7cf53, cJ9_min_7cf53, 2, some .int)
theorem s0_J9_min_7cf53 : dk_S0 mJ9_min_7cf53 2 := ⟨in_807, in_106, by decide +kernel, by decide⟩
abbrev mJ0_length_8abf5 : dk_Mt := (yJ0_length_8abf5, cJ0_length_8abf5, 1, some .int)
theorem s0_J0_length_8abf5 : dk_S0 mJ0_length_8abf5 0 := ⟨in_693, in_107, by decide +kernel, by decide⟩
abbrev mJ0_charAt_5068e : dk_Mt := (yJ0_charAt_5068e, cJ0_charAt_5068e, 2, some .char)
theorem s0_J0_charAt_5068e : dk_S0 mJ0_charAt_5068e 1 := ⟨in_703, in_107, by decide +kernel, by decide⟩
abbrev mJ0_coder_7d493 : dk_Mt := (yJ0_coder_7d493, cJ0_coder_7d493, 1, some .byte)
theorem s0_J0_coder_7d493 : dk_S0 mJ0_coder_7d493 0 := ⟨in_697, in_107, by decide +kernel, by decide⟩
abbrev mJ0_isLatin1_aae02 : dk_Mt := (yJ0_isLatin1_aae02, cJ0_isLatin1_aae02, 1, some .boolean)
theorem s0_J0_isLatin1_aae02 : dk_S0 mJ0_isLatin1_aae02 0 := ⟨in_707, in_107, by decide +kernel, by decide⟩
abbrev mJ0_checkIndex_df160 : dk_Mt := (yJ0_checkIndex_df160, cJ0_checkIndex_df160, 2, none)
theorem s0_J0_checkIndex_df160 : dk_S0 mJ0_checkIndex_df160 2 := ⟨in_713, in_107, by decide +kernel, by decide⟩
abbrev mJ1_charAt_3b067 : dk_Mt := (yJ1_charAt_3b067, cJ1_charAt_3b067, 2, some .char)
theorem s0_J1_charAt_3b067 : dk_S0 mJ1_charAt_3b067 2 := ⟨in_710, in_108, by decide +kernel, by decide⟩
abbrev mJ2_getChar_3b067 : dk_Mt := (yJ2_getChar_3b067, cJ2_getChar_3b067, 2, some .char)
theorem s0_J2_getChar_3b067 : dk_S0 mJ2_getChar_3b067 2 := ⟨in_731, in_110, by decide +kernel, by decide⟩
abbrev mJ2_length_9d52b : dk_Mt := (yJ2_length_9d52b, cJ2_length_9d52b, 1, some .int)
theorem s0_J2_length_9d52b : dk_S0 mJ2_length_9d52b 1 := ⟨in_727, in_110, by decide +kernel, by decide⟩
abbrev mJ2_charAt_3b067 : dk_Mt := (yJ2_charAt_3b067, cJ2_charAt_3b067, 2, some .char)
theorem s0_J2_charAt_3b067 : dk_S0 mJ2_charAt_3b067 2 := ⟨in_721, in_110, by decide +kernel, by decide⟩
abbrev mJ2_checkIndex_2214a : dk_Mt := (yJ2_checkIndex_2214a, cJ2_checkIndex_2214a, 2, none)
theorem s0_J2_checkIndex_2214a : dk_S0 mJ2_checkIndex_2214a 2 := ⟨in_724, in_110, by decide +kernel, by decide⟩
abbrev mJ7_fill_53178 : dk_Mt := (yJ7_fill_53178, cJ7_fill_53178, 4, none)
theorem s0_J7_fill_53178 : dk_S0 mJ7_fill_53178 2 := ⟨in_326, in_103, by decide +kernel, by decide⟩
abbrev mJ3_checkIndex_8e157 : dk_Mt := (yJ3_checkIndex_8e157, cJ3_checkIndex_8e157, 3, some .int)
theorem s0_J3_checkIndex_8e157 : dk_S0 mJ3_checkIndex_8e157 3 := ⟨in_718, in_109, by decide +kernel, by decide⟩
theorem k_X10_71 : dk_KS RX10 71 mJ7_fill_53178 := ⟨in_324, in_325⟩
theorem k_X11_106 : dk_KS RX11 106 mJ7_fill_53178 := ⟨in_421, in_325⟩
theorem k_L_13 : dk_KV RL 13 mX11_piece := ⟨in_475, in_476, in_477⟩
theorem k_X11_112 : dk_KS RX11 112 mX11_within := ⟨in_479, in_480⟩
theorem k_X11_119 : dk_KV RX11 119 mX10_add := ⟨in_482, in_483, in_484⟩
theorem k_X10_96 : dk_KV RX10 96 mX4_setFallen := ⟨in_486, in_487, in_488⟩
theorem k_X10_100 : dk_KV RX10 100 mX10_settleBears := ⟨in_490, in_492, in_0⟩
theorem k_X10_104 : dk_KV RX10 104 mX5_bears := ⟨in_494, in_495, in_496⟩
theorem k_X2_11 : dk_KV RX2 11 mX5_bears := ⟨in_507, in_495, in_496⟩
theorem k_X3_17 : dk_KV RX3 17 mX5_bears := ⟨in_512, in_495, in_496⟩
theorem k_L_18 : dk_KV RL 18 mX11_pieceOf := ⟨in_518, in_519, in_520⟩
theorem k_X11_123 : dk_KV RX11 123 mX10_isPiece := ⟨in_522, in_523, in_524⟩
theorem k_X11_142 : dk_KV RX11 142 mX4_isFallen := ⟨in_526, in_527, in_528⟩
theorem k_X11_145 : dk_KV RX11 145 mX10_leansMore := ⟨in_530, in_531, in_532⟩
theorem k_X10_115 : dk_KV RX10 115 mX10_wordOf := ⟨in_534, in_535, in_536⟩
theorem k_X10_111 : dk_KV RX10 111 mX10_sayingOf := ⟨in_538, in_539, in_540⟩
theorem k_X10_118 : dk_KV RX10 118 mX10_hushOf := ⟨in_542, in_543, in_544⟩
theorem k_X10_121 : dk_KV RX10 121 mX5_leansMore := ⟨in_546, in_547, in_548⟩
theorem k_X2_7 : dk_KV RX2 7 mX5_leansMore := ⟨in_559, in_547, in_548⟩
theorem k_X3_7 : dk_KV RX3 7 mX5_leansMore := ⟨in_564, in_547, in_548⟩
theorem k_X3_11 : dk_KS RX3 11 mJ9_max_7cf53 := ⟨in_565, in_566⟩
theorem k_X11_152 : dk_KV RX11 152 mX10_pays := ⟨in_573, in_574, in_575⟩
theorem k_X10_125 : dk_KV RX10 125 mX4_isFallen := ⟨in_577, in_527, in_528⟩
theorem k_X11_155 : dk_KV RX11 155 mX10_mayFall := ⟨in_578, in_579, in_580⟩
theorem k_X10_146 : dk_KV RX10 146 mX10_pays := ⟨in_582, in_574, in_575⟩
theorem k_X10_150 : dk_KV RX10 150 mX10_will := ⟨in_583, in_584, in_585⟩
theorem k_X10_130 : dk_KV RX10 130 mX8_learn := ⟨in_587, in_588, in_589⟩
theorem k_X10_136 : dk_KN RX10 136 mX11_isOrIsUnder := ⟨rfl, in_592⟩
theorem k_X10_140 : dk_KV RX10 140 mX8_holds := ⟨in_596, in_597, in_598⟩
theorem k_X8_49 : dk_KV RX8 49 mX8_compares := ⟨in_600, in_602, in_1⟩
theorem k_X11_159 : dk_KV RX11 159 mX10_will := ⟨in_604, in_584, in_585⟩
theorem k_L_23 : dk_KV RL 23 mX11_change := ⟨in_605, in_606, in_607⟩
theorem k_X11_162 : dk_KS RX11 162 mX11_replace := ⟨in_609, in_610⟩
theorem k_X11_166 : dk_KV RX11 166 mX10_setGap := ⟨in_612, in_613, in_614⟩
theorem k_X11_170 : dk_KV RX11 170 mX4_setFallen := ⟨in_616, in_487, in_488⟩
theorem k_L_28 : dk_KV RL 28 mX11_remake := ⟨in_617, in_618, in_619⟩
theorem k_X11_173 : dk_KV RX11 173 mX10_setKind := ⟨in_621, in_622, in_623⟩
theorem k_L_32 : dk_KV RL 32 mX11_saying := ⟨in_625, in_626, in_627⟩
theorem k_L_36 : dk_KV RL 36 mX11_room := ⟨in_629, in_630, in_631⟩
theorem k_L_40 : dk_KV RL 40 mX11_roomOf := ⟨in_633, in_634, in_635⟩
theorem k_L_44 : dk_KV RL 44 mX11_ends := ⟨in_637, in_638, in_639⟩
theorem k_L_49 : dk_KV RL 49 mX11_anew := ⟨in_641, in_642, in_643⟩
theorem k_L_54 : dk_KV RL 54 mX11_state := ⟨in_645, in_646, in_647⟩
theorem k_X11_197 : dk_KV RX11 197 mX10_isOver := ⟨in_649, in_650, in_651⟩
theorem k_X11_201 : dk_KV RX11 201 mX10_sayingOf := ⟨in_653, in_539, in_540⟩
theorem k_X11_205 : dk_KV RX11 205 mX10_leanOfAll := ⟨in_654, in_655, in_656⟩
theorem k_L_60 : dk_KV RL 60 mX11_feed := ⟨in_658, in_659, in_660⟩
theorem k_L_65 : dk_KV RL 65 mX11_rules := ⟨in_662, in_663, in_664⟩
theorem k_X11_209 : dk_KV RX11 209 mX8_readText := ⟨in_666, in_667, in_668⟩
theorem k_X8_53 : dk_KV RX8 53 mX8_split := ⟨in_670, in_672, in_2⟩
theorem k_X8_61 : dk_KS RX8 61 mX8_endOf := ⟨in_674, in_675⟩
theorem k_X8_68 : dk_KS RX8 68 mX8_isLetter := ⟨in_677, in_678⟩
theorem k_X8_72 : dk_KS RX8 72 mX8_isDigit := ⟨in_680, in_681⟩
theorem k_X8_65 : dk_KS RX8 65 mX8_tokenOf := ⟨in_683, in_684⟩
theorem k_X8_75 : dk_KS RX8 75 mX8_wordOf := ⟨in_686, in_687⟩
theorem k_X8_83 : dk_KV RX8 83 mJ0_length_8abf5 := ⟨in_690, in_691, in_692⟩
theorem k_J0_335 : dk_KV RJ0 335 mJ0_coder_7d493 := ⟨in_694, in_695, in_696⟩
theorem k_X8_89 : dk_KV RX8 89 mJ0_charAt_5068e := ⟨in_700, in_701, in_702⟩
theorem k_J0_492 : dk_KV RJ0 492 mJ0_isLatin1_aae02 := ⟨in_704, in_705, in_706⟩
theorem k_J0_495 : dk_KS RJ0 495 mJ1_charAt_3b067 := ⟨in_708, in_709⟩
theorem k_J1_9 : dk_KS RJ1 9 mJ0_checkIndex_df160 := ⟨in_711, in_712⟩
theorem k_J0_1059 : dk_KS RJ0 1059 mJ3_checkIndex_8e157 := ⟨in_716, in_717⟩
theorem k_J0_498 : dk_KS RJ0 498 mJ2_charAt_3b067 := ⟨in_719, in_720⟩
theorem k_J2_67 : dk_KS RJ2 67 mJ2_checkIndex_2214a := ⟨in_722, in_723⟩
theorem k_J2_48 : dk_KS RJ2 48 mJ2_length_9d52b := ⟨in_725, in_726⟩
theorem k_J2_414 : dk_KS RJ2 414 mJ0_checkIndex_df160 := ⟨in_728, in_712⟩
theorem k_J2_71 : dk_KS RJ2 71 mJ2_getChar_3b067 := ⟨in_729, in_730⟩
theorem k_X8_93 : dk_KS RX8 93 mX8_spells := ⟨in_738, in_739⟩
theorem k_X8_78 : dk_KS RX8 78 mX8_numberOf := ⟨in_741, in_742⟩
theorem k_X8_57 : dk_KV RX8 57 mX8_readRule := ⟨in_744, in_746, in_3⟩
theorem k_X8_97 : dk_KV RX8 97 mX8_readCondition := ⟨in_748, in_750, in_4⟩
theorem k_X8_103 : dk_KV RX8 103 mX8_readAllOf := ⟨in_752, in_754, in_5⟩
theorem k_X8_110 : dk_KV RX8 110 mX8_readOne := ⟨in_756, in_758, in_6⟩
theorem k_X8_100 : dk_KV RX8 100 mX8_passes := ⟨in_760, in_762, in_7⟩
theorem k_X8_113 : dk_KV RX8 113 mX8_readComparison := ⟨in_764, in_766, in_8⟩
theorem k_X8_116 : dk_KS RX8 116 mX8_valueCode := ⟨in_768, in_769⟩
theorem k_X8_106 : dk_KV RX8 106 mX8_emit := ⟨in_771, in_773, in_9⟩
theorem k_L_69 : dk_KV RL 69 mX11_year := ⟨in_775, in_776, in_777⟩
theorem k_X11_216 : dk_KV RX11 216 mX10_leastWilling := ⟨in_779, in_780, in_781⟩
theorem k_X10_153 : dk_KV RX10 153 mX10_mayFall := ⟨in_783, in_579, in_580⟩
theorem k_X11_219 : dk_KV RX11 219 mX11_goOn := ⟨in_784, in_786, in_10⟩
theorem k_X11_241 : dk_KV RX11 241 mX10_passYear := ⟨in_788, in_789, in_790⟩
theorem k_X10_161 : dk_KV RX10 161 mX10_isPiece := ⟨in_792, in_523, in_524⟩
theorem k_X10_164 : dk_KV RX10 164 mX10_tell := ⟨in_793, in_795, in_11⟩
theorem k_X10_171 : dk_KV RX10 171 mX10_fall := ⟨in_797, in_798, in_799⟩
theorem k_X10_157 : dk_KV RX10 157 mX4_leanMore := ⟨in_801, in_802, in_803⟩
theorem k_X4_28 : dk_KS RX4 28 mJ9_min_7cf53 := ⟨in_805, in_806⟩
theorem k_X10_175 : dk_KS RX10 175 mJ9_max_7cf53 := ⟨in_808, in_566⟩
theorem k_X10_167 : dk_KV RX10 167 mX10_toppleBent := ⟨in_809, in_811, in_12⟩
theorem k_X10_180 : dk_KS RX10 180 mJ6_bitCount_0f7a4 := ⟨in_813, in_814⟩
theorem k_L_73 : dk_KV RL 73 mX11_on := ⟨in_819, in_820, in_821⟩
theorem k_X11_222 : dk_KV RX11 222 mX11_restWorth := ⟨in_823, in_825, in_13⟩
theorem k_X11_233 : dk_KV RX11 233 mX4_take := ⟨in_827, in_828, in_829⟩
theorem k_L_77 : dk_KV RL 77 mX11_when := ⟨in_834, in_835, in_836⟩
theorem k_X11_225 : dk_KV RX11 225 mX11_firstFallen := ⟨in_838, in_840, in_14⟩
theorem k_L_81 : dk_KV RL 81 mX11_gapFor := ⟨in_842, in_843, in_844⟩
theorem k_X11_229 : dk_KV RX11 229 mX11_bestFor := ⟨in_846, in_848, in_15⟩
theorem k_X11_372 : dk_KV RX11 372 mX11_change := ⟨in_850, in_606, in_607⟩
theorem k_L_85 : dk_KV RL 85 mX11_roomFor := ⟨in_851, in_852, in_853⟩
theorem k_L_89 : dk_KV RL 89 mX11_itself := ⟨in_855, in_856, in_857⟩
theorem k_L_93 : dk_KV RL 93 mX11_least := ⟨in_859, in_860, in_861⟩
theorem k_L_97 : dk_KV RL 97 mX11_wave := ⟨in_863, in_864, in_865⟩
theorem k_X11_237 : dk_KV RX11 237 mX10_fall := ⟨in_867, in_798, in_799⟩
theorem k_L_101 : dk_KV RL 101 mX11_chains := ⟨in_868, in_869, in_870⟩
theorem k_X11_244 : dk_KV RX11 244 mX11_countChains := ⟨in_872, in_874, in_16⟩
theorem k_X11_248 : dk_KV RX11 248 mX10_chainOf := ⟨in_876, in_877, in_878⟩
theorem k_X10_185 : dk_KV RX10 185 mX10_isCloseToOne := ⟨in_880, in_882, in_17⟩
theorem k_X10_188 : dk_KS RX10 188 mJ9_abs_0f7a4 := ⟨in_884, in_885⟩
theorem k_X11_275 : dk_KS RX11 275 mX11_leastOf := ⟨in_887, in_888⟩
theorem k_L_105 : dk_KV RL 105 mX11_best := ⟨in_890, in_891, in_892⟩
theorem k_X11_251 : dk_KV RX11 251 mX6_start := ⟨in_894, in_895, in_896⟩
theorem k_X6_37 : dk_KV RX6 37 mX4_take := ⟨in_898, in_828, in_829⟩
theorem k_X11_254 : dk_KV RX11 254 mX6_bestFrom := ⟨in_899, in_900, in_901⟩
theorem k_X6_49 : dk_KV RX6 49 mX6_isLast := ⟨in_903, in_905, in_18⟩
theorem k_X6_41 : dk_KV RX6 41 mX10_isOver := ⟨in_907, in_650, in_651⟩
theorem k_X6_53 : dk_KV RX6 53 mX6_goDeeper := ⟨in_908, in_910, in_19⟩
theorem k_X6_45 : dk_KV RX6 45 mX10_passYear := ⟨in_912, in_789, in_790⟩
theorem k_X6_57 : dk_KV RX6 57 mX6_bestFrom := ⟨in_913, in_900, in_901⟩
theorem k_X6_60 : dk_KV RX6 60 mX6_noteFirst := ⟨in_914, in_916, in_20⟩
theorem k_X6_68 : dk_KV RX6 68 mX10_isIdle := ⟨in_918, in_919, in_920⟩
theorem k_L_109 : dk_KV RL 109 mX11_ith := ⟨in_922, in_923, in_924⟩
theorem k_X11_257 : dk_KV RX11 257 mX11_planLength := ⟨in_926, in_928, in_21⟩
theorem k_X11_375 : dk_KS RX11 375 mJ9_min_7cf53 := ⟨in_930, in_806⟩
theorem k_X11_380 : dk_KS RX11 380 mJ9_max_7cf53 := ⟨in_931, in_566⟩
theorem k_L_113 : dk_KV RL 113 mX11_ways := ⟨in_932, in_933, in_934⟩
theorem k_L_117 : dk_KV RL 117 mX11_line := ⟨in_936, in_937, in_938⟩
theorem k_X11_266 : dk_KV RX11 266 mX10_isSet := ⟨in_940, in_941, in_942⟩
theorem k_X11_269 : dk_KV RX11 269 mX6_fewestFrom := ⟨in_944, in_945, in_946⟩
theorem k_X6_75 : dk_KV RX6 75 mX6_fewestFrom := ⟨in_948, in_945, in_946⟩
theorem k_X6_79 : dk_KS RX6 79 mJ9_min_7cf53 := ⟨in_949, in_806⟩
theorem k_L_121 : dk_KV RL 121 mX11_bars := ⟨in_950, in_951, in_952⟩
theorem k_X11_272 : dk_KV RX11 272 mX6_reachFrom := ⟨in_954, in_955, in_956⟩
theorem k_X6_84 : dk_KV RX6 84 mX6_reachFrom := ⟨in_958, in_955, in_956⟩
theorem k_L_125 : dk_KV RL 125 mX11_game := ⟨in_959, in_960, in_961⟩
theorem k_X11_278 : dk_KV RX11 278 mX6_gameFrom := ⟨in_963, in_964, in_965⟩
theorem k_X6_87 : dk_KV RX6 87 mX6_gameFrom := ⟨in_967, in_964, in_965⟩
theorem k_L_129 : dk_KV RL 129 mX11_play := ⟨in_968, in_969, in_970⟩
theorem k_L_133 : dk_KV RL 133 mX11_report := ⟨in_972, in_973, in_974⟩
theorem k_X11_288 : dk_KV RX11 288 mX7_add := ⟨in_976, in_977, in_978⟩
theorem k_L_137 : dk_KV RL 137 mX11_forget := ⟨in_980, in_981, in_982⟩
theorem k_L_141 : dk_KV RL 141 mX11_lone := ⟨in_984, in_985, in_986⟩
theorem k_X11_289 : dk_KV RX11 289 mX7_search := ⟨in_988, in_989, in_990⟩
theorem k_X7_49 : dk_KV RX7 49 mX7_noteLone := ⟨in_992, in_994, in_22⟩
theorem k_X7_59 : dk_KV RX7 59 mX7_brokenBy := ⟨in_996, in_998, in_23⟩
theorem k_X7_69 : dk_KV RX7 69 mX5_bears := ⟨in_1000, in_495, in_496⟩
theorem k_X7_75 : dk_KV RX7 75 mX7_lastYear := ⟨in_1001, in_1003, in_24⟩
theorem k_X7_97 : dk_KS RX7 97 mJ9_max_7cf53 := ⟨in_1005, in_566⟩
theorem k_X7_79 : dk_KV RX7 79 mX7_brokenBehind := ⟨in_1006, in_1008, in_25⟩
theorem k_X7_83 : dk_KV RX7 83 mX10_wordOf := ⟨in_1010, in_535, in_536⟩
theorem k_X7_86 : dk_KV RX7 86 mX10_hushOf := ⟨in_1011, in_543, in_544⟩
theorem k_X7_89 : dk_KV RX7 89 mX5_leansMore := ⟨in_1012, in_547, in_548⟩
theorem k_X7_92 : dk_KS RX7 92 mJ9_min_7cf53 := ⟨in_1013, in_806⟩
theorem k_X7_63 : dk_KS RX7 63 mJ6_bitCount_0f7a4 := ⟨in_1014, in_814⟩
theorem k_L_145 : dk_KV RL 145 mX11_liar := ⟨in_1015, in_1016, in_1017⟩
theorem k_L_149 : dk_KV RL 149 mX11_seed := ⟨in_1019, in_1020, in_1021⟩
theorem k_L_153 : dk_KV RL 153 mX11_lot := ⟨in_1023, in_1024, in_1025⟩
theorem k_X11_310 : dk_KS RX11 310 mX11_nextLot := ⟨in_1027, in_1028⟩
theorem k_X11_313 : dk_KV RX11 313 mX10_actByLot := ⟨in_1031, in_1032, in_1033⟩
theorem k_L_157 : dk_KV RL 157 mX11_times := ⟨in_1035, in_1036, in_1037⟩
theorem k_L_161 : dk_KV RL 161 mX11_prove := ⟨in_1039, in_1040, in_1041⟩
theorem k_L_165 : dk_KV RL 165 mX11_row := ⟨in_1043, in_1044, in_1045⟩
theorem k_L_169 : dk_KV RL 169 mX11_alterRow := ⟨in_1047, in_1048, in_1049⟩
theorem k_L_173 : dk_KV RL 173 mX11_judge := ⟨in_1051, in_1052, in_1053⟩
theorem k_X11_316 : dk_KV RX11 316 mX10_isAct := ⟨in_1055, in_1056, in_1057⟩
theorem k_L_177 : dk_KV RL 177 mX11_sheet := ⟨in_1059, in_1060, in_1061⟩
theorem k_L_181 : dk_KV RL 181 mX11_write := ⟨in_1063, in_1064, in_1065⟩
theorem k_X11_319 : dk_KS RX11 319 mX11_narrowed := ⟨in_1067, in_1068⟩
theorem k_L_185 : dk_KV RL 185 mX11_item := ⟨in_1070, in_1071, in_1072⟩
theorem k_L_189 : dk_KV RL 189 mX11_goAll := ⟨in_1074, in_1075, in_1076⟩
theorem k_X11_322 : dk_KV RX11 322 mX11_refusalOfActs := ⟨in_1078, in_1080, in_26⟩
theorem k_L_193 : dk_KV RL 193 mX11_wouldBe := ⟨in_1082, in_1083, in_1084⟩
theorem k_L_197 : dk_KV RL 197 mX11_shelf := ⟨in_1086, in_1087, in_1088⟩
theorem k_X11_325 : dk_KV RX11 325 mX11_put := ⟨in_1090, in_1092, in_27⟩
theorem k_L_201 : dk_KV RL 201 mX11_taken := ⟨in_1094, in_1095, in_1096⟩
theorem k_X11_328 : dk_KV RX11 328 mX11_heldOn := ⟨in_1098, in_1100, in_28⟩
theorem k_X11_331 : dk_KS RX11 331 mX11_isOrIsUnder := ⟨in_1102, in_592⟩
theorem k_L_205 : dk_KV RL 205 mX11_act := ⟨in_1103, in_1104, in_1105⟩
theorem k_X11_335 : dk_KV RX11 335 mX5_becomes := ⟨in_1107, in_1108, in_1109⟩
theorem k_X11_339 : dk_KV RX11 339 mX5_tips := ⟨in_1117, in_1118, in_1119⟩
theorem k_X0_13 : dk_KV RX0 13 mX5_tips := ⟨in_1130, in_1118, in_1119⟩
theorem k_X5_29 : dk_KV RX5 29 mX5_began := ⟨in_1144, in_1128, in_1852⟩
theorem k_X11_342 : dk_KV RX11 342 mX5_taps := ⟨in_1145, in_1146, in_1147⟩
theorem k_X2_21 : dk_KV RX2 21 mX5_taps := ⟨in_1157, in_1146, in_1147⟩
theorem k_X5_33 : dk_KV RX5 33 mX5_tips := ⟨in_1170, in_1118, in_1119⟩
theorem k_X11_345 : dk_KV RX11 345 mX5_halves := ⟨in_1171, in_1172, in_1173⟩
theorem k_X3_26 : dk_KV RX3 26 mX5_halves := ⟨in_1185, in_1172, in_1173⟩
theorem k_X11_348 : dk_KV RX11 348 mX5_turns := ⟨in_1194, in_1195, in_1196⟩
theorem k_X5_37 : dk_KV RX5 37 mX5_taps := ⟨in_1213, in_1146, in_1147⟩
theorem k_X5_40 : dk_KV RX5 40 mX5_halves := ⟨in_1214, in_1172, in_1173⟩
theorem k_L_209 : dk_KV RL 209 mX11_trace := ⟨in_1215, in_1216, in_1217⟩
theorem k_L_213 : dk_KV RL 213 mX11_many := ⟨in_1219, in_1220, in_1221⟩
theorem k_X11_361 : dk_KS RX11 361 mJ6_bitCount_0f7a4 := ⟨in_1223, in_814⟩
theorem k_L_217 : dk_KV RL 217 mX11_keep := ⟨in_1224, in_1225, in_1226⟩
theorem k_X11_366 : dk_KV RX11 366 mX10_take := ⟨in_1228, in_1229, in_1230⟩
theorem k_X10_83 : dk_KV RX10 83 mX4_take := ⟨in_1233, in_828, in_829⟩
theorem k_X10_87 : dk_KV RX10 87 mX8_take := ⟨in_1234, in_1235, in_1236⟩
theorem k_X10_90 : dk_KV RX10 90 mX7_take := ⟨in_1239, in_1240, in_1241⟩
theorem k_L_221 : dk_KV RL 221 mX11_again := ⟨in_1244, in_1245, in_1246⟩
theorem k_L_17 : dk_KV RL 17 mX12_piece := ⟨in_1350, in_1351, in_1352⟩
theorem k_X12_61 : dk_KS RX12 61 mX12_in := ⟨in_1354, in_1355⟩
theorem k_X12_101 : dk_KS RX12 101 mX12_isOf := ⟨in_1357, in_1358⟩
theorem k_X12_97 : dk_KS RX12 97 mX12_isRoom := ⟨in_1360, in_1361⟩
theorem k_X12_105 : dk_KV RX12 105 mX12_put := ⟨in_1363, in_1365, in_29⟩
theorem k_L_22 : dk_KV RL 22 mX12_pieceOf := ⟨in_1367, in_1368, in_1369⟩
theorem k_X12_109 : dk_KV RX12 109 mX12_isPiece := ⟨in_1371, in_1373, in_30⟩
theorem k_X12_112 : dk_KV RX12 112 mX12_leansOf := ⟨in_1375, in_1377, in_31⟩
theorem k_X12_69 : dk_KV RX12 69 mX12_of := ⟨in_1379, in_1381, in_32⟩
theorem k_X12_73 : dk_KV RX12 73 mX12_word := ⟨in_1383, in_1385, in_33⟩
theorem k_X12_65 : dk_KV RX12 65 mX12_sayingOf := ⟨in_1387, in_1389, in_34⟩
theorem k_X12_77 : dk_KV RX12 77 mX12_hush := ⟨in_1391, in_1393, in_35⟩
theorem k_X12_80 : dk_KS RX12 80 mX12_leansBy := ⟨in_1395, in_1396⟩
theorem k_X12_88 : dk_KV RX12 88 mX12_bearsOf := ⟨in_1398, in_1400, in_36⟩
theorem k_X12_84 : dk_KS RX12 84 mX12_bearsBy := ⟨in_1402, in_1403⟩
theorem k_X12_91 : dk_KV RX12 91 mX12_paysOf := ⟨in_1405, in_1407, in_37⟩
theorem k_X12_115 : dk_KV RX12 115 mX12_mayFall := ⟨in_1409, in_1411, in_38⟩
theorem k_X12_94 : dk_KV RX12 94 mX12_does := ⟨in_1413, in_1415, in_39⟩
theorem k_X12_211 : dk_KS RX12 211 mX12_isUnder := ⟨in_1417, in_1418⟩
theorem k_X12_214 : dk_KV RX12 214 mX12_isHolding := ⟨in_1420, in_1422, in_40⟩
theorem k_X12_205 : dk_KV RX12 205 mX12_factOf := ⟨in_1424, in_1426, in_41⟩
theorem k_X12_208 : dk_KS RX12 208 mX12_isSo := ⟨in_1428, in_1429⟩
theorem k_L_27 : dk_KV RL 27 mX12_change := ⟨in_1431, in_1432, in_1433⟩
theorem k_X12_118 : dk_KV RX12 118 mX12_becomes := ⟨in_1435, in_1437, in_42⟩
theorem k_L_31 : dk_KV RL 31 mX12_remake := ⟨in_1439, in_1440, in_1441⟩
theorem k_L_35 : dk_KV RL 35 mX12_saying := ⟨in_1443, in_1444, in_1445⟩
theorem k_L_39 : dk_KV RL 39 mX12_room := ⟨in_1447, in_1448, in_1449⟩
theorem k_L_43 : dk_KV RL 43 mX12_roomOf := ⟨in_1451, in_1452, in_1453⟩
theorem k_L_48 : dk_KV RL 48 mX12_ends := ⟨in_1455, in_1456, in_1457⟩
theorem k_L_53 : dk_KV RL 53 mX12_anew := ⟨in_1459, in_1460, in_1461⟩
theorem k_L_57 : dk_KV RL 57 mX12_state := ⟨in_1463, in_1464, in_1465⟩
theorem k_X12_121 : dk_KV RX12 121 mX12_isOver := ⟨in_1467, in_1469, in_43⟩
theorem k_X12_125 : dk_KV RX12 125 mX12_fallenOnes := ⟨in_1471, in_1473, in_44⟩
theorem k_X12_128 : dk_KV RX12 128 mX12_allLean := ⟨in_1475, in_1477, in_45⟩
theorem k_L_64 : dk_KV RL 64 mX12_feed := ⟨in_1479, in_1480, in_1481⟩
theorem k_L_68 : dk_KV RL 68 mX12_rules := ⟨in_1484, in_1485, in_1486⟩
theorem k_X12_196 : dk_KV RX12 196 mX12_thinks := ⟨in_1488, in_1490, in_46⟩
theorem k_X12_57 : dk_KS RX12 57 mX12_copyAll := ⟨in_1492, in_1493⟩
theorem k_X12_168 : dk_KV RX12 168 mX12_reads := ⟨in_1495, in_1497, in_47⟩
theorem k_X12_149 : dk_KV RX12 149 mX12_isByte := ⟨in_1499, in_1501, in_48⟩
theorem k_X12_158 : dk_KV RX12 158 mX12_wordHere := ⟨in_1503, in_1505, in_49⟩
theorem k_X12_146 : dk_KV RX12 146 mX12_isName := ⟨in_1507, in_1509, in_50⟩
theorem k_X12_161 : dk_KS RX12 161 mX12_signOf := ⟨in_1513, in_1514⟩
theorem k_X12_199 : dk_KV RX12 199 mX12_ruleHere := ⟨in_1516, in_1518, in_51⟩
theorem k_X12_174 : dk_KV RX12 174 mX12_passes := ⟨in_1520, in_1522, in_52⟩
theorem k_X12_180 : dk_KV RX12 180 mX12_condition := ⟨in_1524, in_1526, in_53⟩
theorem k_X12_193 : dk_KV RX12 193 mX12_all := ⟨in_1528, in_1530, in_54⟩
theorem k_X12_190 : dk_KV RX12 190 mX12_one := ⟨in_1532, in_1534, in_55⟩
theorem k_X12_183 : dk_KV RX12 183 mX12_side := ⟨in_1536, in_1538, in_56⟩
theorem k_X12_186 : dk_KV RX12 186 mX12_step := ⟨in_1540, in_1542, in_57⟩
theorem k_X12_202 : dk_KV RX12 202 mX12_putsBack := ⟨in_1544, in_1546, in_58⟩
theorem k_L_72 : dk_KV RL 72 mX12_year := ⟨in_1548, in_1549, in_1550⟩
theorem k_X12_229 : dk_KV RX12 229 mX12_goesByItself := ⟨in_1552, in_1554, in_59⟩
theorem k_X12_226 : dk_KV RX12 226 mX12_goes := ⟨in_1556, in_1558, in_60⟩
theorem k_X12_220 : dk_KV RX12 220 mX12_tells := ⟨in_1560, in_1562, in_61⟩
theorem k_X12_217 : dk_KV RX12 217 mX12_falls := ⟨in_1564, in_1566, in_62⟩
theorem k_X12_223 : dk_KV RX12 223 mX12_tipping := ⟨in_1568, in_1570, in_63⟩
theorem k_L_76 : dk_KV RL 76 mX12_on := ⟨in_1572, in_1573, in_1574⟩
theorem k_X12_232 : dk_KV RX12 232 mX12_restOf := ⟨in_1576, in_1578, in_64⟩
theorem k_L_80 : dk_KV RL 80 mX12_when := ⟨in_1580, in_1581, in_1582⟩
theorem k_L_84 : dk_KV RL 84 mX12_gapFor := ⟨in_1584, in_1585, in_1586⟩
theorem k_X12_235 : dk_KV RX12 235 mX12_bestFor := ⟨in_1588, in_1590, in_65⟩
theorem k_L_88 : dk_KV RL 88 mX12_roomFor := ⟨in_1592, in_1593, in_1594⟩
theorem k_L_92 : dk_KV RL 92 mX12_itself := ⟨in_1596, in_1597, in_1598⟩
theorem k_L_96 : dk_KV RL 96 mX12_least := ⟨in_1600, in_1601, in_1602⟩
theorem k_L_100 : dk_KV RL 100 mX12_wave := ⟨in_1604, in_1605, in_1606⟩
theorem k_L_104 : dk_KV RL 104 mX12_chains := ⟨in_1608, in_1609, in_1610⟩
theorem k_X12_241 : dk_KV RX12 241 mX12_chainOf := ⟨in_1612, in_1614, in_66⟩
theorem k_X12_238 : dk_KV RX12 238 mX12_areClose := ⟨in_1616, in_1618, in_67⟩
theorem k_L_108 : dk_KV RL 108 mX12_best := ⟨in_1620, in_1621, in_1622⟩
theorem k_X12_268 : dk_KV RX12 268 mX12_findBest := ⟨in_1624, in_1626, in_68⟩
theorem k_X12_244 : dk_KV RX12 244 mX12_yearsOf := ⟨in_1628, in_1630, in_69⟩
theorem k_X12_253 : dk_KV RX12 253 mX12_plansOf := ⟨in_1632, in_1634, in_70⟩
theorem k_X12_259 : dk_KV RX12 259 mX12_worthOf := ⟨in_1636, in_1638, in_71⟩
theorem k_X12_247 : dk_KS RX12 247 mX12_digit := ⟨in_1640, in_1641⟩
theorem k_L_112 : dk_KV RL 112 mX12_ith := ⟨in_1643, in_1644, in_1645⟩
theorem k_L_116 : dk_KV RL 116 mX12_ways := ⟨in_1647, in_1648, in_1649⟩
theorem k_L_120 : dk_KV RL 120 mX12_line := ⟨in_1651, in_1652, in_1653⟩
theorem k_X12_271 : dk_KV RX12 271 mX12_actsIn := ⟨in_1655, in_1657, in_72⟩
theorem k_L_124 : dk_KV RL 124 mX12_bars := ⟨in_1659, in_1660, in_1661⟩
theorem k_L_128 : dk_KV RL 128 mX12_game := ⟨in_1663, in_1664, in_1665⟩
theorem k_X12_274 : dk_KV RX12 274 mX12_gameOn := ⟨in_1667, in_1669, in_73⟩
theorem k_L_132 : dk_KV RL 132 mX12_play := ⟨in_1671, in_1672, in_1673⟩
theorem k_L_136 : dk_KV RL 136 mX12_report := ⟨in_1675, in_1676, in_1677⟩
theorem k_L_140 : dk_KV RL 140 mX12_forget := ⟨in_1679, in_1680, in_1681⟩
theorem k_L_144 : dk_KV RL 144 mX12_lone := ⟨in_1683, in_1684, in_1685⟩
theorem k_X12_281 : dk_KS RX12 281 mX12_isFour := ⟨in_1687, in_1688⟩
theorem k_X12_284 : dk_KV RX12 284 mX12_stranger := ⟨in_1690, in_1692, in_74⟩
theorem k_X12_278 : dk_KV RX12 278 mX12_fits := ⟨in_1694, in_1696, in_75⟩
theorem k_L_148 : dk_KV RL 148 mX12_liar := ⟨in_1698, in_1699, in_1700⟩
theorem k_L_152 : dk_KV RL 152 mX12_seed := ⟨in_1702, in_1703, in_1704⟩
theorem k_L_156 : dk_KV RL 156 mX12_lot := ⟨in_1706, in_1707, in_1708⟩
theorem k_X12_288 : dk_KV RX12 288 mX12_byLot := ⟨in_1710, in_1712, in_76⟩
theorem k_L_160 : dk_KV RL 160 mX12_times := ⟨in_1715, in_1716, in_1717⟩
theorem k_L_164 : dk_KV RL 164 mX12_prove := ⟨in_1719, in_1720, in_1721⟩
theorem k_L_168 : dk_KV RL 168 mX12_row := ⟨in_1723, in_1724, in_1725⟩
theorem k_X12_294 : dk_KV RX12 294 mX12_isRow := ⟨in_1727, in_1729, in_77⟩
theorem k_L_172 : dk_KV RL 172 mX12_alterRow := ⟨in_1731, in_1732, in_1733⟩
theorem k_L_176 : dk_KV RL 176 mX12_judge := ⟨in_1735, in_1736, in_1737⟩
theorem k_L_180 : dk_KV RL 180 mX12_sheet := ⟨in_1739, in_1740, in_1741⟩
theorem k_L_184 : dk_KV RL 184 mX12_write := ⟨in_1743, in_1744, in_1745⟩
theorem k_L_188 : dk_KV RL 188 mX12_item := ⟨in_1747, in_1748, in_1749⟩
theorem k_L_192 : dk_KV RL 192 mX12_goAll := ⟨in_1751, in_1752, in_1753⟩
theorem k_X12_297 : dk_KV RX12 297 mX12_notActs := ⟨in_1755, in_1757, in_78⟩
theorem k_X12_300 : dk_KV RX12 300 mX12_isPlace := ⟨in_1759, in_1761, in_79⟩
theorem k_L_196 : dk_KV RL 196 mX12_wouldBe := ⟨in_1763, in_1764, in_1765⟩
theorem k_L_200 : dk_KV RL 200 mX12_shelf := ⟨in_1767, in_1768, in_1769⟩
theorem k_L_204 : dk_KV RL 204 mX12_taken := ⟨in_1771, in_1772, in_1773⟩
theorem k_X12_304 : dk_KV RX12 304 mX12_hasPiece := ⟨in_1775, in_1777, in_80⟩
theorem k_L_208 : dk_KV RL 208 mX12_act := ⟨in_1779, in_1780, in_1781⟩
theorem k_X12_316 : dk_KV RX12 316 mX12_tips := ⟨in_1783, in_1785, in_81⟩
theorem k_X12_310 : dk_KV RX12 310 mX12_begins := ⟨in_1787, in_1789, in_82⟩
theorem k_X12_313 : dk_KV RX12 313 mX12_plainTips := ⟨in_1791, in_1793, in_83⟩
theorem k_X12_331 : dk_KV RX12 331 mX12_taps := ⟨in_1795, in_1797, in_84⟩
theorem k_X12_319 : dk_KV RX12 319 mX12_plainTaps := ⟨in_1799, in_1801, in_85⟩
theorem k_X12_334 : dk_KV RX12 334 mX12_halves := ⟨in_1803, in_1805, in_86⟩
theorem k_X12_328 : dk_KV RX12 328 mX12_girlHalves := ⟨in_1807, in_1809, in_87⟩
theorem k_X12_325 : dk_KV RX12 325 mX12_plainHalves := ⟨in_1811, in_1813, in_88⟩
theorem k_X12_340 : dk_KV RX12 340 mX12_turns := ⟨in_1815, in_1817, in_89⟩
theorem k_X12_337 : dk_KV RX12 337 mX12_plainTurns := ⟨in_1819, in_1821, in_90⟩
theorem k_L_212 : dk_KV RL 212 mX12_trace := ⟨in_1823, in_1824, in_1825⟩
theorem k_L_216 : dk_KV RL 216 mX12_many := ⟨in_1827, in_1828, in_1829⟩
theorem k_X12_343 : dk_KS RX12 343 mX12_bits := ⟨in_1831, in_1832⟩
theorem k_L_220 : dk_KV RL 220 mX12_keep := ⟨in_1834, in_1835, in_1836⟩
theorem k_L_224 : dk_KV RL 224 mX12_again := ⟨in_1838, in_1839, in_1840⟩
theorem kp_X1_11 : dk_KP RX1 11 mX2_bears := ⟨in_504, in_1843, in_187, in_505, by decide⟩
theorem kp_X2_11 : dk_KP RX2 11 mX5_bears := ⟨in_507, in_497, in_175, in_495, by decide⟩
theorem kp_X3_17 : dk_KP RX3 17 mX5_bears := ⟨in_512, in_497, in_199, in_495, by decide⟩
theorem kp_X9_11 : dk_KP RX9 11 mX3_bears := ⟨in_516, in_1844, in_211, in_510, by decide⟩
theorem kp_X1_7 : dk_KP RX1 7 mX2_leansMore := ⟨in_556, in_1845, in_187, in_557, by decide⟩
theorem kp_X2_7 : dk_KP RX2 7 mX5_leansMore := ⟨in_559, in_549, in_175, in_547, by decide⟩
theorem kp_X3_7 : dk_KP RX3 7 mX5_leansMore := ⟨in_564, in_549, in_199, in_547, by decide⟩
theorem kp_X9_7 : dk_KP RX9 7 mX3_leansMore := ⟨in_571, in_1846, in_211, in_562, by decide⟩
theorem kp_X0_13 : dk_KP RX0 13 mX5_tips := ⟨in_1130, in_1120, in_163, in_1118, by decide⟩
theorem kp_X2_21 : dk_KP RX2 21 mX5_taps := ⟨in_1157, in_1148, in_175, in_1146, by decide⟩
theorem kp_X3_26 : dk_KP RX3 26 mX5_halves := ⟨in_1185, in_1174, in_199, in_1172, by decide⟩
theorem kp_X9_25 : dk_KP RX9 25 mX3_halves := ⟨in_1189, in_1854, in_211, in_1179, by decide⟩
theorem ku_X10_104_5 : dk_KU RX10 104 RX5 ⟨"DominoKin$Piece", "bears", "(II)I"⟩ mX5_bears 2 := ⟨"DominoKin$Piece", cX5_bears, 3, some .int, in_494, in_497, in_495, in_517, in_496, in_495, by decide +kernel⟩
theorem ku_X10_104_0 : dk_KU RX10 104 RX0 ⟨"DominoKin$Piece", "bears", "(II)I"⟩ mX0_bears 2 := ⟨"DominoKin$Piece", cX5_bears, 3, some .int, in_494, in_497, in_495, in_517, in_498, in_499, by decide +kernel⟩
theorem ku_X10_104_1 : dk_KU RX10 104 RX1 ⟨"DominoKin$Piece", "bears", "(II)I"⟩ mX1_bears 2 := ⟨"DominoKin$Piece", cX5_bears, 3, some .int, in_494, in_497, in_495, in_517, in_501, in_502, by decide +kernel⟩
theorem ku_X10_104_2 : dk_KU RX10 104 RX2 ⟨"DominoKin$Piece", "bears", "(II)I"⟩ mX2_bears 2 := ⟨"DominoKin$Piece", cX5_bears, 3, some .int, in_494, in_497, in_495, in_517, in_508, in_505, by decide +kernel⟩
theorem ku_X10_104_3 : dk_KU RX10 104 RX3 ⟨"DominoKin$Piece", "bears", "(II)I"⟩ mX3_bears 2 := ⟨"DominoKin$Piece", cX5_bears, 3, some .int, in_494, in_497, in_495, in_517, in_509, in_510, by decide +kernel⟩
theorem ku_X10_104_9 : dk_KU RX10 104 RX9 ⟨"DominoKin$Piece", "bears", "(II)I"⟩ mX9_bears 2 := ⟨"DominoKin$Piece", cX5_bears, 3, some .int, in_494, in_497, in_495, in_517, in_513, in_514, by decide +kernel⟩
theorem ku_X2_11_5 : dk_KU RX2 11 RX5 ⟨"DominoKin$Piece", "bears", "(II)I"⟩ mX5_bears 2 := ⟨"DominoKin$Piece", cX5_bears, 3, some .int, in_507, in_497, in_495, in_517, in_496, in_495, by decide +kernel⟩
theorem ku_X2_11_0 : dk_KU RX2 11 RX0 ⟨"DominoKin$Piece", "bears", "(II)I"⟩ mX0_bears 2 := ⟨"DominoKin$Piece", cX5_bears, 3, some .int, in_507, in_497, in_495, in_517, in_498, in_499, by decide +kernel⟩
theorem ku_X2_11_1 : dk_KU RX2 11 RX1 ⟨"DominoKin$Piece", "bears", "(II)I"⟩ mX1_bears 2 := ⟨"DominoKin$Piece", cX5_bears, 3, some .int, in_507, in_497, in_495, in_517, in_501, in_502, by decide +kernel⟩
theorem ku_X2_11_2 : dk_KU RX2 11 RX2 ⟨"DominoKin$Piece", "bears", "(II)I"⟩ mX2_bears 2 := ⟨"DominoKin$Piece", cX5_bears, 3, some .int, in_507, in_497, in_495, in_517, in_508, in_505, by decide +kernel⟩
theorem ku_X2_11_3 : dk_KU RX2 11 RX3 ⟨"DominoKin$Piece", "bears", "(II)I"⟩ mX3_bears 2 := ⟨"DominoKin$Piece", cX5_bears, 3, some .int, in_507, in_497, in_495, in_517, in_509, in_510, by decide +kernel⟩
theorem ku_X2_11_9 : dk_KU RX2 11 RX9 ⟨"DominoKin$Piece", "bears", "(II)I"⟩ mX9_bears 2 := ⟨"DominoKin$Piece", cX5_bears, 3, some .int, in_507, in_497, in_495, in_517, in_513, in_514, by decide +kernel⟩
theorem ku_X3_17_5 : dk_KU RX3 17 RX5 ⟨"DominoKin$Piece", "bears", "(II)I"⟩ mX5_bears 2 := ⟨"DominoKin$Piece", cX5_bears, 3, some .int, in_512, in_497, in_495, in_517, in_496, in_495, by decide +kernel⟩
theorem ku_X3_17_0 : dk_KU RX3 17 RX0 ⟨"DominoKin$Piece", "bears", "(II)I"⟩ mX0_bears 2 := ⟨"DominoKin$Piece", cX5_bears, 3, some .int, in_512, in_497, in_495, in_517, in_498, in_499, by decide +kernel⟩
theorem ku_X3_17_1 : dk_KU RX3 17 RX1 ⟨"DominoKin$Piece", "bears", "(II)I"⟩ mX1_bears 2 := ⟨"DominoKin$Piece", cX5_bears, 3, some .int, in_512, in_497, in_495, in_517, in_501, in_502, by decide +kernel⟩
theorem ku_X3_17_2 : dk_KU RX3 17 RX2 ⟨"DominoKin$Piece", "bears", "(II)I"⟩ mX2_bears 2 := ⟨"DominoKin$Piece", cX5_bears, 3, some .int, in_512, in_497, in_495, in_517, in_508, in_505, by decide +kernel⟩
theorem ku_X3_17_3 : dk_KU RX3 17 RX3 ⟨"DominoKin$Piece", "bears", "(II)I"⟩ mX3_bears 2 := ⟨"DominoKin$Piece", cX5_bears, 3, some .int, in_512, in_497, in_495, in_517, in_509, in_510, by decide +kernel⟩
theorem ku_X3_17_9 : dk_KU RX3 17 RX9 ⟨"DominoKin$Piece", "bears", "(II)I"⟩ mX9_bears 2 := ⟨"DominoKin$Piece", cX5_bears, 3, some .int, in_512, in_497, in_495, in_517, in_513, in_514, by decide +kernel⟩
theorem ku_X10_121_5 : dk_KU RX10 121 RX5 ⟨"DominoKin$Piece", "leansMore", "(III)I"⟩ mX5_leansMore 3 := ⟨"DominoKin$Piece", cX5_leansMore, 4, some .int, in_546, in_549, in_547, in_572, in_548, in_547, by decide +kernel⟩
theorem ku_X10_121_0 : dk_KU RX10 121 RX0 ⟨"DominoKin$Piece", "leansMore", "(III)I"⟩ mX0_leansMore 3 := ⟨"DominoKin$Piece", cX5_leansMore, 4, some .int, in_546, in_549, in_547, in_572, in_550, in_551, by decide +kernel⟩
theorem ku_X10_121_1 : dk_KU RX10 121 RX1 ⟨"DominoKin$Piece", "leansMore", "(III)I"⟩ mX1_leansMore 3 := ⟨"DominoKin$Piece", cX5_leansMore, 4, some .int, in_546, in_549, in_547, in_572, in_553, in_554, by decide +kernel⟩
theorem ku_X10_121_2 : dk_KU RX10 121 RX2 ⟨"DominoKin$Piece", "leansMore", "(III)I"⟩ mX2_leansMore 3 := ⟨"DominoKin$Piece", cX5_leansMore, 4, some .int, in_546, in_549, in_547, in_572, in_560, in_557, by decide +kernel⟩
theorem ku_X10_121_3 : dk_KU RX10 121 RX3 ⟨"DominoKin$Piece", "leansMore", "(III)I"⟩ mX3_leansMore 3 := ⟨"DominoKin$Piece", cX5_leansMore, 4, some .int, in_546, in_549, in_547, in_572, in_561, in_562, by decide +kernel⟩
theorem ku_X10_121_9 : dk_KU RX10 121 RX9 ⟨"DominoKin$Piece", "leansMore", "(III)I"⟩ mX9_leansMore 3 := ⟨"DominoKin$Piece", cX5_leansMore, 4, some .int, in_546, in_549, in_547, in_572, in_568, in_569, by decide +kernel⟩
theorem ku_X2_7_5 : dk_KU RX2 7 RX5 ⟨"DominoKin$Piece", "leansMore", "(III)I"⟩ mX5_leansMore 3 := ⟨"DominoKin$Piece", cX5_leansMore, 4, some .int, in_559, in_549, in_547, in_572, in_548, in_547, by decide +kernel⟩
theorem ku_X2_7_0 : dk_KU RX2 7 RX0 ⟨"DominoKin$Piece", "leansMore", "(III)I"⟩ mX0_leansMore 3 := ⟨"DominoKin$Piece", cX5_leansMore, 4, some .int, in_559, in_549, in_547, in_572, in_550, in_551, by decide +kernel⟩
theorem ku_X2_7_1 : dk_KU RX2 7 RX1 ⟨"DominoKin$Piece", "leansMore", "(III)I"⟩ mX1_leansMore 3 := ⟨"DominoKin$Piece", cX5_leansMore, 4, some .int, in_559, in_549, in_547, in_572, in_553, in_554, by decide +kernel⟩
theorem ku_X2_7_2 : dk_KU RX2 7 RX2 ⟨"DominoKin$Piece", "leansMore", "(III)I"⟩ mX2_leansMore 3 := ⟨"DominoKin$Piece", cX5_leansMore, 4, some .int, in_559, in_549, in_547, in_572, in_560, in_557, by decide +kernel⟩
theorem ku_X2_7_3 : dk_KU RX2 7 RX3 ⟨"DominoKin$Piece", "leansMore", "(III)I"⟩ mX3_leansMore 3 := ⟨"DominoKin$Piece", cX5_leansMore, 4, some .int, in_559, in_549, in_547, in_572, in_561, in_562, by decide +kernel⟩
theorem ku_X2_7_9 : dk_KU RX2 7 RX9 ⟨"DominoKin$Piece", "leansMore", "(III)I"⟩ mX9_leansMore 3 := ⟨"DominoKin$Piece", cX5_leansMore, 4, some .int, in_559, in_549, in_547, in_572, in_568, in_569, by decide +kernel⟩
theorem ku_X3_7_5 : dk_KU RX3 7 RX5 ⟨"DominoKin$Piece", "leansMore", "(III)I"⟩ mX5_leansMore 3 := ⟨"DominoKin$Piece", cX5_leansMore, 4, some .int, in_564, in_549, in_547, in_572, in_548, in_547, by decide +kernel⟩
theorem ku_X3_7_0 : dk_KU RX3 7 RX0 ⟨"DominoKin$Piece", "leansMore", "(III)I"⟩ mX0_leansMore 3 := ⟨"DominoKin$Piece", cX5_leansMore, 4, some .int, in_564, in_549, in_547, in_572, in_550, in_551, by decide +kernel⟩
theorem ku_X3_7_1 : dk_KU RX3 7 RX1 ⟨"DominoKin$Piece", "leansMore", "(III)I"⟩ mX1_leansMore 3 := ⟨"DominoKin$Piece", cX5_leansMore, 4, some .int, in_564, in_549, in_547, in_572, in_553, in_554, by decide +kernel⟩
theorem ku_X3_7_2 : dk_KU RX3 7 RX2 ⟨"DominoKin$Piece", "leansMore", "(III)I"⟩ mX2_leansMore 3 := ⟨"DominoKin$Piece", cX5_leansMore, 4, some .int, in_564, in_549, in_547, in_572, in_560, in_557, by decide +kernel⟩
theorem ku_X3_7_3 : dk_KU RX3 7 RX3 ⟨"DominoKin$Piece", "leansMore", "(III)I"⟩ mX3_leansMore 3 := ⟨"DominoKin$Piece", cX5_leansMore, 4, some .int, in_564, in_549, in_547, in_572, in_561, in_562, by decide +kernel⟩
theorem ku_X3_7_9 : dk_KU RX3 7 RX9 ⟨"DominoKin$Piece", "leansMore", "(III)I"⟩ mX9_leansMore 3 := ⟨"DominoKin$Piece", cX5_leansMore, 4, some .int, in_564, in_549, in_547, in_572, in_568, in_569, by decide +kernel⟩
theorem ku_X7_69_5 : dk_KU RX7 69 RX5 ⟨"DominoKin$Piece", "bears", "(II)I"⟩ mX5_bears 2 := ⟨"DominoKin$Piece", cX5_bears, 3, some .int, in_1000, in_497, in_495, in_517, in_496, in_495, by decide +kernel⟩
theorem ku_X7_69_0 : dk_KU RX7 69 RX0 ⟨"DominoKin$Piece", "bears", "(II)I"⟩ mX0_bears 2 := ⟨"DominoKin$Piece", cX5_bears, 3, some .int, in_1000, in_497, in_495, in_517, in_498, in_499, by decide +kernel⟩
theorem ku_X7_69_1 : dk_KU RX7 69 RX1 ⟨"DominoKin$Piece", "bears", "(II)I"⟩ mX1_bears 2 := ⟨"DominoKin$Piece", cX5_bears, 3, some .int, in_1000, in_497, in_495, in_517, in_501, in_502, by decide +kernel⟩
theorem ku_X7_69_2 : dk_KU RX7 69 RX2 ⟨"DominoKin$Piece", "bears", "(II)I"⟩ mX2_bears 2 := ⟨"DominoKin$Piece", cX5_bears, 3, some .int, in_1000, in_497, in_495, in_517, in_508, in_505, by decide +kernel⟩
theorem ku_X7_69_3 : dk_KU RX7 69 RX3 ⟨"DominoKin$Piece", "bears", "(II)I"⟩ mX3_bears 2 := ⟨"DominoKin$Piece", cX5_bears, 3, some .int, in_1000, in_497, in_495, in_517, in_509, in_510, by decide +kernel⟩
theorem ku_X7_69_9 : dk_KU RX7 69 RX9 ⟨"DominoKin$Piece", "bears", "(II)I"⟩ mX9_bears 2 := ⟨"DominoKin$Piece", cX5_bears, 3, some .int, in_1000, in_497, in_495, in_517, in_513, in_514, by decide +kernel⟩
theorem ku_X7_89_5 : dk_KU RX7 89 RX5 ⟨"DominoKin$Piece", "leansMore", "(III)I"⟩ mX5_leansMore 3 := ⟨"DominoKin$Piece", cX5_leansMore, 4, some .int, in_1012, in_549, in_547, in_572, in_548, in_547, by decide +kernel⟩
theorem ku_X7_89_0 : dk_KU RX7 89 RX0 ⟨"DominoKin$Piece", "leansMore", "(III)I"⟩ mX0_leansMore 3 := ⟨"DominoKin$Piece", cX5_leansMore, 4, some .int, in_1012, in_549, in_547, in_572, in_550, in_551, by decide +kernel⟩
theorem ku_X7_89_1 : dk_KU RX7 89 RX1 ⟨"DominoKin$Piece", "leansMore", "(III)I"⟩ mX1_leansMore 3 := ⟨"DominoKin$Piece", cX5_leansMore, 4, some .int, in_1012, in_549, in_547, in_572, in_553, in_554, by decide +kernel⟩
theorem ku_X7_89_2 : dk_KU RX7 89 RX2 ⟨"DominoKin$Piece", "leansMore", "(III)I"⟩ mX2_leansMore 3 := ⟨"DominoKin$Piece", cX5_leansMore, 4, some .int, in_1012, in_549, in_547, in_572, in_560, in_557, by decide +kernel⟩
theorem ku_X7_89_3 : dk_KU RX7 89 RX3 ⟨"DominoKin$Piece", "leansMore", "(III)I"⟩ mX3_leansMore 3 := ⟨"DominoKin$Piece", cX5_leansMore, 4, some .int, in_1012, in_549, in_547, in_572, in_561, in_562, by decide +kernel⟩
theorem ku_X7_89_9 : dk_KU RX7 89 RX9 ⟨"DominoKin$Piece", "leansMore", "(III)I"⟩ mX9_leansMore 3 := ⟨"DominoKin$Piece", cX5_leansMore, 4, some .int, in_1012, in_549, in_547, in_572, in_568, in_569, by decide +kernel⟩
theorem ku_X11_335_5 : dk_KU RX11 335 RX5 ⟨"DominoKin$Piece", "becomes", "(II)V"⟩ mX5_becomes 2 := ⟨"DominoKin$Piece", cX5_becomes, 3, none, in_1107, in_1110, in_1108, in_1116, in_1109, in_1108, by decide +kernel⟩
theorem ku_X11_335_0 : dk_KU RX11 335 RX0 ⟨"DominoKin$Piece", "becomes", "(II)V"⟩ mX5_becomes 2 := ⟨"DominoKin$Piece", cX5_becomes, 3, none, in_1107, in_1110, in_1108, in_1116, in_1111, in_1108, by decide +kernel⟩
theorem ku_X11_335_1 : dk_KU RX11 335 RX1 ⟨"DominoKin$Piece", "becomes", "(II)V"⟩ mX5_becomes 2 := ⟨"DominoKin$Piece", cX5_becomes, 3, none, in_1107, in_1110, in_1108, in_1116, in_1112, in_1108, by decide +kernel⟩
theorem ku_X11_335_2 : dk_KU RX11 335 RX2 ⟨"DominoKin$Piece", "becomes", "(II)V"⟩ mX5_becomes 2 := ⟨"DominoKin$Piece", cX5_becomes, 3, none, in_1107, in_1110, in_1108, in_1116, in_1113, in_1108, by decide +kernel⟩
theorem ku_X11_335_3 : dk_KU RX11 335 RX3 ⟨"DominoKin$Piece", "becomes", "(II)V"⟩ mX5_becomes 2 := ⟨"DominoKin$Piece", cX5_becomes, 3, none, in_1107, in_1110, in_1108, in_1116, in_1114, in_1108, by decide +kernel⟩
theorem ku_X11_335_9 : dk_KU RX11 335 RX9 ⟨"DominoKin$Piece", "becomes", "(II)V"⟩ mX5_becomes 2 := ⟨"DominoKin$Piece", cX5_becomes, 3, none, in_1107, in_1110, in_1108, in_1116, in_1115, in_1108, by decide +kernel⟩
theorem ku_X11_339_5 : dk_KU RX11 339 RX5 ⟨"DominoKin$Piece", "tips", "(I)I"⟩ mX5_tips 1 := ⟨"DominoKin$Piece", cX5_tips, 2, some .int, in_1117, in_1120, in_1118, in_1143, in_1119, in_1118, by decide +kernel⟩
theorem ku_X11_339_0 : dk_KU RX11 339 RX0 ⟨"DominoKin$Piece", "tips", "(I)I"⟩ mX0_tips 1 := ⟨"DominoKin$Piece", cX5_tips, 2, some .int, in_1117, in_1120, in_1118, in_1143, in_1121, in_1122, by decide +kernel⟩
theorem ku_X11_339_1 : dk_KU RX11 339 RX1 ⟨"DominoKin$Piece", "tips", "(I)I"⟩ mX1_tips 1 := ⟨"DominoKin$Piece", cX5_tips, 2, some .int, in_1117, in_1120, in_1118, in_1143, in_1131, in_1132, by decide +kernel⟩
theorem ku_X11_339_2 : dk_KU RX11 339 RX2 ⟨"DominoKin$Piece", "tips", "(I)I"⟩ mX5_tips 1 := ⟨"DominoKin$Piece", cX5_tips, 2, some .int, in_1117, in_1120, in_1118, in_1143, in_1140, in_1118, by decide +kernel⟩
theorem ku_X11_339_3 : dk_KU RX11 339 RX3 ⟨"DominoKin$Piece", "tips", "(I)I"⟩ mX5_tips 1 := ⟨"DominoKin$Piece", cX5_tips, 2, some .int, in_1117, in_1120, in_1118, in_1143, in_1141, in_1118, by decide +kernel⟩
theorem ku_X11_339_9 : dk_KU RX11 339 RX9 ⟨"DominoKin$Piece", "tips", "(I)I"⟩ mX5_tips 1 := ⟨"DominoKin$Piece", cX5_tips, 2, some .int, in_1117, in_1120, in_1118, in_1143, in_1142, in_1118, by decide +kernel⟩
theorem ku_X0_7_0 : dk_KU RX0 7 RX0 ⟨"DominoKin$Aunt", "began", "(I)V"⟩ mX5_began 1 := ⟨"DominoKin$Piece", cX5_began, 2, none, in_1124, in_1125, in_1128, in_1129, in_1127, in_1128, by decide +kernel⟩
theorem ku_X0_13_5 : dk_KU RX0 13 RX5 ⟨"DominoKin$Piece", "tips", "(I)I"⟩ mX5_tips 1 := ⟨"DominoKin$Piece", cX5_tips, 2, some .int, in_1130, in_1120, in_1118, in_1143, in_1119, in_1118, by decide +kernel⟩
theorem ku_X0_13_0 : dk_KU RX0 13 RX0 ⟨"DominoKin$Piece", "tips", "(I)I"⟩ mX0_tips 1 := ⟨"DominoKin$Piece", cX5_tips, 2, some .int, in_1130, in_1120, in_1118, in_1143, in_1121, in_1122, by decide +kernel⟩
theorem ku_X0_13_1 : dk_KU RX0 13 RX1 ⟨"DominoKin$Piece", "tips", "(I)I"⟩ mX1_tips 1 := ⟨"DominoKin$Piece", cX5_tips, 2, some .int, in_1130, in_1120, in_1118, in_1143, in_1131, in_1132, by decide +kernel⟩
theorem ku_X0_13_2 : dk_KU RX0 13 RX2 ⟨"DominoKin$Piece", "tips", "(I)I"⟩ mX5_tips 1 := ⟨"DominoKin$Piece", cX5_tips, 2, some .int, in_1130, in_1120, in_1118, in_1143, in_1140, in_1118, by decide +kernel⟩
theorem ku_X0_13_3 : dk_KU RX0 13 RX3 ⟨"DominoKin$Piece", "tips", "(I)I"⟩ mX5_tips 1 := ⟨"DominoKin$Piece", cX5_tips, 2, some .int, in_1130, in_1120, in_1118, in_1143, in_1141, in_1118, by decide +kernel⟩
theorem ku_X0_13_9 : dk_KU RX0 13 RX9 ⟨"DominoKin$Piece", "tips", "(I)I"⟩ mX5_tips 1 := ⟨"DominoKin$Piece", cX5_tips, 2, some .int, in_1130, in_1120, in_1118, in_1143, in_1142, in_1118, by decide +kernel⟩
theorem ku_X1_15_1 : dk_KU RX1 15 RX1 ⟨"DominoKin$Eldest", "began", "(I)V"⟩ mX5_began 1 := ⟨"DominoKin$Piece", cX5_began, 2, none, in_1134, in_1135, in_1128, in_1129, in_1136, in_1128, by decide +kernel⟩
theorem ku_X5_29_0 : dk_KU RX5 29 RX0 ⟨"DominoKin$Piece", "began", "(I)V"⟩ mX5_began 1 := ⟨"DominoKin$Piece", cX5_began, 2, none, in_1144, in_1847, in_1128, in_1129, in_1848, in_1128, by decide +kernel⟩
theorem ku_X5_29_1 : dk_KU RX5 29 RX1 ⟨"DominoKin$Piece", "began", "(I)V"⟩ mX5_began 1 := ⟨"DominoKin$Piece", cX5_began, 2, none, in_1144, in_1847, in_1128, in_1129, in_1849, in_1128, by decide +kernel⟩
theorem ku_X5_29_2 : dk_KU RX5 29 RX2 ⟨"DominoKin$Piece", "began", "(I)V"⟩ mX5_began 1 := ⟨"DominoKin$Piece", cX5_began, 2, none, in_1144, in_1847, in_1128, in_1129, in_1850, in_1128, by decide +kernel⟩
theorem ku_X5_29_3 : dk_KU RX5 29 RX3 ⟨"DominoKin$Piece", "began", "(I)V"⟩ mX5_began 1 := ⟨"DominoKin$Piece", cX5_began, 2, none, in_1144, in_1847, in_1128, in_1129, in_1851, in_1128, by decide +kernel⟩
theorem ku_X5_29_5 : dk_KU RX5 29 RX5 ⟨"DominoKin$Piece", "began", "(I)V"⟩ mX5_began 1 := ⟨"DominoKin$Piece", cX5_began, 2, none, in_1144, in_1847, in_1128, in_1129, in_1852, in_1128, by decide +kernel⟩
theorem ku_X5_29_9 : dk_KU RX5 29 RX9 ⟨"DominoKin$Piece", "began", "(I)V"⟩ mX5_began 1 := ⟨"DominoKin$Piece", cX5_began, 2, none, in_1144, in_1847, in_1128, in_1129, in_1853, in_1128, by decide +kernel⟩
theorem ku_X11_342_5 : dk_KU RX11 342 RX5 ⟨"DominoKin$Piece", "taps", "(I)I"⟩ mX5_taps 1 := ⟨"DominoKin$Piece", cX5_taps, 2, some .int, in_1145, in_1148, in_1146, in_1169, in_1147, in_1146, by decide +kernel⟩
theorem ku_X11_342_0 : dk_KU RX11 342 RX0 ⟨"DominoKin$Piece", "taps", "(I)I"⟩ mX5_taps 1 := ⟨"DominoKin$Piece", cX5_taps, 2, some .int, in_1145, in_1148, in_1146, in_1169, in_1149, in_1146, by decide +kernel⟩
theorem ku_X11_342_1 : dk_KU RX11 342 RX1 ⟨"DominoKin$Piece", "taps", "(I)I"⟩ mX2_taps 1 := ⟨"DominoKin$Piece", cX5_taps, 2, some .int, in_1145, in_1148, in_1146, in_1169, in_1150, in_1151, by decide +kernel⟩
theorem ku_X11_342_2 : dk_KU RX11 342 RX2 ⟨"DominoKin$Piece", "taps", "(I)I"⟩ mX2_taps 1 := ⟨"DominoKin$Piece", cX5_taps, 2, some .int, in_1145, in_1148, in_1146, in_1169, in_1158, in_1151, by decide +kernel⟩
theorem ku_X11_342_3 : dk_KU RX11 342 RX3 ⟨"DominoKin$Piece", "taps", "(I)I"⟩ mX5_taps 1 := ⟨"DominoKin$Piece", cX5_taps, 2, some .int, in_1145, in_1148, in_1146, in_1169, in_1159, in_1146, by decide +kernel⟩
theorem ku_X11_342_9 : dk_KU RX11 342 RX9 ⟨"DominoKin$Piece", "taps", "(I)I"⟩ mX9_taps 1 := ⟨"DominoKin$Piece", cX5_taps, 2, some .int, in_1145, in_1148, in_1146, in_1169, in_1160, in_1161, by decide +kernel⟩
theorem ku_X2_15_1 : dk_KU RX2 15 RX1 ⟨"DominoKin$Father", "began", "(I)V"⟩ mX5_began 1 := ⟨"DominoKin$Piece", cX5_began, 2, none, in_1153, in_1154, in_1128, in_1129, in_1155, in_1128, by decide +kernel⟩
theorem ku_X2_15_2 : dk_KU RX2 15 RX2 ⟨"DominoKin$Father", "began", "(I)V"⟩ mX5_began 1 := ⟨"DominoKin$Piece", cX5_began, 2, none, in_1153, in_1154, in_1128, in_1129, in_1156, in_1128, by decide +kernel⟩
theorem ku_X2_21_5 : dk_KU RX2 21 RX5 ⟨"DominoKin$Piece", "taps", "(I)I"⟩ mX5_taps 1 := ⟨"DominoKin$Piece", cX5_taps, 2, some .int, in_1157, in_1148, in_1146, in_1169, in_1147, in_1146, by decide +kernel⟩
theorem ku_X2_21_0 : dk_KU RX2 21 RX0 ⟨"DominoKin$Piece", "taps", "(I)I"⟩ mX5_taps 1 := ⟨"DominoKin$Piece", cX5_taps, 2, some .int, in_1157, in_1148, in_1146, in_1169, in_1149, in_1146, by decide +kernel⟩
theorem ku_X2_21_1 : dk_KU RX2 21 RX1 ⟨"DominoKin$Piece", "taps", "(I)I"⟩ mX2_taps 1 := ⟨"DominoKin$Piece", cX5_taps, 2, some .int, in_1157, in_1148, in_1146, in_1169, in_1150, in_1151, by decide +kernel⟩
theorem ku_X2_21_2 : dk_KU RX2 21 RX2 ⟨"DominoKin$Piece", "taps", "(I)I"⟩ mX2_taps 1 := ⟨"DominoKin$Piece", cX5_taps, 2, some .int, in_1157, in_1148, in_1146, in_1169, in_1158, in_1151, by decide +kernel⟩
theorem ku_X2_21_3 : dk_KU RX2 21 RX3 ⟨"DominoKin$Piece", "taps", "(I)I"⟩ mX5_taps 1 := ⟨"DominoKin$Piece", cX5_taps, 2, some .int, in_1157, in_1148, in_1146, in_1169, in_1159, in_1146, by decide +kernel⟩
theorem ku_X2_21_9 : dk_KU RX2 21 RX9 ⟨"DominoKin$Piece", "taps", "(I)I"⟩ mX9_taps 1 := ⟨"DominoKin$Piece", cX5_taps, 2, some .int, in_1157, in_1148, in_1146, in_1169, in_1160, in_1161, by decide +kernel⟩
theorem ku_X9_15_9 : dk_KU RX9 15 RX9 ⟨"DominoKin$Sailor", "began", "(I)V"⟩ mX5_began 1 := ⟨"DominoKin$Piece", cX5_began, 2, none, in_1163, in_1164, in_1128, in_1129, in_1165, in_1128, by decide +kernel⟩
theorem ku_X5_33_5 : dk_KU RX5 33 RX5 ⟨"DominoKin$Piece", "tips", "(I)I"⟩ mX5_tips 1 := ⟨"DominoKin$Piece", cX5_tips, 2, some .int, in_1170, in_1120, in_1118, in_1143, in_1119, in_1118, by decide +kernel⟩
theorem ku_X5_33_0 : dk_KU RX5 33 RX0 ⟨"DominoKin$Piece", "tips", "(I)I"⟩ mX0_tips 1 := ⟨"DominoKin$Piece", cX5_tips, 2, some .int, in_1170, in_1120, in_1118, in_1143, in_1121, in_1122, by decide +kernel⟩
theorem ku_X5_33_1 : dk_KU RX5 33 RX1 ⟨"DominoKin$Piece", "tips", "(I)I"⟩ mX1_tips 1 := ⟨"DominoKin$Piece", cX5_tips, 2, some .int, in_1170, in_1120, in_1118, in_1143, in_1131, in_1132, by decide +kernel⟩
theorem ku_X5_33_2 : dk_KU RX5 33 RX2 ⟨"DominoKin$Piece", "tips", "(I)I"⟩ mX5_tips 1 := ⟨"DominoKin$Piece", cX5_tips, 2, some .int, in_1170, in_1120, in_1118, in_1143, in_1140, in_1118, by decide +kernel⟩
theorem ku_X5_33_3 : dk_KU RX5 33 RX3 ⟨"DominoKin$Piece", "tips", "(I)I"⟩ mX5_tips 1 := ⟨"DominoKin$Piece", cX5_tips, 2, some .int, in_1170, in_1120, in_1118, in_1143, in_1141, in_1118, by decide +kernel⟩
theorem ku_X5_33_9 : dk_KU RX5 33 RX9 ⟨"DominoKin$Piece", "tips", "(I)I"⟩ mX5_tips 1 := ⟨"DominoKin$Piece", cX5_tips, 2, some .int, in_1170, in_1120, in_1118, in_1143, in_1142, in_1118, by decide +kernel⟩
theorem ku_X11_345_5 : dk_KU RX11 345 RX5 ⟨"DominoKin$Piece", "halves", "(I)I"⟩ mX5_halves 1 := ⟨"DominoKin$Piece", cX5_halves, 3, some .int, in_1171, in_1174, in_1172, in_1193, in_1173, in_1172, by decide +kernel⟩
theorem ku_X11_345_0 : dk_KU RX11 345 RX0 ⟨"DominoKin$Piece", "halves", "(I)I"⟩ mX5_halves 1 := ⟨"DominoKin$Piece", cX5_halves, 3, some .int, in_1171, in_1174, in_1172, in_1193, in_1175, in_1172, by decide +kernel⟩
theorem ku_X11_345_1 : dk_KU RX11 345 RX1 ⟨"DominoKin$Piece", "halves", "(I)I"⟩ mX5_halves 1 := ⟨"DominoKin$Piece", cX5_halves, 3, some .int, in_1171, in_1174, in_1172, in_1193, in_1176, in_1172, by decide +kernel⟩
theorem ku_X11_345_2 : dk_KU RX11 345 RX2 ⟨"DominoKin$Piece", "halves", "(I)I"⟩ mX5_halves 1 := ⟨"DominoKin$Piece", cX5_halves, 3, some .int, in_1171, in_1174, in_1172, in_1193, in_1177, in_1172, by decide +kernel⟩
theorem ku_X11_345_3 : dk_KU RX11 345 RX3 ⟨"DominoKin$Piece", "halves", "(I)I"⟩ mX3_halves 1 := ⟨"DominoKin$Piece", cX5_halves, 3, some .int, in_1171, in_1174, in_1172, in_1193, in_1178, in_1179, by decide +kernel⟩
theorem ku_X11_345_9 : dk_KU RX11 345 RX9 ⟨"DominoKin$Piece", "halves", "(I)I"⟩ mX9_halves 1 := ⟨"DominoKin$Piece", cX5_halves, 3, some .int, in_1171, in_1174, in_1172, in_1193, in_1186, in_1187, by decide +kernel⟩
theorem ku_X3_20_3 : dk_KU RX3 20 RX3 ⟨"DominoKin$Girl", "began", "(I)V"⟩ mX5_began 1 := ⟨"DominoKin$Piece", cX5_began, 2, none, in_1181, in_1182, in_1128, in_1129, in_1183, in_1128, by decide +kernel⟩
theorem ku_X3_20_9 : dk_KU RX3 20 RX9 ⟨"DominoKin$Girl", "began", "(I)V"⟩ mX5_began 1 := ⟨"DominoKin$Piece", cX5_began, 2, none, in_1181, in_1182, in_1128, in_1129, in_1184, in_1128, by decide +kernel⟩
theorem ku_X3_26_5 : dk_KU RX3 26 RX5 ⟨"DominoKin$Piece", "halves", "(I)I"⟩ mX5_halves 1 := ⟨"DominoKin$Piece", cX5_halves, 3, some .int, in_1185, in_1174, in_1172, in_1193, in_1173, in_1172, by decide +kernel⟩
theorem ku_X3_26_0 : dk_KU RX3 26 RX0 ⟨"DominoKin$Piece", "halves", "(I)I"⟩ mX5_halves 1 := ⟨"DominoKin$Piece", cX5_halves, 3, some .int, in_1185, in_1174, in_1172, in_1193, in_1175, in_1172, by decide +kernel⟩
theorem ku_X3_26_1 : dk_KU RX3 26 RX1 ⟨"DominoKin$Piece", "halves", "(I)I"⟩ mX5_halves 1 := ⟨"DominoKin$Piece", cX5_halves, 3, some .int, in_1185, in_1174, in_1172, in_1193, in_1176, in_1172, by decide +kernel⟩
theorem ku_X3_26_2 : dk_KU RX3 26 RX2 ⟨"DominoKin$Piece", "halves", "(I)I"⟩ mX5_halves 1 := ⟨"DominoKin$Piece", cX5_halves, 3, some .int, in_1185, in_1174, in_1172, in_1193, in_1177, in_1172, by decide +kernel⟩
theorem ku_X3_26_3 : dk_KU RX3 26 RX3 ⟨"DominoKin$Piece", "halves", "(I)I"⟩ mX3_halves 1 := ⟨"DominoKin$Piece", cX5_halves, 3, some .int, in_1185, in_1174, in_1172, in_1193, in_1178, in_1179, by decide +kernel⟩
theorem ku_X3_26_9 : dk_KU RX3 26 RX9 ⟨"DominoKin$Piece", "halves", "(I)I"⟩ mX9_halves 1 := ⟨"DominoKin$Piece", cX5_halves, 3, some .int, in_1185, in_1174, in_1172, in_1193, in_1186, in_1187, by decide +kernel⟩
theorem ku_X9_32_9 : dk_KU RX9 32 RX9 ⟨"DominoKin$Sailor", "tips", "(I)I"⟩ mX5_tips 1 := ⟨"DominoKin$Piece", cX5_tips, 2, some .int, in_1190, in_1191, in_1118, in_1143, in_1192, in_1118, by decide +kernel⟩
theorem ku_X11_348_5 : dk_KU RX11 348 RX5 ⟨"DominoKin$Piece", "turns", "(I)I"⟩ mX5_turns 1 := ⟨"DominoKin$Piece", cX5_turns, 2, some .int, in_1194, in_1197, in_1195, in_1212, in_1196, in_1195, by decide +kernel⟩
theorem ku_X11_348_0 : dk_KU RX11 348 RX0 ⟨"DominoKin$Piece", "turns", "(I)I"⟩ mX5_turns 1 := ⟨"DominoKin$Piece", cX5_turns, 2, some .int, in_1194, in_1197, in_1195, in_1212, in_1198, in_1195, by decide +kernel⟩
theorem ku_X11_348_1 : dk_KU RX11 348 RX1 ⟨"DominoKin$Piece", "turns", "(I)I"⟩ mX1_turns 1 := ⟨"DominoKin$Piece", cX5_turns, 2, some .int, in_1194, in_1197, in_1195, in_1212, in_1199, in_1200, by decide +kernel⟩
theorem ku_X11_348_2 : dk_KU RX11 348 RX2 ⟨"DominoKin$Piece", "turns", "(I)I"⟩ mX5_turns 1 := ⟨"DominoKin$Piece", cX5_turns, 2, some .int, in_1194, in_1197, in_1195, in_1212, in_1209, in_1195, by decide +kernel⟩
theorem ku_X11_348_3 : dk_KU RX11 348 RX3 ⟨"DominoKin$Piece", "turns", "(I)I"⟩ mX5_turns 1 := ⟨"DominoKin$Piece", cX5_turns, 2, some .int, in_1194, in_1197, in_1195, in_1212, in_1210, in_1195, by decide +kernel⟩
theorem ku_X11_348_9 : dk_KU RX11 348 RX9 ⟨"DominoKin$Piece", "turns", "(I)I"⟩ mX5_turns 1 := ⟨"DominoKin$Piece", cX5_turns, 2, some .int, in_1194, in_1197, in_1195, in_1212, in_1211, in_1195, by decide +kernel⟩
theorem ku_X1_32_1 : dk_KU RX1 32 RX1 ⟨"DominoKin$Eldest", "taps", "(I)I"⟩ mX2_taps 1 := ⟨"DominoKin$Father", cX2_taps, 2, some .int, in_1205, in_1206, in_1151, in_1152, in_1208, in_1151, by decide +kernel⟩
theorem ku_X5_37_5 : dk_KU RX5 37 RX5 ⟨"DominoKin$Piece", "taps", "(I)I"⟩ mX5_taps 1 := ⟨"DominoKin$Piece", cX5_taps, 2, some .int, in_1213, in_1148, in_1146, in_1169, in_1147, in_1146, by decide +kernel⟩
theorem ku_X5_37_0 : dk_KU RX5 37 RX0 ⟨"DominoKin$Piece", "taps", "(I)I"⟩ mX5_taps 1 := ⟨"DominoKin$Piece", cX5_taps, 2, some .int, in_1213, in_1148, in_1146, in_1169, in_1149, in_1146, by decide +kernel⟩
theorem ku_X5_37_1 : dk_KU RX5 37 RX1 ⟨"DominoKin$Piece", "taps", "(I)I"⟩ mX2_taps 1 := ⟨"DominoKin$Piece", cX5_taps, 2, some .int, in_1213, in_1148, in_1146, in_1169, in_1150, in_1151, by decide +kernel⟩
theorem ku_X5_37_2 : dk_KU RX5 37 RX2 ⟨"DominoKin$Piece", "taps", "(I)I"⟩ mX2_taps 1 := ⟨"DominoKin$Piece", cX5_taps, 2, some .int, in_1213, in_1148, in_1146, in_1169, in_1158, in_1151, by decide +kernel⟩
theorem ku_X5_37_3 : dk_KU RX5 37 RX3 ⟨"DominoKin$Piece", "taps", "(I)I"⟩ mX5_taps 1 := ⟨"DominoKin$Piece", cX5_taps, 2, some .int, in_1213, in_1148, in_1146, in_1169, in_1159, in_1146, by decide +kernel⟩
theorem ku_X5_37_9 : dk_KU RX5 37 RX9 ⟨"DominoKin$Piece", "taps", "(I)I"⟩ mX9_taps 1 := ⟨"DominoKin$Piece", cX5_taps, 2, some .int, in_1213, in_1148, in_1146, in_1169, in_1160, in_1161, by decide +kernel⟩
theorem ku_X5_40_5 : dk_KU RX5 40 RX5 ⟨"DominoKin$Piece", "halves", "(I)I"⟩ mX5_halves 1 := ⟨"DominoKin$Piece", cX5_halves, 3, some .int, in_1214, in_1174, in_1172, in_1193, in_1173, in_1172, by decide +kernel⟩
theorem ku_X5_40_0 : dk_KU RX5 40 RX0 ⟨"DominoKin$Piece", "halves", "(I)I"⟩ mX5_halves 1 := ⟨"DominoKin$Piece", cX5_halves, 3, some .int, in_1214, in_1174, in_1172, in_1193, in_1175, in_1172, by decide +kernel⟩
theorem ku_X5_40_1 : dk_KU RX5 40 RX1 ⟨"DominoKin$Piece", "halves", "(I)I"⟩ mX5_halves 1 := ⟨"DominoKin$Piece", cX5_halves, 3, some .int, in_1214, in_1174, in_1172, in_1193, in_1176, in_1172, by decide +kernel⟩
theorem ku_X5_40_2 : dk_KU RX5 40 RX2 ⟨"DominoKin$Piece", "halves", "(I)I"⟩ mX5_halves 1 := ⟨"DominoKin$Piece", cX5_halves, 3, some .int, in_1214, in_1174, in_1172, in_1193, in_1177, in_1172, by decide +kernel⟩
theorem ku_X5_40_3 : dk_KU RX5 40 RX3 ⟨"DominoKin$Piece", "halves", "(I)I"⟩ mX3_halves 1 := ⟨"DominoKin$Piece", cX5_halves, 3, some .int, in_1214, in_1174, in_1172, in_1193, in_1178, in_1179, by decide +kernel⟩
theorem ku_X5_40_9 : dk_KU RX5 40 RX9 ⟨"DominoKin$Piece", "halves", "(I)I"⟩ mX9_halves 1 := ⟨"DominoKin$Piece", cX5_halves, 3, some .int, in_1214, in_1174, in_1172, in_1193, in_1186, in_1187, by decide +kernel⟩
