/-! what stands in which cell, as equations -/
theorem cls_0 : clsO 0 = some 4 := rfl
theorem fv_0_0 (M : tM) : fv M 0 0 = .int (M.1 0 0) := rfl
theorem fv_0_1 (M : tM) : fv M 0 1 = .ref 1 := rfl
theorem fv_0_2 (M : tM) : fv M 0 2 = .int (M.1 0 2) := rfl
theorem fv_0_3 (M : tM) : fv M 0 3 = .ref 2 := rfl
theorem fv_0_4 (M : tM) : fv M 0 4 = .ref 3 := rfl
theorem fv_0_5 (M : tM) : fv M 0 5 = .ref 4 := rfl
theorem fv_0_6 (M : tM) : fv M 0 6 = .ref 5 := rfl
theorem fv_0_7 (M : tM) : fv M 0 7 = .int (M.1 0 7) := rfl
theorem fv_0_8 (M : tM) : fv M 0 8 = .int (M.1 0 8) := rfl
theorem fv_0_9 (M : tM) : fv M 0 9 = .ref 6 := rfl
theorem fv_0_10 (M : tM) : fv M 0 10 = .ref 7 := rfl
theorem fv_0_11 (M : tM) : fv M 0 11 = .ref 8 := rfl
theorem fv_0_12 (M : tM) : fv M 0 12 = .ref 9 := rfl
theorem fv_0_13 (M : tM) : fv M 0 13 = .int (M.1 0 13) := rfl
theorem fv_0_14 (M : tM) : fv M 0 14 = .int (M.1 0 14) := rfl
theorem fv_0_15 (M : tM) : fv M 0 15 = .int (M.1 0 15) := rfl
theorem ak_1 : akind 1 = 0 := rfl
theorem al_1 (M : tM) : alen M 1 = 8 := rfl
theorem ak_2 : akind 2 = 0 := rfl
theorem al_2 (M : tM) : alen M 2 = 16 := rfl
theorem ak_3 : akind 3 = 0 := rfl
theorem al_3 (M : tM) : alen M 3 = 16 := rfl
theorem ak_4 : akind 4 = 0 := rfl
theorem al_4 (M : tM) : alen M 4 = 16 := rfl
theorem ak_5 : akind 5 = 0 := rfl
theorem al_5 (M : tM) : alen M 5 = 16 := rfl
theorem ak_6 : akind 6 = 0 := rfl
theorem al_6 (M : tM) : alen M 6 = 5 := rfl
theorem ak_7 : akind 7 = 0 := rfl
theorem al_7 (M : tM) : alen M 7 = 5 := rfl
theorem ak_8 : akind 8 = 0 := rfl
theorem al_8 (M : tM) : alen M 8 = 5 := rfl
theorem ak_9 : akind 9 = 0 := rfl
theorem al_9 (M : tM) : alen M 9 = 5 := rfl
theorem cls_10 : clsO 10 = some 4 := rfl
theorem fv_10_0 (M : tM) : fv M 10 0 = .int (M.1 10 0) := rfl
theorem fv_10_1 (M : tM) : fv M 10 1 = .ref 11 := rfl
theorem fv_10_2 (M : tM) : fv M 10 2 = .int (M.1 10 2) := rfl
theorem fv_10_3 (M : tM) : fv M 10 3 = .ref 12 := rfl
theorem fv_10_4 (M : tM) : fv M 10 4 = .ref 13 := rfl
theorem fv_10_5 (M : tM) : fv M 10 5 = .ref 14 := rfl
theorem fv_10_6 (M : tM) : fv M 10 6 = .ref 15 := rfl
theorem fv_10_7 (M : tM) : fv M 10 7 = .int (M.1 10 7) := rfl
theorem fv_10_8 (M : tM) : fv M 10 8 = .int (M.1 10 8) := rfl
theorem fv_10_9 (M : tM) : fv M 10 9 = .ref 16 := rfl
theorem fv_10_10 (M : tM) : fv M 10 10 = .ref 17 := rfl
theorem fv_10_11 (M : tM) : fv M 10 11 = .ref 18 := rfl
theorem fv_10_12 (M : tM) : fv M 10 12 = .ref 19 := rfl
theorem fv_10_13 (M : tM) : fv M 10 13 = .int (M.1 10 13) := rfl
theorem fv_10_14 (M : tM) : fv M 10 14 = .int (M.1 10 14) := rfl
theorem fv_10_15 (M : tM) : fv M 10 15 = .int (M.1 10 15) := rfl
theorem ak_11 : akind 11 = 0 := rfl
theorem al_11 (M : tM) : alen M 11 = 8 := rfl
theorem ak_12 : akind 12 = 0 := rfl
theorem al_12 (M : tM) : alen M 12 = 16 := rfl
theorem ak_13 : akind 13 = 0 := rfl
theorem al_13 (M : tM) : alen M 13 = 16 := rfl
theorem ak_14 : akind 14 = 0 := rfl
theorem al_14 (M : tM) : alen M 14 = 16 := rfl
theorem ak_15 : akind 15 = 0 := rfl
theorem al_15 (M : tM) : alen M 15 = 16 := rfl
theorem ak_16 : akind 16 = 0 := rfl
theorem al_16 (M : tM) : alen M 16 = 5 := rfl
theorem ak_17 : akind 17 = 0 := rfl
theorem al_17 (M : tM) : alen M 17 = 5 := rfl
theorem ak_18 : akind 18 = 0 := rfl
theorem al_18 (M : tM) : alen M 18 = 5 := rfl
theorem ak_19 : akind 19 = 0 := rfl
theorem al_19 (M : tM) : alen M 19 = 5 := rfl
theorem cls_20 : clsO 20 = some 4 := rfl
theorem fv_20_0 (M : tM) : fv M 20 0 = .int (M.1 20 0) := rfl
theorem fv_20_1 (M : tM) : fv M 20 1 = .ref 21 := rfl
theorem fv_20_2 (M : tM) : fv M 20 2 = .int (M.1 20 2) := rfl
theorem fv_20_3 (M : tM) : fv M 20 3 = .ref 22 := rfl
theorem fv_20_4 (M : tM) : fv M 20 4 = .ref 23 := rfl
theorem fv_20_5 (M : tM) : fv M 20 5 = .ref 24 := rfl
theorem fv_20_6 (M : tM) : fv M 20 6 = .ref 25 := rfl
theorem fv_20_7 (M : tM) : fv M 20 7 = .int (M.1 20 7) := rfl
theorem fv_20_8 (M : tM) : fv M 20 8 = .int (M.1 20 8) := rfl
theorem fv_20_9 (M : tM) : fv M 20 9 = .ref 26 := rfl
theorem fv_20_10 (M : tM) : fv M 20 10 = .ref 27 := rfl
theorem fv_20_11 (M : tM) : fv M 20 11 = .ref 28 := rfl
theorem fv_20_12 (M : tM) : fv M 20 12 = .ref 29 := rfl
theorem fv_20_13 (M : tM) : fv M 20 13 = .int (M.1 20 13) := rfl
theorem fv_20_14 (M : tM) : fv M 20 14 = .int (M.1 20 14) := rfl
theorem fv_20_15 (M : tM) : fv M 20 15 = .int (M.1 20 15) := rfl
theorem ak_21 : akind 21 = 0 := rfl
theorem al_21 (M : tM) : alen M 21 = 8 := rfl
theorem ak_22 : akind 22 = 0 := rfl
theorem al_22 (M : tM) : alen M 22 = 16 := rfl
theorem ak_23 : akind 23 = 0 := rfl
theorem al_23 (M : tM) : alen M 23 = 16 := rfl
theorem ak_24 : akind 24 = 0 := rfl
theorem al_24 (M : tM) : alen M 24 = 16 := rfl
theorem ak_25 : akind 25 = 0 := rfl
theorem al_25 (M : tM) : alen M 25 = 16 := rfl
theorem ak_26 : akind 26 = 0 := rfl
theorem al_26 (M : tM) : alen M 26 = 5 := rfl
theorem ak_27 : akind 27 = 0 := rfl
theorem al_27 (M : tM) : alen M 27 = 5 := rfl
theorem ak_28 : akind 28 = 0 := rfl
theorem al_28 (M : tM) : alen M 28 = 5 := rfl
theorem ak_29 : akind 29 = 0 := rfl
theorem al_29 (M : tM) : alen M 29 = 5 := rfl
theorem cls_30 : clsO 30 = some 8 := rfl
theorem fv_30_0 (M : tM) : fv M 30 0 = .ref 31 := rfl
theorem fv_30_1 (M : tM) : fv M 30 1 = .ref 32 := rfl
theorem fv_30_2 (M : tM) : fv M 30 2 = .ref 33 := rfl
theorem ak_31 : akind 31 = 0 := rfl
theorem al_31 (M : tM) : alen M 31 = 8 := rfl
theorem ak_32 : akind 32 = 0 := rfl
theorem al_32 (M : tM) : alen M 32 = 8 := rfl
theorem ak_33 : akind 33 = 4 := rfl
theorem al_33 (M : tM) : alen M 33 = 8 := rfl
theorem rf_33 (j : Nat) : rfe 33 j = 34 + j := rfl
theorem ak_34 : akind 34 = 2 := rfl
theorem al_34 (M : tM) : alen M 34 = 160 := rfl
theorem ak_35 : akind 35 = 2 := rfl
theorem al_35 (M : tM) : alen M 35 = 160 := rfl
theorem ak_36 : akind 36 = 2 := rfl
theorem al_36 (M : tM) : alen M 36 = 160 := rfl
theorem ak_37 : akind 37 = 2 := rfl
theorem al_37 (M : tM) : alen M 37 = 160 := rfl
theorem ak_38 : akind 38 = 2 := rfl
theorem al_38 (M : tM) : alen M 38 = 160 := rfl
theorem ak_39 : akind 39 = 2 := rfl
theorem al_39 (M : tM) : alen M 39 = 160 := rfl
theorem ak_40 : akind 40 = 2 := rfl
theorem al_40 (M : tM) : alen M 40 = 160 := rfl
theorem ak_41 : akind 41 = 2 := rfl
theorem al_41 (M : tM) : alen M 41 = 160 := rfl
theorem cls_42 : clsO 42 = some 9 := rfl
theorem fv_42_0 (M : tM) : fv M 42 0 = .ref 43 := rfl
theorem fv_42_1 (M : tM) : fv M 42 1 = .ref 44 := rfl
theorem fv_42_2 (M : tM) : fv M 42 2 = .ref 45 := rfl
theorem fv_42_3 (M : tM) : fv M 42 3 = .ref 46 := rfl
theorem fv_42_4 (M : tM) : fv M 42 4 = .ref 47 := rfl
theorem fv_42_5 (M : tM) : fv M 42 5 = .ref 48 := rfl
theorem ak_43 : akind 43 = 0 := rfl
theorem al_43 (M : tM) : alen M 43 = 16 := rfl
theorem ak_44 : akind 44 = 1 := rfl
theorem al_44 (M : tM) : alen M 44 = 16 := rfl
theorem ak_45 : akind 45 = 1 := rfl
theorem al_45 (M : tM) : alen M 45 = 16 := rfl
theorem ak_46 : akind 46 = 0 := rfl
theorem al_46 (M : tM) : alen M 46 = 8 := rfl
theorem ak_47 : akind 47 = 0 := rfl
theorem al_47 (M : tM) : alen M 47 = 8 := rfl
theorem ak_48 : akind 48 = 3 := rfl
theorem al_48 (M : tM) : alen M 48 = 8 := rfl
theorem rf_48 (j : Nat) : rfe 48 j = 49 + j := rfl
theorem ak_49 : akind 49 = 0 := rfl
theorem al_49 (M : tM) : alen M 49 = 8 := rfl
theorem ak_50 : akind 50 = 0 := rfl
theorem al_50 (M : tM) : alen M 50 = 8 := rfl
theorem ak_51 : akind 51 = 0 := rfl
theorem al_51 (M : tM) : alen M 51 = 8 := rfl
theorem ak_52 : akind 52 = 0 := rfl
theorem al_52 (M : tM) : alen M 52 = 8 := rfl
theorem ak_53 : akind 53 = 0 := rfl
theorem al_53 (M : tM) : alen M 53 = 8 := rfl
theorem ak_54 : akind 54 = 0 := rfl
theorem al_54 (M : tM) : alen M 54 = 8 := rfl
theorem ak_55 : akind 55 = 0 := rfl
theorem al_55 (M : tM) : alen M 55 = 8 := rfl
theorem ak_56 : akind 56 = 0 := rfl
theorem al_56 (M : tM) : alen M 56 = 8 := rfl
theorem cls_57 : clsO 57 = some 7 := rfl
theorem fv_57_0 (M : tM) : fv M 57 0 = .ref 58 := rfl
theorem ak_58 : akind 58 = 0 := rfl
theorem al_58 (M : tM) : alen M 58 = 2048 := rfl
theorem cls_59 : clsO 59 = some 0 := rfl
theorem fv_59_0 (M : tM) : fv M 59 0 = .ref 60 := rfl
theorem fv_59_1 (M : tM) : fv M 59 1 = .ref 61 := rfl
theorem ak_60 : akind 60 = 0 := rfl
theorem al_60 (M : tM) : alen M 60 = 16 := rfl
theorem ak_61 : akind 61 = 0 := rfl
theorem al_61 (M : tM) : alen M 61 = 8 := rfl
theorem cls_62 : clsO 62 = some 3 := rfl
theorem fv_62_0 (M : tM) : fv M 62 0 = .ref 107 := rfl
theorem fv_62_1 (M : tM) : fv M 62 1 = .ref 108 := rfl
theorem fv_62_2 (M : tM) : fv M 62 2 = .int (M.1 62 2) := rfl
theorem fv_62_3 (M : tM) : fv M 62 3 = .ref 63 := rfl
theorem ak_63 : akind 63 = 3 := rfl
theorem al_63 (M : tM) : alen M 63 = 16 := rfl
theorem rf_63 (j : Nat) : rfe 63 j = 64 + j := rfl
theorem ak_64 : akind 64 = 0 := rfl
theorem al_64 (M : tM) : alen M 64 = 8 := rfl
theorem ak_65 : akind 65 = 0 := rfl
theorem al_65 (M : tM) : alen M 65 = 8 := rfl
theorem ak_66 : akind 66 = 0 := rfl
theorem al_66 (M : tM) : alen M 66 = 8 := rfl
theorem ak_67 : akind 67 = 0 := rfl
theorem al_67 (M : tM) : alen M 67 = 8 := rfl
theorem ak_68 : akind 68 = 0 := rfl
theorem al_68 (M : tM) : alen M 68 = 8 := rfl
theorem ak_69 : akind 69 = 0 := rfl
theorem al_69 (M : tM) : alen M 69 = 8 := rfl
theorem ak_70 : akind 70 = 0 := rfl
theorem al_70 (M : tM) : alen M 70 = 8 := rfl
theorem ak_71 : akind 71 = 0 := rfl
theorem al_71 (M : tM) : alen M 71 = 8 := rfl
theorem ak_72 : akind 72 = 0 := rfl
theorem al_72 (M : tM) : alen M 72 = 8 := rfl
theorem ak_73 : akind 73 = 0 := rfl
theorem al_73 (M : tM) : alen M 73 = 8 := rfl
theorem ak_74 : akind 74 = 0 := rfl
theorem al_74 (M : tM) : alen M 74 = 8 := rfl
theorem ak_75 : akind 75 = 0 := rfl
theorem al_75 (M : tM) : alen M 75 = 8 := rfl
theorem ak_76 : akind 76 = 0 := rfl
theorem al_76 (M : tM) : alen M 76 = 8 := rfl
theorem ak_77 : akind 77 = 0 := rfl
theorem al_77 (M : tM) : alen M 77 = 8 := rfl
theorem ak_78 : akind 78 = 0 := rfl
theorem al_78 (M : tM) : alen M 78 = 8 := rfl
theorem ak_79 : akind 79 = 0 := rfl
theorem al_79 (M : tM) : alen M 79 = 8 := rfl
theorem cls_80 : clsO 80 = some 2 := rfl
theorem fv_80_0 (M : tM) : fv M 80 0 = .ref 81 := rfl
theorem fv_80_1 (M : tM) : fv M 80 1 = .int (M.1 80 1) := rfl
theorem fv_80_2 (M : tM) : fv M 80 2 = .int (M.1 80 2) := rfl
theorem ak_81 : akind 81 = 0 := rfl
theorem al_81 (M : tM) : alen M 81 = 8 := rfl
theorem cls_82 : clsO 82 = some 6 := rfl
theorem fv_82_0 (M : tM) : fv M 82 0 = .ref 83 := rfl
theorem fv_82_1 (M : tM) : fv M 82 1 = .ref 84 := rfl
theorem fv_82_2 (M : tM) : fv M 82 2 = .int (M.1 82 2) := rfl
theorem fv_82_3 (M : tM) : fv M 82 3 = .int (M.1 82 3) := rfl
theorem fv_82_4 (M : tM) : fv M 82 4 = .int (M.1 82 4) := rfl
theorem fv_82_5 (M : tM) : fv M 82 5 = .int (M.1 82 5) := rfl
theorem ak_83 : akind 83 = 0 := rfl
theorem al_83 (M : tM) : alen M 83 = 160 := rfl
theorem ak_84 : akind 84 = 0 := rfl
theorem al_84 (M : tM) : alen M 84 = 4 := rfl
theorem cls_85 : clsO 85 = some 1 := rfl
theorem fv_85_0 (M : tM) : fv M 85 0 = .int (M.1 85 0) := rfl
theorem fv_85_1 (M : tM) : fv M 85 1 = .int (M.1 85 1) := rfl
theorem cls_86 : clsO 86 = some 5 := rfl
theorem fv_86_0 (M : tM) : fv M 86 0 = .ref 87 := rfl
theorem fv_86_1 (M : tM) : fv M 86 1 = .int (M.1 86 1) := rfl
theorem fv_86_2 (M : tM) : fv M 86 2 = .int (M.1 86 2) := rfl
theorem fv_86_3 (M : tM) : fv M 86 3 = .int (M.1 86 3) := rfl
theorem fv_86_4 (M : tM) : fv M 86 4 = .int (M.1 86 4) := rfl
theorem ak_87 : akind 87 = 0 := rfl
theorem al_87 (M : tM) : alen M 87 = 20 := rfl
theorem cls_88 : clsO 88 = some 10 := rfl
theorem fv_88_0 (M : tM) : fv M 88 0 = .ref 0 := rfl
theorem fv_88_1 (M : tM) : fv M 88 1 = .ref 10 := rfl
theorem fv_88_2 (M : tM) : fv M 88 2 = .ref 20 := rfl
theorem fv_88_3 (M : tM) : fv M 88 3 = .ref 30 := rfl
theorem fv_88_4 (M : tM) : fv M 88 4 = .ref 42 := rfl
theorem fv_88_5 (M : tM) : fv M 88 5 = .ref 57 := rfl
theorem fv_88_6 (M : tM) : fv M 88 6 = .ref 59 := rfl
theorem fv_88_7 (M : tM) : fv M 88 7 = .ref 62 := rfl
theorem fv_88_8 (M : tM) : fv M 88 8 = .ref 80 := rfl
theorem fv_88_9 (M : tM) : fv M 88 9 = .ref 82 := rfl
theorem fv_88_10 (M : tM) : fv M 88 10 = .ref 85 := rfl
theorem fv_88_11 (M : tM) : fv M 88 11 = .ref 86 := rfl
theorem fv_88_12 (M : tM) : fv M 88 12 = .ref 89 := rfl
theorem fv_88_13 (M : tM) : fv M 88 13 = .int (M.1 88 13) := rfl
theorem fv_88_14 (M : tM) : fv M 88 14 = .int (M.1 88 14) := rfl
theorem ak_89 : akind 89 = 0 := rfl
theorem al_89 (M : tM) : alen M 89 = 8 := rfl
theorem cls_90 : clsO 90 = some 11 := rfl
theorem fv_90_0 (M : tM) : fv M 90 0 = .ref 91 := rfl
theorem fv_90_1 (M : tM) : fv M 90 1 = .ref 92 := rfl
theorem fv_90_2 (M : tM) : fv M 90 2 = .ref 93 := rfl
theorem fv_90_3 (M : tM) : fv M 90 3 = .ref 94 := rfl
theorem fv_90_4 (M : tM) : fv M 90 4 = .int (M.1 90 4) := rfl
theorem fv_90_5 (M : tM) : fv M 90 5 = .ref 95 := rfl
theorem fv_90_6 (M : tM) : fv M 90 6 = .ref 96 := rfl
theorem fv_90_7 (M : tM) : fv M 90 7 = .ref 97 := rfl
theorem fv_90_8 (M : tM) : fv M 90 8 = .ref 98 := rfl
theorem fv_90_9 (M : tM) : fv M 90 9 = .ref 99 := rfl
theorem fv_90_10 (M : tM) : fv M 90 10 = .ref 100 := rfl
theorem fv_90_11 (M : tM) : fv M 90 11 = .int (M.1 90 11) := rfl
theorem fv_90_12 (M : tM) : fv M 90 12 = .int (M.1 90 12) := rfl
theorem fv_90_13 (M : tM) : fv M 90 13 = .int (M.1 90 13) := rfl
theorem fv_90_14 (M : tM) : fv M 90 14 = .ref 101 := rfl
theorem fv_90_15 (M : tM) : fv M 90 15 = .ref 102 := rfl
theorem fv_90_16 (M : tM) : fv M 90 16 = .ref 103 := rfl
theorem fv_90_17 (M : tM) : fv M 90 17 = .ref 104 := rfl
theorem fv_90_18 (M : tM) : fv M 90 18 = .ref 105 := rfl
theorem fv_90_19 (M : tM) : fv M 90 19 = .int (M.1 90 19) := rfl
theorem fv_90_20 (M : tM) : fv M 90 20 = .int (M.1 90 20) := rfl
theorem fv_90_21 (M : tM) : fv M 90 21 = .ref 106 := rfl
theorem fv_90_22 (M : tM) : fv M 90 22 = .int (M.1 90 22) := rfl
theorem fv_90_23 (M : tM) : fv M 90 23 = .int (M.1 90 23) := rfl
theorem fv_90_24 (M : tM) : fv M 90 24 = .int (M.1 90 24) := rfl
theorem fv_90_25 (M : tM) : fv M 90 25 = .int (M.1 90 25) := rfl
theorem ak_91 : akind 91 = 0 := rfl
theorem al_91 (M : tM) : alen M 91 = 8 := rfl
theorem ak_92 : akind 92 = 0 := rfl
theorem al_92 (M : tM) : alen M 92 = 114 := rfl
theorem ak_93 : akind 93 = 0 := rfl
theorem al_93 (M : tM) : alen M 93 = 114 := rfl
theorem ak_94 : akind 94 = 0 := rfl
theorem al_94 (M : tM) : alen M 94 = 114 := rfl
theorem ak_95 : akind 95 = 0 := rfl
theorem al_95 (M : tM) : alen M 95 = 8 := rfl
theorem ak_96 : akind 96 = 0 := rfl
theorem al_96 (M : tM) : alen M 96 = 8 := rfl
theorem ak_97 : akind 97 = 2 := rfl
theorem al_97 (M : tM) : alen M 97 = 1280 := rfl
theorem ak_98 : akind 98 = 2 := rfl
theorem al_98 (M : tM) : alen M 98 = 160 := rfl
theorem ak_99 : akind 99 = 0 := rfl
theorem al_99 (M : tM) : alen M 99 = 7 := rfl
theorem ak_100 : akind 100 = 5 := rfl
theorem al_100 (M : tM) : alen M 100 = 6 := rfl
theorem rf_100 (j : Nat) : rfe 100 j = 130 + j := rfl
theorem ak_101 : akind 101 = 0 := rfl
theorem al_101 (M : tM) : alen M 101 = 64 := rfl
theorem ak_102 : akind 102 = 0 := rfl
theorem al_102 (M : tM) : alen M 102 = 2048 := rfl
theorem ak_103 : akind 103 = 0 := rfl
theorem al_103 (M : tM) : alen M 103 = 8 := rfl
theorem ak_104 : akind 104 = 0 := rfl
theorem al_104 (M : tM) : alen M 104 = 16 := rfl
theorem ak_105 : akind 105 = 1 := rfl
theorem al_105 (M : tM) : alen M 105 = 8 := rfl
theorem ak_106 : akind 106 = 0 := rfl
theorem al_106 (M : tM) : alen M 106 = 20 := rfl
theorem ak_107 : akind 107 = 0 := rfl
theorem al_107 (M : tM) : alen M 107 = 8 := rfl
theorem ak_108 : akind 108 = 0 := rfl
theorem al_108 (M : tM) : alen M 108 = 8 := rfl
theorem ak_120 : akind 120 = 6 := rfl
theorem al_120 (M : tM) : alen M 120 = 7 := rfl
theorem cls_130 : clsO 130 = some 90 := rfl
theorem txl_130 : txl 130 = 4 := rfl
theorem cls_131 : clsO 131 = some 90 := rfl
theorem txl_131 : txl 131 = 4 := rfl
theorem cls_132 : clsO 132 = some 90 := rfl
theorem txl_132 : txl 132 = 7 := rfl
theorem cls_133 : clsO 133 = some 90 := rfl
theorem txl_133 : txl 133 = 4 := rfl
theorem cls_134 : clsO 134 = some 90 := rfl
theorem txl_134 : txl 134 = 4 := rfl
theorem cls_135 : clsO 135 = some 90 := rfl
theorem txl_135 : txl 135 = 8 := rfl
def isMin (b : Nat) : Prop := b = 0 ∨ b = 10 ∨ b = 20
theorem mn_cls {b : Nat} (h : isMin b) : clsO b = some 4 := by rcases h with rfl | rfl | rfl <;> rfl
theorem mn_fv0 {b : Nat} (h : isMin b) (M : tM) : fv M b 0 = .int (M.1 b 0) := by rcases h with rfl | rfl | rfl <;> rfl
theorem mn_fv1 {b : Nat} (h : isMin b) (M : tM) : fv M b 1 = .ref (b + 1) := by rcases h with rfl | rfl | rfl <;> rfl
theorem mn_fv2 {b : Nat} (h : isMin b) (M : tM) : fv M b 2 = .int (M.1 b 2) := by rcases h with rfl | rfl | rfl <;> rfl
theorem mn_fv3 {b : Nat} (h : isMin b) (M : tM) : fv M b 3 = .ref (b + 2) := by rcases h with rfl | rfl | rfl <;> rfl
theorem mn_fv4 {b : Nat} (h : isMin b) (M : tM) : fv M b 4 = .ref (b + 3) := by rcases h with rfl | rfl | rfl <;> rfl
theorem mn_fv5 {b : Nat} (h : isMin b) (M : tM) : fv M b 5 = .ref (b + 4) := by rcases h with rfl | rfl | rfl <;> rfl
theorem mn_fv6 {b : Nat} (h : isMin b) (M : tM) : fv M b 6 = .ref (b + 5) := by rcases h with rfl | rfl | rfl <;> rfl
theorem mn_fv7 {b : Nat} (h : isMin b) (M : tM) : fv M b 7 = .int (M.1 b 7) := by rcases h with rfl | rfl | rfl <;> rfl
theorem mn_fv8 {b : Nat} (h : isMin b) (M : tM) : fv M b 8 = .int (M.1 b 8) := by rcases h with rfl | rfl | rfl <;> rfl
theorem mn_fv9 {b : Nat} (h : isMin b) (M : tM) : fv M b 9 = .ref (b + 6) := by rcases h with rfl | rfl | rfl <;> rfl
theorem mn_fv10 {b : Nat} (h : isMin b) (M : tM) : fv M b 10 = .ref (b + 7) := by rcases h with rfl | rfl | rfl <;> rfl
theorem mn_fv11 {b : Nat} (h : isMin b) (M : tM) : fv M b 11 = .ref (b + 8) := by rcases h with rfl | rfl | rfl <;> rfl
theorem mn_fv12 {b : Nat} (h : isMin b) (M : tM) : fv M b 12 = .ref (b + 9) := by rcases h with rfl | rfl | rfl <;> rfl
theorem mn_fv13 {b : Nat} (h : isMin b) (M : tM) : fv M b 13 = .int (M.1 b 13) := by rcases h with rfl | rfl | rfl <;> rfl
theorem mn_fv14 {b : Nat} (h : isMin b) (M : tM) : fv M b 14 = .int (M.1 b 14) := by rcases h with rfl | rfl | rfl <;> rfl
theorem mn_fv15 {b : Nat} (h : isMin b) (M : tM) : fv M b 15 = .int (M.1 b 15) := by rcases h with rfl | rfl | rfl <;> rfl
theorem mn_ak1 {b : Nat} (h : isMin b) : akind (b + 1) = 0 := by rcases h with rfl | rfl | rfl <;> rfl
theorem mn_al1 {b : Nat} (h : isMin b) (M : tM) : alen M (b + 1) = 8 := by rcases h with rfl | rfl | rfl <;> rfl
theorem mn_ak2 {b : Nat} (h : isMin b) : akind (b + 2) = 0 := by rcases h with rfl | rfl | rfl <;> rfl
theorem mn_al2 {b : Nat} (h : isMin b) (M : tM) : alen M (b + 2) = 16 := by rcases h with rfl | rfl | rfl <;> rfl
theorem mn_ak3 {b : Nat} (h : isMin b) : akind (b + 3) = 0 := by rcases h with rfl | rfl | rfl <;> rfl
theorem mn_al3 {b : Nat} (h : isMin b) (M : tM) : alen M (b + 3) = 16 := by rcases h with rfl | rfl | rfl <;> rfl
theorem mn_ak4 {b : Nat} (h : isMin b) : akind (b + 4) = 0 := by rcases h with rfl | rfl | rfl <;> rfl
theorem mn_al4 {b : Nat} (h : isMin b) (M : tM) : alen M (b + 4) = 16 := by rcases h with rfl | rfl | rfl <;> rfl
theorem mn_ak5 {b : Nat} (h : isMin b) : akind (b + 5) = 0 := by rcases h with rfl | rfl | rfl <;> rfl
theorem mn_al5 {b : Nat} (h : isMin b) (M : tM) : alen M (b + 5) = 16 := by rcases h with rfl | rfl | rfl <;> rfl
theorem mn_ak6 {b : Nat} (h : isMin b) : akind (b + 6) = 0 := by rcases h with rfl | rfl | rfl <;> rfl
theorem mn_al6 {b : Nat} (h : isMin b) (M : tM) : alen M (b + 6) = 5 := by rcases h with rfl | rfl | rfl <;> rfl
theorem mn_ak7 {b : Nat} (h : isMin b) : akind (b + 7) = 0 := by rcases h with rfl | rfl | rfl <;> rfl
theorem mn_al7 {b : Nat} (h : isMin b) (M : tM) : alen M (b + 7) = 5 := by rcases h with rfl | rfl | rfl <;> rfl
theorem mn_ak8 {b : Nat} (h : isMin b) : akind (b + 8) = 0 := by rcases h with rfl | rfl | rfl <;> rfl
theorem mn_al8 {b : Nat} (h : isMin b) (M : tM) : alen M (b + 8) = 5 := by rcases h with rfl | rfl | rfl <;> rfl
theorem mn_ak9 {b : Nat} (h : isMin b) : akind (b + 9) = 0 := by rcases h with rfl | rfl | rfl <;> rfl
theorem mn_al9 {b : Nat} (h : isMin b) (M : tM) : alen M (b + 9) = 5 := by rcases h with rfl | rfl | rfl <;> rfl
theorem rw_ak {j : Nat} (h : j < 8) : akind (34 + j) = 2 := by revert j; decide
theorem rw_al {j : Nat} (h : j < 8) (M : tM) : alen M (34 + j) = 160 := by
  have key : ∀ j, j < 8 → alT.getD (34 + j) 0 = 160 := by decide
  rw [alen, if_neg (by omega)]
  exact key j h
theorem tb_al {j : Nat} (h : j < 8) (M : tM) : alen M (49 + j) = 8 := by
  have key : ∀ j, j < 8 → alT.getD (49 + j) 0 = 8 := by decide
  rw [alen, if_neg (by omega)]
  exact key j h
theorem dl_al {j : Nat} (h : j < 16) (M : tM) : alen M (64 + j) = 8 := by
  have key : ∀ j, j < 16 → alT.getD (64 + j) 0 = 8 := by decide
  rw [alen, if_neg (by omega)]
  exact key j h
theorem tb_ak {j : Nat} (h : j < 8) : akind (49 + j) = 0 := by revert j; decide
theorem dl_ak {j : Nat} (h : j < 16) : akind (64 + j) = 0 := by revert j; decide
