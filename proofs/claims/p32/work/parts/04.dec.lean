theorem dX9_wordCode_96 : decode cX9_wordCode 96 = .ok (.iconst 1, 1) := by decide +kernel
theorem dX9_wordCode_97 : decode cX9_wordCode 97 = .ok (.ireturn, 1) := by decide +kernel
theorem dX9_kindName_0 : decode cX9_kindName 0 = .ok (.iload_n 0, 1) := by decide +kernel
theorem dX9_kindName_1 : decode cX9_kindName 1 = .ok (.lookupswitch 33 #[(0, 27), (1, 30)], 27) := by decide +kernel
theorem dX9_kindName_28 : decode cX9_kindName 28 = .ok (.ldc 85, 2) := by decide +kernel
theorem dX9_kindName_30 : decode cX9_kindName 30 = .ok (.areturn, 1) := by decide +kernel
theorem dX9_kindName_31 : decode cX9_kindName 31 = .ok (.ldc 87, 2) := by decide +kernel
theorem dX9_kindName_33 : decode cX9_kindName 33 = .ok (.areturn, 1) := by decide +kernel
theorem dX9_kindName_34 : decode cX9_kindName 34 = .ok (.ldc 89, 2) := by decide +kernel
theorem dX9_kindName_36 : decode cX9_kindName 36 = .ok (.areturn, 1) := by decide +kernel
theorem dX9_askedName_0 : decode cX9_askedName 0 = .ok (.iload_n 0, 1) := by decide +kernel
theorem dX9_askedName_1 : decode cX9_askedName 1 = .ok (.tableswitch 43 0 3 #[31, 34, 37, 40], 31) := by decide +kernel
theorem dX9_askedName_32 : decode cX9_askedName 32 = .ok (.ldc 91, 2) := by decide +kernel
theorem dX9_askedName_34 : decode cX9_askedName 34 = .ok (.areturn, 1) := by decide +kernel
theorem dX9_askedName_35 : decode cX9_askedName 35 = .ok (.ldc 93, 2) := by decide +kernel
theorem dX9_askedName_37 : decode cX9_askedName 37 = .ok (.areturn, 1) := by decide +kernel
theorem dX9_askedName_38 : decode cX9_askedName 38 = .ok (.ldc 95, 2) := by decide +kernel
theorem dX9_askedName_40 : decode cX9_askedName 40 = .ok (.areturn, 1) := by decide +kernel
theorem dX9_askedName_41 : decode cX9_askedName 41 = .ok (.ldc 97, 2) := by decide +kernel
theorem dX9_askedName_43 : decode cX9_askedName 43 = .ok (.areturn, 1) := by decide +kernel
theorem dX9_askedName_44 : decode cX9_askedName 44 = .ok (.ldc 99, 2) := by decide +kernel
theorem dX9_askedName_46 : decode cX9_askedName 46 = .ok (.areturn, 1) := by decide +kernel
theorem dX9_binderName_0 : decode cX9_binderName 0 = .ok (.iload_n 0, 1) := by decide +kernel
theorem dX9_binderName_1 : decode cX9_binderName 1 = .ok (.tableswitch 78 220 228 #[51, 54, 57, 60, 63, 66, 69, 72, 75], 51) := by decide +kernel
theorem dX9_binderName_52 : decode cX9_binderName 52 = .ok (.ldc 101, 2) := by decide +kernel
theorem dX9_binderName_54 : decode cX9_binderName 54 = .ok (.areturn, 1) := by decide +kernel
theorem dX9_binderName_55 : decode cX9_binderName 55 = .ok (.ldc 103, 2) := by decide +kernel
theorem dX9_binderName_57 : decode cX9_binderName 57 = .ok (.areturn, 1) := by decide +kernel
theorem dX9_binderName_58 : decode cX9_binderName 58 = .ok (.ldc 105, 2) := by decide +kernel
theorem dX9_binderName_60 : decode cX9_binderName 60 = .ok (.areturn, 1) := by decide +kernel
theorem dX9_binderName_61 : decode cX9_binderName 61 = .ok (.ldc 107, 2) := by decide +kernel
theorem dX9_binderName_63 : decode cX9_binderName 63 = .ok (.areturn, 1) := by decide +kernel
theorem dX9_binderName_64 : decode cX9_binderName 64 = .ok (.ldc 109, 2) := by decide +kernel
theorem dX9_binderName_66 : decode cX9_binderName 66 = .ok (.areturn, 1) := by decide +kernel
theorem dX9_binderName_67 : decode cX9_binderName 67 = .ok (.ldc 111, 2) := by decide +kernel
theorem dX9_binderName_69 : decode cX9_binderName 69 = .ok (.areturn, 1) := by decide +kernel
theorem dX9_binderName_70 : decode cX9_binderName 70 = .ok (.ldc 113, 2) := by decide +kernel
theorem dX9_binderName_72 : decode cX9_binderName 72 = .ok (.areturn, 1) := by decide +kernel
theorem dX9_binderName_73 : decode cX9_binderName 73 = .ok (.ldc 115, 2) := by decide +kernel
theorem dX9_binderName_75 : decode cX9_binderName 75 = .ok (.areturn, 1) := by decide +kernel
theorem dX9_binderName_76 : decode cX9_binderName 76 = .ok (.ldc 117, 2) := by decide +kernel
theorem dX9_binderName_78 : decode cX9_binderName 78 = .ok (.areturn, 1) := by decide +kernel
theorem dX9_binderName_79 : decode cX9_binderName 79 = .ok (.ldc 119, 2) := by decide +kernel
theorem dX9_binderName_81 : decode cX9_binderName 81 = .ok (.areturn, 1) := by decide +kernel
theorem dX9_isWord_0 : decode cX9_isWord 0 = .ok (.aload_n 3, 1) := by decide +kernel
theorem dX9_isWord_1 : decode cX9_isWord 1 = .ok (.invokevirtual 121, 3) := by decide +kernel
theorem dX9_isWord_4 : decode cX9_isWord 4 = .ok (.iload_n 2, 1) := by decide +kernel
theorem dX9_isWord_5 : decode cX9_isWord 5 = .ok (.if_icmp .ne 13, 3) := by decide +kernel
theorem dX9_isWord_8 : decode cX9_isWord 8 = .ok (.iload_n 1, 1) := by decide +kernel
theorem dX9_isWord_9 : decode cX9_isWord 9 = .ok (.iload_n 2, 1) := by decide +kernel
theorem dX9_isWord_10 : decode cX9_isWord 10 = .ok (.iadd, 1) := by decide +kernel
theorem dX9_isWord_11 : decode cX9_isWord 11 = .ok (.aload_n 0, 1) := by decide +kernel
theorem dX9_isWord_12 : decode cX9_isWord 12 = .ok (.getfield 9, 3) := by decide +kernel
theorem dX9_isWord_15 : decode cX9_isWord 15 = .ok (.if_icmp .le 5, 3) := by decide +kernel
theorem dX9_isWord_18 : decode cX9_isWord 18 = .ok (.iconst 0, 1) := by decide +kernel
theorem dX9_isWord_19 : decode cX9_isWord 19 = .ok (.ireturn, 1) := by decide +kernel
theorem dX9_isWord_20 : decode cX9_isWord 20 = .ok (.iconst 0, 1) := by decide +kernel
theorem dX9_isWord_21 : decode cX9_isWord 21 = .ok (.istore 4, 2) := by decide +kernel
theorem dX9_isWord_23 : decode cX9_isWord 23 = .ok (.iload 4, 2) := by decide +kernel
theorem dX9_isWord_25 : decode cX9_isWord 25 = .ok (.iload_n 2, 1) := by decide +kernel
theorem dX9_isWord_26 : decode cX9_isWord 26 = .ok (.if_icmp .ge 29, 3) := by decide +kernel
theorem dX9_isWord_29 : decode cX9_isWord 29 = .ok (.aload_n 0, 1) := by decide +kernel
theorem dX9_isWord_30 : decode cX9_isWord 30 = .ok (.getfield 18, 3) := by decide +kernel
theorem dX9_isWord_33 : decode cX9_isWord 33 = .ok (.iload_n 1, 1) := by decide +kernel
theorem dX9_isWord_34 : decode cX9_isWord 34 = .ok (.iload 4, 2) := by decide +kernel
theorem dX9_isWord_36 : decode cX9_isWord 36 = .ok (.iadd, 1) := by decide +kernel
theorem dX9_isWord_37 : decode cX9_isWord 37 = .ok (.iaload, 1) := by decide +kernel
theorem dX9_isWord_38 : decode cX9_isWord 38 = .ok (.aload_n 3, 1) := by decide +kernel
theorem dX9_isWord_39 : decode cX9_isWord 39 = .ok (.iload 4, 2) := by decide +kernel
theorem dX9_isWord_41 : decode cX9_isWord 41 = .ok (.invokevirtual 125, 3) := by decide +kernel
theorem dX9_isWord_44 : decode cX9_isWord 44 = .ok (.if_icmp .eq 5, 3) := by decide +kernel
theorem dX9_isWord_47 : decode cX9_isWord 47 = .ok (.iconst 0, 1) := by decide +kernel
theorem dX9_isWord_48 : decode cX9_isWord 48 = .ok (.ireturn, 1) := by decide +kernel
theorem dX9_isWord_49 : decode cX9_isWord 49 = .ok (.iinc 4 1, 3) := by decide +kernel
theorem dX9_isWord_52 : decode cX9_isWord 52 = .ok (.goto (-29), 3) := by decide +kernel
theorem dX9_isWord_55 : decode cX9_isWord 55 = .ok (.iconst 1, 1) := by decide +kernel
theorem dX9_isWord_56 : decode cX9_isWord 56 = .ok (.ireturn, 1) := by decide +kernel
theorem dX9_isBlank_0 : decode cX9_isBlank 0 = .ok (.iload_n 0, 1) := by decide +kernel
theorem dX9_isBlank_1 : decode cX9_isBlank 1 = .ok (.bipush 32, 2) := by decide +kernel
theorem dX9_isBlank_3 : decode cX9_isBlank 3 = .ok (.if_icmp .eq 9, 3) := by decide +kernel
theorem dX9_isBlank_6 : decode cX9_isBlank 6 = .ok (.iload_n 0, 1) := by decide +kernel
theorem dX9_isBlank_7 : decode cX9_isBlank 7 = .ok (.bipush 10, 2) := by decide +kernel
theorem dX9_isBlank_9 : decode cX9_isBlank 9 = .ok (.if_icmp .ne 7, 3) := by decide +kernel
theorem dX9_isBlank_12 : decode cX9_isBlank 12 = .ok (.iconst 1, 1) := by decide +kernel
theorem dX9_isBlank_13 : decode cX9_isBlank 13 = .ok (.goto 4, 3) := by decide +kernel
theorem dX9_isBlank_16 : decode cX9_isBlank 16 = .ok (.iconst 0, 1) := by decide +kernel
theorem dX9_isBlank_17 : decode cX9_isBlank 17 = .ok (.ireturn, 1) := by decide +kernel
theorem dX9_isDigit_0 : decode cX9_isDigit 0 = .ok (.iload_n 0, 1) := by decide +kernel
theorem dX9_isDigit_1 : decode cX9_isDigit 1 = .ok (.bipush 48, 2) := by decide +kernel
theorem dX9_isDigit_3 : decode cX9_isDigit 3 = .ok (.if_icmp .lt 13, 3) := by decide +kernel
theorem dX9_isDigit_6 : decode cX9_isDigit 6 = .ok (.iload_n 0, 1) := by decide +kernel
theorem dX9_isDigit_7 : decode cX9_isDigit 7 = .ok (.bipush 57, 2) := by decide +kernel
theorem dX9_isDigit_9 : decode cX9_isDigit 9 = .ok (.if_icmp .gt 7, 3) := by decide +kernel
theorem dX9_isDigit_12 : decode cX9_isDigit 12 = .ok (.iconst 1, 1) := by decide +kernel
theorem dX9_isDigit_13 : decode cX9_isDigit 13 = .ok (.goto 4, 3) := by decide +kernel
theorem dX9_isDigit_16 : decode cX9_isDigit 16 = .ok (.iconst 0, 1) := by decide +kernel
theorem dX9_isDigit_17 : decode cX9_isDigit 17 = .ok (.ireturn, 1) := by decide +kernel
theorem dX9_isLetter_0 : decode cX9_isLetter 0 = .ok (.iload_n 0, 1) := by decide +kernel
theorem dX9_isLetter_1 : decode cX9_isLetter 1 = .ok (.bipush 97, 2) := by decide +kernel
theorem dX9_isLetter_3 : decode cX9_isLetter 3 = .ok (.if_icmp .lt 13, 3) := by decide +kernel
theorem dX9_isLetter_6 : decode cX9_isLetter 6 = .ok (.iload_n 0, 1) := by decide +kernel
theorem dX9_isLetter_7 : decode cX9_isLetter 7 = .ok (.bipush 122, 2) := by decide +kernel
theorem dX9_isLetter_9 : decode cX9_isLetter 9 = .ok (.if_icmp .gt 7, 3) := by decide +kernel
theorem dX9_isLetter_12 : decode cX9_isLetter 12 = .ok (.iconst 1, 1) := by decide +kernel
theorem dX9_isLetter_13 : decode cX9_isLetter 13 = .ok (.goto 4, 3) := by decide +kernel
theorem dX9_isLetter_16 : decode cX9_isLetter 16 = .ok (.iconst 0, 1) := by decide +kernel
theorem dX9_isLetter_17 : decode cX9_isLetter 17 = .ok (.ireturn, 1) := by decide +kernel
theorem dX10_init_0 : decode cX10_init 0 = .ok (.aload_n 0, 1) := by decide +kernel
theorem dX10_init_1 : decode cX10_init 1 = .ok (.invokespecial 3, 3) := by decide +kernel
theorem dX10_init_4 : decode cX10_init 4 = .ok (.aload_n 0, 1) := by decide +kernel
theorem dX10_init_5 : decode cX10_init 5 = .ok (.bipush 100, 2) := by decide +kernel
theorem dX10_init_7 : decode cX10_init 7 = .ok (.newarray .int, 2) := by decide +kernel
theorem dX10_init_9 : decode cX10_init 9 = .ok (.putfield 9, 3) := by decide +kernel
theorem dX10_init_12 : decode cX10_init 12 = .ok (.aload_n 0, 1) := by decide +kernel
theorem dX10_init_13 : decode cX10_init 13 = .ok (.bipush 10, 2) := by decide +kernel
theorem dX10_init_15 : decode cX10_init 15 = .ok (.newarray .int, 2) := by decide +kernel
theorem dX10_init_17 : decode cX10_init 17 = .ok (.putfield 15, 3) := by decide +kernel
theorem dX10_init_20 : decode cX10_init 20 = .ok (.aload_n 0, 1) := by decide +kernel
theorem dX10_init_21 : decode cX10_init 21 = .ok (.bipush 46, 2) := by decide +kernel
theorem dX10_init_23 : decode cX10_init 23 = .ok (.newarray .int, 2) := by decide +kernel
theorem dX10_init_25 : decode cX10_init 25 = .ok (.putfield 18, 3) := by decide +kernel
theorem dX10_init_28 : decode cX10_init 28 = .ok (.aload_n 0, 1) := by decide +kernel
theorem dX10_init_29 : decode cX10_init 29 = .ok (.iconst 0, 1) := by decide +kernel
theorem dX10_init_30 : decode cX10_init 30 = .ok (.putfield 21, 3) := by decide +kernel
theorem dX10_init_33 : decode cX10_init 33 = .ok (.aload_n 0, 1) := by decide +kernel
theorem dX10_init_34 : decode cX10_init 34 = .ok (.iconst 0, 1) := by decide +kernel
theorem dX10_init_35 : decode cX10_init 35 = .ok (.putfield 25, 3) := by decide +kernel
theorem dX10_init_38 : decode cX10_init 38 = .ok (.aload_n 0, 1) := by decide +kernel
theorem dX10_init_39 : decode cX10_init 39 = .ok (.iconst 0, 1) := by decide +kernel
theorem dX10_init_40 : decode cX10_init 40 = .ok (.putfield 28, 3) := by decide +kernel
theorem dX10_init_43 : decode cX10_init 43 = .ok (.aload_n 0, 1) := by decide +kernel
theorem dX10_init_44 : decode cX10_init 44 = .ok (.iconst 0, 1) := by decide +kernel
theorem dX10_init_45 : decode cX10_init 45 = .ok (.putfield 31, 3) := by decide +kernel
theorem dX10_init_48 : decode cX10_init 48 = .ok (.return_, 1) := by decide +kernel
theorem dX10_gather_0 : decode cX10_gather 0 = .ok (.aload_n 0, 1) := by decide +kernel
theorem dX10_gather_1 : decode cX10_gather 1 = .ok (.iconst 0, 1) := by decide +kernel
theorem dX10_gather_2 : decode cX10_gather 2 = .ok (.putfield 21, 3) := by decide +kernel
theorem dX10_gather_5 : decode cX10_gather 5 = .ok (.aload_n 0, 1) := by decide +kernel
theorem dX10_gather_6 : decode cX10_gather 6 = .ok (.iconst 0, 1) := by decide +kernel
theorem dX10_gather_7 : decode cX10_gather 7 = .ok (.putfield 25, 3) := by decide +kernel
theorem dX10_gather_10 : decode cX10_gather 10 = .ok (.aload_n 0, 1) := by decide +kernel
theorem dX10_gather_11 : decode cX10_gather 11 = .ok (.iconst 0, 1) := by decide +kernel
theorem dX10_gather_12 : decode cX10_gather 12 = .ok (.putfield 28, 3) := by decide +kernel
theorem dX10_gather_15 : decode cX10_gather 15 = .ok (.iconst 0, 1) := by decide +kernel
theorem dX10_gather_16 : decode cX10_gather 16 = .ok (.istore 5, 2) := by decide +kernel
theorem dX10_gather_18 : decode cX10_gather 18 = .ok (.iload 5, 2) := by decide +kernel
theorem dX10_gather_20 : decode cX10_gather 20 = .ok (.aload_n 2, 1) := by decide +kernel
theorem dX10_gather_21 : decode cX10_gather 21 = .ok (.getfield 34, 3) := by decide +kernel
theorem dX10_gather_24 : decode cX10_gather 24 = .ok (.if_icmp .ge 53, 3) := by decide +kernel
theorem dX10_gather_27 : decode cX10_gather 27 = .ok (.aload_n 2, 1) := by decide +kernel
theorem dX10_gather_28 : decode cX10_gather 28 = .ok (.iload 5, 2) := by decide +kernel
theorem dX10_gather_30 : decode cX10_gather 30 = .ok (.invokevirtual 39, 3) := by decide +kernel
theorem dX10_gather_33 : decode cX10_gather 33 = .ok (.astore 6, 2) := by decide +kernel
theorem dX10_gather_35 : decode cX10_gather 35 = .ok (.aload 6, 2) := by decide +kernel
theorem dX10_gather_37 : decode cX10_gather 37 = .ok (.ifnull 34, 3) := by decide +kernel
theorem dX10_gather_40 : decode cX10_gather 40 = .ok (.aload 6, 2) := by decide +kernel
theorem dX10_gather_42 : decode cX10_gather 42 = .ok (.invokevirtual 43, 3) := by decide +kernel
theorem dX10_gather_45 : decode cX10_gather 45 = .ok (.iload_n 1, 1) := by decide +kernel
theorem dX10_gather_46 : decode cX10_gather 46 = .ok (.if_icmp .ne 25, 3) := by decide +kernel
theorem dX10_gather_49 : decode cX10_gather 49 = .ok (.aload 4, 2) := by decide +kernel
theorem dX10_gather_51 : decode cX10_gather 51 = .ok (.aload 6, 2) := by decide +kernel
theorem dX10_gather_53 : decode cX10_gather 53 = .ok (.invokevirtual 49, 3) := by decide +kernel
theorem dX10_gather_56 : decode cX10_gather 56 = .ok (.invokevirtual 52, 3) := by decide +kernel
theorem dX10_gather_59 : decode cX10_gather 59 = .ok (.ifCond .eq 12, 3) := by decide +kernel
theorem dX10_gather_62 : decode cX10_gather 62 = .ok (.aload_n 0, 1) := by decide +kernel
theorem dX10_gather_63 : decode cX10_gather 63 = .ok (.aload 6, 2) := by decide +kernel
theorem dX10_gather_65 : decode cX10_gather 65 = .ok (.aload_n 3, 1) := by decide +kernel
theorem dX10_gather_66 : decode cX10_gather 66 = .ok (.aload 4, 2) := by decide +kernel
theorem dX10_gather_68 : decode cX10_gather 68 = .ok (.invokevirtual 58, 3) := by decide +kernel
theorem dX10_gather_71 : decode cX10_gather 71 = .ok (.iinc 5 1, 3) := by decide +kernel
theorem dX10_gather_74 : decode cX10_gather 74 = .ok (.goto (-56), 3) := by decide +kernel
theorem dX10_gather_77 : decode cX10_gather 77 = .ok (.return_, 1) := by decide +kernel
theorem dX10_keep_0 : decode cX10_keep 0 = .ok (.aload_n 1, 1) := by decide +kernel
theorem dX10_keep_1 : decode cX10_keep 1 = .ok (.getfield 62, 3) := by decide +kernel
theorem dX10_keep_4 : decode cX10_keep 4 = .ok (.aload_n 3, 1) := by decide +kernel
theorem dX10_keep_5 : decode cX10_keep 5 = .ok (.aload_n 1, 1) := by decide +kernel
theorem dX10_keep_6 : decode cX10_keep 6 = .ok (.invokevirtual 49, 3) := by decide +kernel
theorem dX10_keep_9 : decode cX10_keep 9 = .ok (.invokevirtual 65, 3) := by decide +kernel
theorem dX10_keep_12 : decode cX10_keep 12 = .ok (.isub, 1) := by decide +kernel
theorem dX10_keep_13 : decode cX10_keep 13 = .ok (.invokestatic 69, 3) := by decide +kernel
theorem dX10_keep_16 : decode cX10_keep 16 = .ok (.istore 4, 2) := by decide +kernel
theorem dX10_keep_18 : decode cX10_keep 18 = .ok (.aload_n 1, 1) := by decide +kernel
theorem dX10_keep_19 : decode cX10_keep 19 = .ok (.getfield 62, 3) := by decide +kernel
theorem dX10_keep_22 : decode cX10_keep 22 = .ok (.aload_n 3, 1) := by decide +kernel
theorem dX10_keep_23 : decode cX10_keep 23 = .ok (.aload_n 1, 1) := by decide +kernel
theorem dX10_keep_24 : decode cX10_keep 24 = .ok (.invokevirtual 49, 3) := by decide +kernel
theorem dX10_keep_27 : decode cX10_keep 27 = .ok (.invokevirtual 72, 3) := by decide +kernel
theorem dX10_keep_30 : decode cX10_keep 30 = .ok (.isub, 1) := by decide +kernel
theorem dX10_keep_31 : decode cX10_keep 31 = .ok (.invokestatic 69, 3) := by decide +kernel
theorem dX10_keep_34 : decode cX10_keep 34 = .ok (.istore 5, 2) := by decide +kernel
theorem dX10_keep_36 : decode cX10_keep 36 = .ok (.aload_n 2, 1) := by decide +kernel
theorem dX10_keep_37 : decode cX10_keep 37 = .ok (.aload_n 0, 1) := by decide +kernel
theorem dX10_keep_38 : decode cX10_keep 38 = .ok (.getfield 9, 3) := by decide +kernel
theorem dX10_keep_41 : decode cX10_keep 41 = .ok (.aload_n 2, 1) := by decide +kernel
theorem dX10_keep_42 : decode cX10_keep 42 = .ok (.aload_n 1, 1) := by decide +kernel
theorem dX10_keep_43 : decode cX10_keep 43 = .ok (.invokevirtual 43, 3) := by decide +kernel
theorem dX10_keep_46 : decode cX10_keep 46 = .ok (.invokevirtual 75, 3) := by decide +kernel
theorem dX10_keep_49 : decode cX10_keep 49 = .ok (.aload_n 1, 1) := by decide +kernel
theorem dX10_keep_50 : decode cX10_keep 50 = .ok (.getfield 80, 3) := by decide +kernel
theorem dX10_keep_53 : decode cX10_keep 53 = .ok (.aload_n 1, 1) := by decide +kernel
theorem dX10_keep_54 : decode cX10_keep 54 = .ok (.invokevirtual 83, 3) := by decide +kernel
theorem dX10_keep_57 : decode cX10_keep 57 = .ok (.aload_n 1, 1) := by decide +kernel
theorem dX10_keep_58 : decode cX10_keep 58 = .ok (.invokevirtual 43, 3) := by decide +kernel
theorem dX10_keep_61 : decode cX10_keep 61 = .ok (.invokevirtual 86, 3) := by decide +kernel
theorem dX10_keep_64 : decode cX10_keep 64 = .ok (.aload_n 0, 1) := by decide +kernel
theorem dX10_keep_65 : decode cX10_keep 65 = .ok (.getfield 9, 3) := by decide +kernel
theorem dX10_keep_68 : decode cX10_keep 68 = .ok (.iload 4, 2) := by decide +kernel
theorem dX10_keep_70 : decode cX10_keep 70 = .ok (.iload 5, 2) := by decide +kernel
theorem dX10_keep_72 : decode cX10_keep 72 = .ok (.invokestatic 90, 3) := by decide +kernel
theorem dX10_keep_75 : decode cX10_keep 75 = .ok (.istore 6, 2) := by decide +kernel
theorem dX10_keep_77 : decode cX10_keep 77 = .ok (.iload 6, 2) := by decide +kernel
theorem dX10_keep_79 : decode cX10_keep 79 = .ok (.iconst (-1), 1) := by decide +kernel
theorem dX10_keep_80 : decode cX10_keep 80 = .ok (.if_icmp .eq 44, 3) := by decide +kernel
theorem dX10_keep_83 : decode cX10_keep 83 = .ok (.aload_n 0, 1) := by decide +kernel
theorem dX10_keep_84 : decode cX10_keep 84 = .ok (.dup, 1) := by decide +kernel
theorem dX10_keep_85 : decode cX10_keep 85 = .ok (.getfield 21, 3) := by decide +kernel
theorem dX10_keep_88 : decode cX10_keep 88 = .ok (.iconst 1, 1) := by decide +kernel
theorem dX10_keep_89 : decode cX10_keep 89 = .ok (.iadd, 1) := by decide +kernel
theorem dX10_keep_90 : decode cX10_keep 90 = .ok (.putfield 21, 3) := by decide +kernel
theorem dX10_keep_93 : decode cX10_keep 93 = .ok (.aload_n 0, 1) := by decide +kernel
theorem dX10_keep_94 : decode cX10_keep 94 = .ok (.dup, 1) := by decide +kernel
theorem dX10_keep_95 : decode cX10_keep 95 = .ok (.getfield 25, 3) := by decide +kernel
theorem dX10_keep_98 : decode cX10_keep 98 = .ok (.iload 6, 2) := by decide +kernel
theorem dX10_keep_100 : decode cX10_keep 100 = .ok (.iadd, 1) := by decide +kernel
theorem dX10_keep_101 : decode cX10_keep 101 = .ok (.putfield 25, 3) := by decide +kernel
theorem dX10_keep_104 : decode cX10_keep 104 = .ok (.aload_n 0, 1) := by decide +kernel
theorem dX10_keep_105 : decode cX10_keep 105 = .ok (.dup, 1) := by decide +kernel
theorem dX10_keep_106 : decode cX10_keep 106 = .ok (.getfield 28, 3) := by decide +kernel
theorem dX10_keep_109 : decode cX10_keep 109 = .ok (.aload_n 0, 1) := by decide +kernel
theorem dX10_keep_110 : decode cX10_keep 110 = .ok (.getfield 9, 3) := by decide +kernel
theorem dX10_keep_113 : decode cX10_keep 113 = .ok (.iload 4, 2) := by decide +kernel
theorem dX10_keep_115 : decode cX10_keep 115 = .ok (.iload 5, 2) := by decide +kernel
theorem dX10_keep_117 : decode cX10_keep 117 = .ok (.invokestatic 94, 3) := by decide +kernel
theorem dX10_keep_120 : decode cX10_keep 120 = .ok (.iadd, 1) := by decide +kernel
theorem dX10_keep_121 : decode cX10_keep 121 = .ok (.putfield 28, 3) := by decide +kernel
theorem dX10_keep_124 : decode cX10_keep 124 = .ok (.return_, 1) := by decide +kernel
theorem dX10_gatherValues_0 : decode cX10_gatherValues 0 = .ok (.aload_n 0, 1) := by decide +kernel
theorem dX10_gatherValues_1 : decode cX10_gatherValues 1 = .ok (.iconst 0, 1) := by decide +kernel
theorem dX10_gatherValues_2 : decode cX10_gatherValues 2 = .ok (.putfield 31, 3) := by decide +kernel
theorem dX10_gatherValues_5 : decode cX10_gatherValues 5 = .ok (.iconst 0, 1) := by decide +kernel
theorem dX10_gatherValues_6 : decode cX10_gatherValues 6 = .ok (.istore 4, 2) := by decide +kernel
theorem dX10_gatherValues_8 : decode cX10_gatherValues 8 = .ok (.iload 4, 2) := by decide +kernel
theorem dX10_gatherValues_10 : decode cX10_gatherValues 10 = .ok (.bipush 10, 2) := by decide +kernel
theorem dX10_gatherValues_12 : decode cX10_gatherValues 12 = .ok (.if_icmp .ge 73, 3) := by decide +kernel
theorem dX10_gatherValues_15 : decode cX10_gatherValues 15 = .ok (.aload_n 0, 1) := by decide +kernel
theorem dX10_gatherValues_16 : decode cX10_gatherValues 16 = .ok (.iload 4, 2) := by decide +kernel
theorem dX10_gatherValues_18 : decode cX10_gatherValues 18 = .ok (.aload_n 1, 1) := by decide +kernel
theorem dX10_gatherValues_19 : decode cX10_gatherValues 19 = .ok (.aload_n 2, 1) := by decide +kernel
theorem dX10_gatherValues_20 : decode cX10_gatherValues 20 = .ok (.aload_n 3, 1) := by decide +kernel
theorem dX10_gatherValues_21 : decode cX10_gatherValues 21 = .ok (.invokevirtual 97, 3) := by decide +kernel
theorem dX10_gatherValues_24 : decode cX10_gatherValues 24 = .ok (.aload_n 0, 1) := by decide +kernel
theorem dX10_gatherValues_25 : decode cX10_gatherValues 25 = .ok (.getfield 21, 3) := by decide +kernel
theorem dX10_gatherValues_28 : decode cX10_gatherValues 28 = .ok (.ifCond .le 51, 3) := by decide +kernel
theorem dX10_gatherValues_31 : decode cX10_gatherValues 31 = .ok (.aload_n 0, 1) := by decide +kernel
theorem dX10_gatherValues_32 : decode cX10_gatherValues 32 = .ok (.getfield 31, 3) := by decide +kernel
theorem dX10_gatherValues_35 : decode cX10_gatherValues 35 = .ok (.bipush 10, 2) := by decide +kernel
theorem dX10_gatherValues_37 : decode cX10_gatherValues 37 = .ok (.if_icmp .ge 42, 3) := by decide +kernel
theorem dX10_gatherValues_40 : decode cX10_gatherValues 40 = .ok (.aload_n 0, 1) := by decide +kernel
theorem dX10_gatherValues_41 : decode cX10_gatherValues 41 = .ok (.getfield 15, 3) := by decide +kernel
theorem dX10_gatherValues_44 : decode cX10_gatherValues 44 = .ok (.aload_n 0, 1) := by decide +kernel
theorem dX10_gatherValues_45 : decode cX10_gatherValues 45 = .ok (.getfield 31, 3) := by decide +kernel
theorem dX10_gatherValues_48 : decode cX10_gatherValues 48 = .ok (.aload_n 0, 1) := by decide +kernel
theorem dX10_gatherValues_49 : decode cX10_gatherValues 49 = .ok (.getfield 25, 3) := by decide +kernel
theorem dX10_gatherValues_52 : decode cX10_gatherValues 52 = .ok (.aload_n 0, 1) := by decide +kernel
theorem dX10_gatherValues_53 : decode cX10_gatherValues 53 = .ok (.getfield 28, 3) := by decide +kernel
theorem dX10_gatherValues_56 : decode cX10_gatherValues 56 = .ok (.iadd, 1) := by decide +kernel
theorem dX10_gatherValues_57 : decode cX10_gatherValues 57 = .ok (.sipush 1000, 3) := by decide +kernel
theorem dX10_gatherValues_60 : decode cX10_gatherValues 60 = .ok (.imul, 1) := by decide +kernel
theorem dX10_gatherValues_61 : decode cX10_gatherValues 61 = .ok (.iconst 2, 1) := by decide +kernel
theorem dX10_gatherValues_62 : decode cX10_gatherValues 62 = .ok (.aload_n 0, 1) := by decide +kernel
theorem dX10_gatherValues_63 : decode cX10_gatherValues 63 = .ok (.getfield 21, 3) := by decide +kernel
theorem dX10_gatherValues_66 : decode cX10_gatherValues 66 = .ok (.imul, 1) := by decide +kernel
theorem dX10_gatherValues_67 : decode cX10_gatherValues 67 = .ok (.idiv, 1) := by decide +kernel
theorem dX10_gatherValues_68 : decode cX10_gatherValues 68 = .ok (.iastore, 1) := by decide +kernel
theorem dX10_gatherValues_69 : decode cX10_gatherValues 69 = .ok (.aload_n 0, 1) := by decide +kernel
theorem dX10_gatherValues_70 : decode cX10_gatherValues 70 = .ok (.dup, 1) := by decide +kernel
theorem dX10_gatherValues_71 : decode cX10_gatherValues 71 = .ok (.getfield 31, 3) := by decide +kernel
theorem dX10_gatherValues_74 : decode cX10_gatherValues 74 = .ok (.iconst 1, 1) := by decide +kernel
theorem dX10_gatherValues_75 : decode cX10_gatherValues 75 = .ok (.iadd, 1) := by decide +kernel
theorem dX10_gatherValues_76 : decode cX10_gatherValues 76 = .ok (.putfield 31, 3) := by decide +kernel
theorem dX10_gatherValues_79 : decode cX10_gatherValues 79 = .ok (.iinc 4 1, 3) := by decide +kernel
theorem dX10_gatherValues_82 : decode cX10_gatherValues 82 = .ok (.goto (-74), 3) := by decide +kernel
theorem dX10_gatherValues_85 : decode cX10_gatherValues 85 = .ok (.return_, 1) := by decide +kernel
theorem dX10_rising_0 : decode cX10_rising 0 = .ok (.iconst 0, 1) := by decide +kernel
theorem dX10_rising_1 : decode cX10_rising 1 = .ok (.istore_n 1, 1) := by decide +kernel
theorem dX10_rising_2 : decode cX10_rising 2 = .ok (.iconst 0, 1) := by decide +kernel
theorem dX10_rising_3 : decode cX10_rising 3 = .ok (.istore_n 2, 1) := by decide +kernel
theorem dX10_rising_4 : decode cX10_rising 4 = .ok (.iload_n 2, 1) := by decide +kernel
theorem dX10_rising_5 : decode cX10_rising 5 = .ok (.aload_n 0, 1) := by decide +kernel
theorem dX10_rising_6 : decode cX10_rising 6 = .ok (.getfield 31, 3) := by decide +kernel
theorem dX10_rising_9 : decode cX10_rising 9 = .ok (.if_icmp .ge 45, 3) := by decide +kernel
theorem dX10_rising_12 : decode cX10_rising 12 = .ok (.iconst 0, 1) := by decide +kernel
theorem dX10_rising_13 : decode cX10_rising 13 = .ok (.istore_n 3, 1) := by decide +kernel
theorem dX10_rising_14 : decode cX10_rising 14 = .ok (.iload_n 3, 1) := by decide +kernel
theorem dX10_rising_15 : decode cX10_rising 15 = .ok (.iload_n 2, 1) := by decide +kernel
theorem dX10_rising_16 : decode cX10_rising 16 = .ok (.if_icmp .ge 32, 3) := by decide +kernel
theorem dX10_rising_19 : decode cX10_rising 19 = .ok (.iload_n 1, 1) := by decide +kernel
theorem dX10_rising_20 : decode cX10_rising 20 = .ok (.aload_n 0, 1) := by decide +kernel
theorem dX10_rising_21 : decode cX10_rising 21 = .ok (.getfield 15, 3) := by decide +kernel
theorem dX10_rising_24 : decode cX10_rising 24 = .ok (.iload_n 2, 1) := by decide +kernel
theorem dX10_rising_25 : decode cX10_rising 25 = .ok (.iaload, 1) := by decide +kernel
theorem dX10_rising_26 : decode cX10_rising 26 = .ok (.aload_n 0, 1) := by decide +kernel
theorem dX10_rising_27 : decode cX10_rising 27 = .ok (.getfield 15, 3) := by decide +kernel
theorem dX10_rising_30 : decode cX10_rising 30 = .ok (.iload_n 3, 1) := by decide +kernel
theorem dX10_rising_31 : decode cX10_rising 31 = .ok (.iaload, 1) := by decide +kernel
theorem dX10_rising_32 : decode cX10_rising 32 = .ok (.if_icmp .le 7, 3) := by decide +kernel
theorem dX10_rising_35 : decode cX10_rising 35 = .ok (.iconst 1, 1) := by decide +kernel
theorem dX10_rising_36 : decode cX10_rising 36 = .ok (.goto 4, 3) := by decide +kernel
theorem dX10_rising_39 : decode cX10_rising 39 = .ok (.iconst 0, 1) := by decide +kernel
theorem dX10_rising_40 : decode cX10_rising 40 = .ok (.iadd, 1) := by decide +kernel
theorem dX10_rising_41 : decode cX10_rising 41 = .ok (.istore_n 1, 1) := by decide +kernel
theorem dX10_rising_42 : decode cX10_rising 42 = .ok (.iinc 3 1, 3) := by decide +kernel
theorem dX10_rising_45 : decode cX10_rising 45 = .ok (.goto (-31), 3) := by decide +kernel
theorem dX10_rising_48 : decode cX10_rising 48 = .ok (.iinc 2 1, 3) := by decide +kernel
theorem dX10_rising_51 : decode cX10_rising 51 = .ok (.goto (-47), 3) := by decide +kernel
theorem dX10_rising_54 : decode cX10_rising 54 = .ok (.iload_n 1, 1) := by decide +kernel
theorem dX10_rising_55 : decode cX10_rising 55 = .ok (.ireturn, 1) := by decide +kernel
theorem dX10_ordersRising_0 : decode cX10_ordersRising 0 = .ok (.iconst 0, 1) := by decide +kernel
theorem dX10_ordersRising_1 : decode cX10_ordersRising 1 = .ok (.istore_n 2, 1) := by decide +kernel
theorem dX10_ordersRising_2 : decode cX10_ordersRising 2 = .ok (.iload_n 2, 1) := by decide +kernel
theorem dX10_ordersRising_3 : decode cX10_ordersRising 3 = .ok (.aload_n 0, 1) := by decide +kernel
theorem dX10_ordersRising_4 : decode cX10_ordersRising 4 = .ok (.getfield 18, 3) := by decide +kernel
theorem dX10_ordersRising_7 : decode cX10_ordersRising 7 = .ok (.arraylength, 1) := by decide +kernel
theorem dX10_ordersRising_8 : decode cX10_ordersRising 8 = .ok (.if_icmp .ge 24, 3) := by decide +kernel
theorem dX10_ordersRising_11 : decode cX10_ordersRising 11 = .ok (.aload_n 0, 1) := by decide +kernel
theorem dX10_ordersRising_12 : decode cX10_ordersRising 12 = .ok (.getfield 18, 3) := by decide +kernel
theorem dX10_ordersRising_15 : decode cX10_ordersRising 15 = .ok (.iload_n 2, 1) := by decide +kernel
theorem dX10_ordersRising_16 : decode cX10_ordersRising 16 = .ok (.iload_n 2, 1) := by decide +kernel
theorem dX10_ordersRising_17 : decode cX10_ordersRising 17 = .ok (.ifCond .ne 7, 3) := by decide +kernel
theorem dX10_ordersRising_20 : decode cX10_ordersRising 20 = .ok (.iconst 1, 1) := by decide +kernel
theorem dX10_ordersRising_21 : decode cX10_ordersRising 21 = .ok (.goto 4, 3) := by decide +kernel
theorem dX10_ordersRising_24 : decode cX10_ordersRising 24 = .ok (.iconst 0, 1) := by decide +kernel
theorem dX10_ordersRising_25 : decode cX10_ordersRising 25 = .ok (.iastore, 1) := by decide +kernel
theorem dX10_ordersRising_26 : decode cX10_ordersRising 26 = .ok (.iinc 2 1, 3) := by decide +kernel
theorem dX10_ordersRising_29 : decode cX10_ordersRising 29 = .ok (.goto (-27), 3) := by decide +kernel
theorem dX10_ordersRising_32 : decode cX10_ordersRising 32 = .ok (.iconst 1, 1) := by decide +kernel
theorem dX10_ordersRising_33 : decode cX10_ordersRising 33 = .ok (.istore_n 2, 1) := by decide +kernel
theorem dX10_ordersRising_34 : decode cX10_ordersRising 34 = .ok (.iload_n 2, 1) := by decide +kernel
theorem dX10_ordersRising_35 : decode cX10_ordersRising 35 = .ok (.aload_n 0, 1) := by decide +kernel
theorem dX10_ordersRising_36 : decode cX10_ordersRising 36 = .ok (.getfield 31, 3) := by decide +kernel
theorem dX10_ordersRising_39 : decode cX10_ordersRising 39 = .ok (.if_icmp .ge 66, 3) := by decide +kernel
theorem dX10_ordersRising_42 : decode cX10_ordersRising 42 = .ok (.aload_n 0, 1) := by decide +kernel
theorem dX10_ordersRising_43 : decode cX10_ordersRising 43 = .ok (.getfield 18, 3) := by decide +kernel
theorem dX10_ordersRising_46 : decode cX10_ordersRising 46 = .ok (.arraylength, 1) := by decide +kernel
theorem dX10_ordersRising_47 : decode cX10_ordersRising 47 = .ok (.iconst 1, 1) := by decide +kernel
theorem dX10_ordersRising_48 : decode cX10_ordersRising 48 = .ok (.isub, 1) := by decide +kernel
theorem dX10_ordersRising_49 : decode cX10_ordersRising 49 = .ok (.istore_n 3, 1) := by decide +kernel
theorem dX10_ordersRising_50 : decode cX10_ordersRising 50 = .ok (.iload_n 3, 1) := by decide +kernel
theorem dX10_ordersRising_51 : decode cX10_ordersRising 51 = .ok (.ifCond .le 48, 3) := by decide +kernel
theorem dX10_ordersRising_54 : decode cX10_ordersRising 54 = .ok (.iconst 1, 1) := by decide +kernel
theorem dX10_ordersRising_55 : decode cX10_ordersRising 55 = .ok (.istore 4, 2) := by decide +kernel
theorem dX10_ordersRising_57 : decode cX10_ordersRising 57 = .ok (.iload 4, 2) := by decide +kernel
theorem dX10_ordersRising_59 : decode cX10_ordersRising 59 = .ok (.iload_n 2, 1) := by decide +kernel
theorem dX10_ordersRising_60 : decode cX10_ordersRising 60 = .ok (.if_icmp .gt 33, 3) := by decide +kernel
theorem dX10_ordersRising_63 : decode cX10_ordersRising 63 = .ok (.iload 4, 2) := by decide +kernel
theorem dX10_ordersRising_65 : decode cX10_ordersRising 65 = .ok (.iload_n 3, 1) := by decide +kernel
theorem dX10_ordersRising_66 : decode cX10_ordersRising 66 = .ok (.if_icmp .gt 27, 3) := by decide +kernel
theorem dX10_ordersRising_69 : decode cX10_ordersRising 69 = .ok (.aload_n 0, 1) := by decide +kernel
theorem dX10_ordersRising_70 : decode cX10_ordersRising 70 = .ok (.getfield 18, 3) := by decide +kernel
theorem dX10_ordersRising_73 : decode cX10_ordersRising 73 = .ok (.iload_n 3, 1) := by decide +kernel
theorem dX10_ordersRising_74 : decode cX10_ordersRising 74 = .ok (.dup2, 1) := by decide +kernel
theorem dX10_ordersRising_75 : decode cX10_ordersRising 75 = .ok (.iaload, 1) := by decide +kernel
theorem dX10_ordersRising_76 : decode cX10_ordersRising 76 = .ok (.aload_n 0, 1) := by decide +kernel
theorem dX10_ordersRising_77 : decode cX10_ordersRising 77 = .ok (.getfield 18, 3) := by decide +kernel
theorem dX10_ordersRising_80 : decode cX10_ordersRising 80 = .ok (.iload_n 3, 1) := by decide +kernel
theorem dX10_ordersRising_81 : decode cX10_ordersRising 81 = .ok (.iload 4, 2) := by decide +kernel
theorem dX10_ordersRising_83 : decode cX10_ordersRising 83 = .ok (.isub, 1) := by decide +kernel
theorem dX10_ordersRising_84 : decode cX10_ordersRising 84 = .ok (.iaload, 1) := by decide +kernel
theorem dX10_ordersRising_85 : decode cX10_ordersRising 85 = .ok (.iadd, 1) := by decide +kernel
theorem dX10_ordersRising_86 : decode cX10_ordersRising 86 = .ok (.iastore, 1) := by decide +kernel
theorem dX10_ordersRising_87 : decode cX10_ordersRising 87 = .ok (.iinc 4 1, 3) := by decide +kernel
theorem dX10_ordersRising_90 : decode cX10_ordersRising 90 = .ok (.goto (-33), 3) := by decide +kernel
theorem dX10_ordersRising_93 : decode cX10_ordersRising 93 = .ok (.iinc 3 (-1), 3) := by decide +kernel
theorem dX10_ordersRising_96 : decode cX10_ordersRising 96 = .ok (.goto (-46), 3) := by decide +kernel
theorem dX10_ordersRising_99 : decode cX10_ordersRising 99 = .ok (.iinc 2 1, 3) := by decide +kernel
theorem dX10_ordersRising_102 : decode cX10_ordersRising 102 = .ok (.goto (-68), 3) := by decide +kernel
theorem dX10_ordersRising_105 : decode cX10_ordersRising 105 = .ok (.iconst 0, 1) := by decide +kernel
theorem dX10_ordersRising_106 : decode cX10_ordersRising 106 = .ok (.istore_n 2, 1) := by decide +kernel
theorem dX10_ordersRising_107 : decode cX10_ordersRising 107 = .ok (.iconst 0, 1) := by decide +kernel
theorem dX10_ordersRising_108 : decode cX10_ordersRising 108 = .ok (.iload_n 1, 1) := by decide +kernel
theorem dX10_ordersRising_109 : decode cX10_ordersRising 109 = .ok (.invokestatic 101, 3) := by decide +kernel
theorem dX10_ordersRising_112 : decode cX10_ordersRising 112 = .ok (.istore_n 3, 1) := by decide +kernel
theorem dX10_ordersRising_113 : decode cX10_ordersRising 113 = .ok (.iload_n 3, 1) := by decide +kernel
theorem dX10_ordersRising_114 : decode cX10_ordersRising 114 = .ok (.aload_n 0, 1) := by decide +kernel
theorem dX10_ordersRising_115 : decode cX10_ordersRising 115 = .ok (.getfield 18, 3) := by decide +kernel
theorem dX10_ordersRising_118 : decode cX10_ordersRising 118 = .ok (.arraylength, 1) := by decide +kernel
theorem dX10_ordersRising_119 : decode cX10_ordersRising 119 = .ok (.if_icmp .ge 18, 3) := by decide +kernel
theorem dX10_ordersRising_122 : decode cX10_ordersRising 122 = .ok (.iload_n 2, 1) := by decide +kernel
theorem dX10_ordersRising_123 : decode cX10_ordersRising 123 = .ok (.aload_n 0, 1) := by decide +kernel
theorem dX10_ordersRising_124 : decode cX10_ordersRising 124 = .ok (.getfield 18, 3) := by decide +kernel
theorem dX10_ordersRising_127 : decode cX10_ordersRising 127 = .ok (.iload_n 3, 1) := by decide +kernel
theorem dX10_ordersRising_128 : decode cX10_ordersRising 128 = .ok (.iaload, 1) := by decide +kernel
theorem dX10_ordersRising_129 : decode cX10_ordersRising 129 = .ok (.iadd, 1) := by decide +kernel
theorem dX10_ordersRising_130 : decode cX10_ordersRising 130 = .ok (.istore_n 2, 1) := by decide +kernel
theorem dX10_ordersRising_131 : decode cX10_ordersRising 131 = .ok (.iinc 3 1, 3) := by decide +kernel
theorem dX10_ordersRising_134 : decode cX10_ordersRising 134 = .ok (.goto (-21), 3) := by decide +kernel
theorem dX10_ordersRising_137 : decode cX10_ordersRising 137 = .ok (.iload_n 2, 1) := by decide +kernel
theorem dX10_ordersRising_138 : decode cX10_ordersRising 138 = .ok (.ireturn, 1) := by decide +kernel
theorem dX11_init_0 : decode cX11_init 0 = .ok (.aload_n 0, 1) := by decide +kernel
theorem dX11_init_1 : decode cX11_init 1 = .ok (.invokespecial 1, 3) := by decide +kernel
theorem dX11_init_4 : decode cX11_init 4 = .ok (.aload_n 0, 1) := by decide +kernel
theorem dX11_init_5 : decode cX11_init 5 = .ok (.new 7, 3) := by decide +kernel
theorem dX11_init_8 : decode cX11_init 8 = .ok (.dup, 1) := by decide +kernel
theorem dX11_init_9 : decode cX11_init 9 = .ok (.invokespecial 9, 3) := by decide +kernel
theorem dX11_init_12 : decode cX11_init 12 = .ok (.putfield 10, 3) := by decide +kernel
theorem dX11_init_15 : decode cX11_init 15 = .ok (.aload_n 0, 1) := by decide +kernel
theorem dX11_init_16 : decode cX11_init 16 = .ok (.new 16, 3) := by decide +kernel
theorem dX11_init_19 : decode cX11_init 19 = .ok (.dup, 1) := by decide +kernel
theorem dX11_init_20 : decode cX11_init 20 = .ok (.invokespecial 18, 3) := by decide +kernel
theorem dX11_init_23 : decode cX11_init 23 = .ok (.putfield 19, 3) := by decide +kernel
theorem dX11_init_26 : decode cX11_init 26 = .ok (.aload_n 0, 1) := by decide +kernel
theorem dX11_init_27 : decode cX11_init 27 = .ok (.new 23, 3) := by decide +kernel
theorem dX11_init_30 : decode cX11_init 30 = .ok (.dup, 1) := by decide +kernel
theorem dX11_init_31 : decode cX11_init 31 = .ok (.invokespecial 25, 3) := by decide +kernel
theorem dX11_init_34 : decode cX11_init 34 = .ok (.putfield 26, 3) := by decide +kernel
theorem dX11_init_37 : decode cX11_init 37 = .ok (.aload_n 0, 1) := by decide +kernel
theorem dX11_init_38 : decode cX11_init 38 = .ok (.new 30, 3) := by decide +kernel
theorem dX11_init_41 : decode cX11_init 41 = .ok (.dup, 1) := by decide +kernel
theorem dX11_init_42 : decode cX11_init 42 = .ok (.invokespecial 32, 3) := by decide +kernel
theorem dX11_init_45 : decode cX11_init 45 = .ok (.putfield 33, 3) := by decide +kernel
theorem dX11_init_48 : decode cX11_init 48 = .ok (.aload_n 0, 1) := by decide +kernel
theorem dX11_init_49 : decode cX11_init 49 = .ok (.new 37, 3) := by decide +kernel
theorem dX11_init_52 : decode cX11_init 52 = .ok (.dup, 1) := by decide +kernel
theorem dX11_init_53 : decode cX11_init 53 = .ok (.invokespecial 39, 3) := by decide +kernel
theorem dX11_init_56 : decode cX11_init 56 = .ok (.putfield 40, 3) := by decide +kernel
theorem dX11_init_59 : decode cX11_init 59 = .ok (.aload_n 0, 1) := by decide +kernel
theorem dX11_init_60 : decode cX11_init 60 = .ok (.new 44, 3) := by decide +kernel
theorem dX11_init_63 : decode cX11_init 63 = .ok (.dup, 1) := by decide +kernel
theorem dX11_init_64 : decode cX11_init 64 = .ok (.invokespecial 46, 3) := by decide +kernel
theorem dX11_init_67 : decode cX11_init 67 = .ok (.putfield 47, 3) := by decide +kernel
theorem dX11_init_70 : decode cX11_init 70 = .ok (.aload_n 0, 1) := by decide +kernel
theorem dX11_init_71 : decode cX11_init 71 = .ok (.new 51, 3) := by decide +kernel
theorem dX11_init_74 : decode cX11_init 74 = .ok (.dup, 1) := by decide +kernel
theorem dX11_init_75 : decode cX11_init 75 = .ok (.invokespecial 53, 3) := by decide +kernel
theorem dX11_init_78 : decode cX11_init 78 = .ok (.putfield 54, 3) := by decide +kernel
theorem dX11_init_81 : decode cX11_init 81 = .ok (.aload_n 0, 1) := by decide +kernel
theorem dX11_init_82 : decode cX11_init 82 = .ok (.bipush 16, 2) := by decide +kernel
theorem dX11_init_84 : decode cX11_init 84 = .ok (.anewarray 58, 3) := by decide +kernel
theorem dX11_init_87 : decode cX11_init 87 = .ok (.putfield 60, 3) := by decide +kernel
theorem dX11_init_90 : decode cX11_init 90 = .ok (.aload_n 0, 1) := by decide +kernel
theorem dX11_init_91 : decode cX11_init 91 = .ok (.iconst 4, 1) := by decide +kernel
theorem dX11_init_92 : decode cX11_init 92 = .ok (.anewarray 64, 3) := by decide +kernel
theorem dX11_init_95 : decode cX11_init 95 = .ok (.putfield 66, 3) := by decide +kernel
theorem dX11_init_98 : decode cX11_init 98 = .ok (.aload_n 0, 1) := by decide +kernel
theorem dX11_init_99 : decode cX11_init 99 = .ok (.iconst 3, 1) := by decide +kernel
theorem dX11_init_100 : decode cX11_init 100 = .ok (.newarray .int, 2) := by decide +kernel
theorem dX11_init_102 : decode cX11_init 102 = .ok (.putfield 70, 3) := by decide +kernel
theorem dX11_init_105 : decode cX11_init 105 = .ok (.aload_n 0, 1) := by decide +kernel
theorem dX11_init_106 : decode cX11_init 106 = .ok (.iconst 5, 1) := by decide +kernel
theorem dX11_init_107 : decode cX11_init 107 = .ok (.newarray .int, 2) := by decide +kernel
theorem dX11_init_109 : decode cX11_init 109 = .ok (.putfield 74, 3) := by decide +kernel
theorem dX11_init_112 : decode cX11_init 112 = .ok (.aload_n 0, 1) := by decide +kernel
theorem dX11_init_113 : decode cX11_init 113 = .ok (.bipush 100, 2) := by decide +kernel
theorem dX11_init_115 : decode cX11_init 115 = .ok (.newarray .int, 2) := by decide +kernel
theorem dX11_init_117 : decode cX11_init 117 = .ok (.putfield 77, 3) := by decide +kernel
theorem dX11_init_120 : decode cX11_init 120 = .ok (.aload_n 0, 1) := by decide +kernel
theorem dX11_init_121 : decode cX11_init 121 = .ok (.sipush 300, 3) := by decide +kernel
theorem dX11_init_124 : decode cX11_init 124 = .ok (.newarray .int, 2) := by decide +kernel
theorem dX11_init_126 : decode cX11_init 126 = .ok (.putfield 80, 3) := by decide +kernel
theorem dX11_init_129 : decode cX11_init 129 = .ok (.aload_n 0, 1) := by decide +kernel
theorem dX11_init_130 : decode cX11_init 130 = .ok (.bipush 10, 2) := by decide +kernel
theorem dX11_init_132 : decode cX11_init 132 = .ok (.newarray .int, 2) := by decide +kernel
theorem dX11_init_134 : decode cX11_init 134 = .ok (.putfield 83, 3) := by decide +kernel
theorem dX11_init_137 : decode cX11_init 137 = .ok (.aload_n 0, 1) := by decide +kernel
theorem dX11_init_138 : decode cX11_init 138 = .ok (.bipush 10, 2) := by decide +kernel
theorem dX11_init_140 : decode cX11_init 140 = .ok (.newarray .int, 2) := by decide +kernel
theorem dX11_init_142 : decode cX11_init 142 = .ok (.putfield 86, 3) := by decide +kernel
theorem dX11_init_145 : decode cX11_init 145 = .ok (.aload_n 0, 1) := by decide +kernel
theorem dX11_init_146 : decode cX11_init 146 = .ok (.bipush 12, 2) := by decide +kernel
theorem dX11_init_148 : decode cX11_init 148 = .ok (.newarray .int, 2) := by decide +kernel
theorem dX11_init_150 : decode cX11_init 150 = .ok (.putfield 89, 3) := by decide +kernel
theorem dX11_init_153 : decode cX11_init 153 = .ok (.aload_n 0, 1) := by decide +kernel
theorem dX11_init_154 : decode cX11_init 154 = .ok (.new 58, 3) := by decide +kernel
theorem dX11_init_157 : decode cX11_init 157 = .ok (.dup, 1) := by decide +kernel
theorem dX11_init_158 : decode cX11_init 158 = .ok (.invokespecial 92, 3) := by decide +kernel
theorem dX11_init_161 : decode cX11_init 161 = .ok (.putfield 93, 3) := by decide +kernel
theorem dX11_init_164 : decode cX11_init 164 = .ok (.aload_n 0, 1) := by decide +kernel
theorem dX11_init_165 : decode cX11_init 165 = .ok (.iconst 0, 1) := by decide +kernel
theorem dX11_init_166 : decode cX11_init 166 = .ok (.putfield 97, 3) := by decide +kernel
theorem dX11_init_169 : decode cX11_init 169 = .ok (.aload_n 0, 1) := by decide +kernel
theorem dX11_init_170 : decode cX11_init 170 = .ok (.iconst (-1), 1) := by decide +kernel
theorem dX11_init_171 : decode cX11_init 171 = .ok (.putfield 101, 3) := by decide +kernel
theorem dX11_init_174 : decode cX11_init 174 = .ok (.return_, 1) := by decide +kernel
theorem dX11_officer_0 : decode cX11_officer 0 = .ok (.aload_n 0, 1) := by decide +kernel
theorem dX11_officer_1 : decode cX11_officer 1 = .ok (.getfield 10, 3) := by decide +kernel
theorem dX11_officer_4 : decode cX11_officer 4 = .ok (.getfield 104, 3) := by decide +kernel
theorem dX11_officer_7 : decode cX11_officer 7 = .ok (.bipush 16, 2) := by decide +kernel
theorem dX11_officer_9 : decode cX11_officer 9 = .ok (.if_icmp .lt 10, 3) := by decide +kernel
theorem dX11_officer_12 : decode cX11_officer 12 = .ok (.aload_n 0, 1) := by decide +kernel
theorem dX11_officer_13 : decode cX11_officer 13 = .ok (.iconst 1, 1) := by decide +kernel
theorem dX11_officer_14 : decode cX11_officer 14 = .ok (.iconst (-1), 1) := by decide +kernel
theorem dX11_officer_15 : decode cX11_officer 15 = .ok (.invokevirtual 107, 3) := by decide +kernel
theorem dX11_officer_18 : decode cX11_officer 18 = .ok (.ireturn, 1) := by decide +kernel
theorem dX11_officer_19 : decode cX11_officer 19 = .ok (.aload_n 0, 1) := by decide +kernel
theorem dX11_officer_20 : decode cX11_officer 20 = .ok (.getfield 10, 3) := by decide +kernel
theorem dX11_officer_23 : decode cX11_officer 23 = .ok (.dup, 1) := by decide +kernel
theorem dX11_officer_24 : decode cX11_officer 24 = .ok (.getfield 104, 3) := by decide +kernel
theorem dX11_officer_27 : decode cX11_officer 27 = .ok (.iconst 1, 1) := by decide +kernel
theorem dX11_officer_28 : decode cX11_officer 28 = .ok (.iadd, 1) := by decide +kernel
theorem dX11_officer_29 : decode cX11_officer 29 = .ok (.putfield 104, 3) := by decide +kernel
theorem dX11_officer_32 : decode cX11_officer 32 = .ok (.aload_n 0, 1) := by decide +kernel
theorem dX11_officer_33 : decode cX11_officer 33 = .ok (.getfield 10, 3) := by decide +kernel
theorem dX11_officer_36 : decode cX11_officer 36 = .ok (.getfield 104, 3) := by decide +kernel
theorem dX11_officer_39 : decode cX11_officer 39 = .ok (.iconst 1, 1) := by decide +kernel
theorem dX11_officer_40 : decode cX11_officer 40 = .ok (.isub, 1) := by decide +kernel
theorem dX11_officer_41 : decode cX11_officer 41 = .ok (.ireturn, 1) := by decide +kernel
theorem dX11_ship_0 : decode cX11_ship 0 = .ok (.iload_n 1, 1) := by decide +kernel
theorem dX11_ship_1 : decode cX11_ship 1 = .ok (.iconst 3, 1) := by decide +kernel
theorem dX11_ship_2 : decode cX11_ship 2 = .ok (.invokestatic 111, 3) := by decide +kernel
theorem dX11_ship_5 : decode cX11_ship 5 = .ok (.ifCond .eq 14, 3) := by decide +kernel
theorem dX11_ship_8 : decode cX11_ship 8 = .ok (.aload_n 0, 1) := by decide +kernel
theorem dX11_ship_9 : decode cX11_ship 9 = .ok (.getfield 10, 3) := by decide +kernel
theorem dX11_ship_12 : decode cX11_ship 12 = .ok (.iload_n 2, 1) := by decide +kernel
theorem dX11_ship_13 : decode cX11_ship 13 = .ok (.invokevirtual 115, 3) := by decide +kernel
theorem dX11_ship_16 : decode cX11_ship 16 = .ok (.ifCond .ne 10, 3) := by decide +kernel
theorem dX11_ship_19 : decode cX11_ship 19 = .ok (.aload_n 0, 1) := by decide +kernel
theorem dX11_ship_20 : decode cX11_ship 20 = .ok (.iconst 0, 1) := by decide +kernel
theorem dX11_ship_21 : decode cX11_ship 21 = .ok (.iconst (-1), 1) := by decide +kernel
theorem dX11_ship_22 : decode cX11_ship 22 = .ok (.invokevirtual 107, 3) := by decide +kernel
theorem dX11_ship_25 : decode cX11_ship 25 = .ok (.ireturn, 1) := by decide +kernel
theorem dX11_ship_26 : decode cX11_ship 26 = .ok (.aload_n 0, 1) := by decide +kernel
theorem dX11_ship_27 : decode cX11_ship 27 = .ok (.getfield 10, 3) := by decide +kernel
theorem dX11_ship_30 : decode cX11_ship 30 = .ok (.getfield 119, 3) := by decide +kernel
theorem dX11_ship_33 : decode cX11_ship 33 = .ok (.bipush 12, 2) := by decide +kernel
theorem dX11_ship_35 : decode cX11_ship 35 = .ok (.if_icmp .lt 10, 3) := by decide +kernel
theorem dX11_ship_38 : decode cX11_ship 38 = .ok (.aload_n 0, 1) := by decide +kernel
theorem dX11_ship_39 : decode cX11_ship 39 = .ok (.iconst 1, 1) := by decide +kernel
theorem dX11_ship_40 : decode cX11_ship 40 = .ok (.iconst (-1), 1) := by decide +kernel
theorem dX11_ship_41 : decode cX11_ship 41 = .ok (.invokevirtual 107, 3) := by decide +kernel
theorem dX11_ship_44 : decode cX11_ship 44 = .ok (.ireturn, 1) := by decide +kernel
theorem dX11_ship_45 : decode cX11_ship 45 = .ok (.aload_n 0, 1) := by decide +kernel
theorem dX11_ship_46 : decode cX11_ship 46 = .ok (.getfield 10, 3) := by decide +kernel
theorem dX11_ship_49 : decode cX11_ship 49 = .ok (.iload_n 1, 1) := by decide +kernel
theorem dX11_ship_50 : decode cX11_ship 50 = .ok (.iload_n 2, 1) := by decide +kernel
theorem dX11_ship_51 : decode cX11_ship 51 = .ok (.invokevirtual 122, 3) := by decide +kernel
theorem dX11_ship_54 : decode cX11_ship 54 = .ok (.ireturn, 1) := by decide +kernel
theorem dX11_signs_0 : decode cX11_signs 0 = .ok (.aload_n 0, 1) := by decide +kernel
theorem dX11_signs_1 : decode cX11_signs 1 = .ok (.getfield 10, 3) := by decide +kernel
theorem dX11_signs_4 : decode cX11_signs 4 = .ok (.iload_n 1, 1) := by decide +kernel
theorem dX11_signs_5 : decode cX11_signs 5 = .ok (.invokevirtual 125, 3) := by decide +kernel
theorem dX11_signs_8 : decode cX11_signs 8 = .ok (.astore 4, 2) := by decide +kernel
theorem dX11_signs_10 : decode cX11_signs 10 = .ok (.aload 4, 2) := by decide +kernel
theorem dX11_signs_12 : decode cX11_signs 12 = .ok (.ifnull 30, 3) := by decide +kernel
theorem dX11_signs_15 : decode cX11_signs 15 = .ok (.aload_n 0, 1) := by decide +kernel
theorem dX11_signs_16 : decode cX11_signs 16 = .ok (.getfield 10, 3) := by decide +kernel
theorem dX11_signs_19 : decode cX11_signs 19 = .ok (.iload_n 2, 1) := by decide +kernel
theorem dX11_signs_20 : decode cX11_signs 20 = .ok (.invokevirtual 115, 3) := by decide +kernel
theorem dX11_signs_23 : decode cX11_signs 23 = .ok (.ifCond .eq 19, 3) := by decide +kernel
theorem dX11_signs_26 : decode cX11_signs 26 = .ok (.iload_n 3, 1) := by decide +kernel
theorem dX11_signs_27 : decode cX11_signs 27 = .ok (.aload 4, 2) := by decide +kernel
theorem dX11_signs_29 : decode cX11_signs 29 = .ok (.getfield 129, 3) := by decide +kernel
theorem dX11_signs_32 : decode cX11_signs 32 = .ok (.if_icmp .le 10, 3) := by decide +kernel
theorem dX11_signs_35 : decode cX11_signs 35 = .ok (.iload_n 3, 1) := by decide +kernel
theorem dX11_signs_36 : decode cX11_signs 36 = .ok (.sipush 999, 3) := by decide +kernel
theorem dX11_signs_39 : decode cX11_signs 39 = .ok (.if_icmp .le 10, 3) := by decide +kernel
theorem dX11_signs_42 : decode cX11_signs 42 = .ok (.aload_n 0, 1) := by decide +kernel
theorem dX11_signs_43 : decode cX11_signs 43 = .ok (.iconst 0, 1) := by decide +kernel
theorem dX11_signs_44 : decode cX11_signs 44 = .ok (.iconst (-1), 1) := by decide +kernel
theorem dX11_signs_45 : decode cX11_signs 45 = .ok (.invokevirtual 107, 3) := by decide +kernel
theorem dX11_signs_48 : decode cX11_signs 48 = .ok (.ireturn, 1) := by decide +kernel
theorem dX11_signs_49 : decode cX11_signs 49 = .ok (.aload_n 0, 1) := by decide +kernel
theorem dX11_signs_50 : decode cX11_signs 50 = .ok (.getfield 10, 3) := by decide +kernel
theorem dX11_signs_53 : decode cX11_signs 53 = .ok (.getfield 134, 3) := by decide +kernel
theorem dX11_signs_56 : decode cX11_signs 56 = .ok (.bipush 60, 2) := by decide +kernel
theorem dX11_signs_58 : decode cX11_signs 58 = .ok (.if_icmp .lt 10, 3) := by decide +kernel
theorem dX11_signs_61 : decode cX11_signs 61 = .ok (.aload_n 0, 1) := by decide +kernel
theorem dX11_signs_62 : decode cX11_signs 62 = .ok (.iconst 1, 1) := by decide +kernel
theorem dX11_signs_63 : decode cX11_signs 63 = .ok (.iconst (-1), 1) := by decide +kernel
theorem dX11_signs_64 : decode cX11_signs 64 = .ok (.invokevirtual 107, 3) := by decide +kernel
theorem dX11_signs_67 : decode cX11_signs 67 = .ok (.ireturn, 1) := by decide +kernel
theorem dX11_signs_68 : decode cX11_signs 68 = .ok (.aload 4, 2) := by decide +kernel
theorem dX11_signs_70 : decode cX11_signs 70 = .ok (.iload_n 3, 1) := by decide +kernel
theorem dX11_signs_71 : decode cX11_signs 71 = .ok (.iload_n 2, 1) := by decide +kernel
theorem dX11_signs_72 : decode cX11_signs 72 = .ok (.invokevirtual 137, 3) := by decide +kernel
theorem dX11_signs_75 : decode cX11_signs 75 = .ok (.aload_n 0, 1) := by decide +kernel
theorem dX11_signs_76 : decode cX11_signs 76 = .ok (.getfield 10, 3) := by decide +kernel
theorem dX11_signs_79 : decode cX11_signs 79 = .ok (.dup, 1) := by decide +kernel
theorem dX11_signs_80 : decode cX11_signs 80 = .ok (.getfield 134, 3) := by decide +kernel
theorem dX11_signs_83 : decode cX11_signs 83 = .ok (.iconst 1, 1) := by decide +kernel
theorem dX11_signs_84 : decode cX11_signs 84 = .ok (.iadd, 1) := by decide +kernel
theorem dX11_signs_85 : decode cX11_signs 85 = .ok (.putfield 134, 3) := by decide +kernel
theorem dX11_signs_88 : decode cX11_signs 88 = .ok (.aload_n 0, 1) := by decide +kernel
theorem dX11_signs_89 : decode cX11_signs 89 = .ok (.getfield 10, 3) := by decide +kernel
theorem dX11_signs_92 : decode cX11_signs 92 = .ok (.getfield 134, 3) := by decide +kernel
theorem dX11_signs_95 : decode cX11_signs 95 = .ok (.ireturn, 1) := by decide +kernel
theorem dX11_trust_0 : decode cX11_trust 0 = .ok (.aload_n 0, 1) := by decide +kernel
theorem dX11_trust_1 : decode cX11_trust 1 = .ok (.getfield 10, 3) := by decide +kernel
theorem dX11_trust_4 : decode cX11_trust 4 = .ok (.iload_n 1, 1) := by decide +kernel
theorem dX11_trust_5 : decode cX11_trust 5 = .ok (.invokevirtual 115, 3) := by decide +kernel
theorem dX11_trust_8 : decode cX11_trust 8 = .ok (.ifCond .ne 12, 3) := by decide +kernel
theorem dX11_trust_11 : decode cX11_trust 11 = .ok (.aload_n 0, 1) := by decide +kernel
theorem dX11_trust_12 : decode cX11_trust 12 = .ok (.iconst 0, 1) := by decide +kernel
theorem dX11_trust_13 : decode cX11_trust 13 = .ok (.iconst (-1), 1) := by decide +kernel
theorem dX11_trust_14 : decode cX11_trust 14 = .ok (.invokevirtual 107, 3) := by decide +kernel
theorem dX11_trust_17 : decode cX11_trust 17 = .ok (.pop, 1) := by decide +kernel
theorem dX11_trust_18 : decode cX11_trust 18 = .ok (.iconst 0, 1) := by decide +kernel
theorem dX11_trust_19 : decode cX11_trust 19 = .ok (.ireturn, 1) := by decide +kernel
theorem dX11_trust_20 : decode cX11_trust 20 = .ok (.aload_n 0, 1) := by decide +kernel
theorem dX11_trust_21 : decode cX11_trust 21 = .ok (.getfield 10, 3) := by decide +kernel
theorem dX11_trust_24 : decode cX11_trust 24 = .ok (.iload_n 1, 1) := by decide +kernel
theorem dX11_trust_25 : decode cX11_trust 25 = .ok (.iload_n 2, 1) := by decide +kernel
theorem dX11_trust_26 : decode cX11_trust 26 = .ok (.invokevirtual 141, 3) := by decide +kernel
theorem dX11_trust_29 : decode cX11_trust 29 = .ok (.iconst 1, 1) := by decide +kernel
theorem dX11_trust_30 : decode cX11_trust 30 = .ok (.ireturn, 1) := by decide +kernel
theorem dX11_set_0 : decode cX11_set 0 = .ok (.iload_n 1, 1) := by decide +kernel
theorem dX11_set_1 : decode cX11_set 1 = .ok (.bipush 7, 2) := by decide +kernel
theorem dX11_set_3 : decode cX11_set 3 = .ok (.invokestatic 111, 3) := by decide +kernel
theorem dX11_set_6 : decode cX11_set 6 = .ok (.ifCond .eq 11, 3) := by decide +kernel
theorem dX11_set_9 : decode cX11_set 9 = .ok (.iload_n 2, 1) := by decide +kernel
theorem dX11_set_10 : decode cX11_set 10 = .ok (.iconst 5, 1) := by decide +kernel
theorem dX11_set_11 : decode cX11_set 11 = .ok (.invokestatic 111, 3) := by decide +kernel
theorem dX11_set_14 : decode cX11_set 14 = .ok (.ifCond .ne 12, 3) := by decide +kernel
theorem dX11_set_17 : decode cX11_set 17 = .ok (.aload_n 0, 1) := by decide +kernel
theorem dX11_set_18 : decode cX11_set 18 = .ok (.iconst 0, 1) := by decide +kernel
theorem dX11_set_19 : decode cX11_set 19 = .ok (.iconst (-1), 1) := by decide +kernel
theorem dX11_set_20 : decode cX11_set 20 = .ok (.invokevirtual 107, 3) := by decide +kernel
theorem dX11_set_23 : decode cX11_set 23 = .ok (.pop, 1) := by decide +kernel
theorem dX11_set_24 : decode cX11_set 24 = .ok (.iconst 0, 1) := by decide +kernel
theorem dX11_set_25 : decode cX11_set 25 = .ok (.ireturn, 1) := by decide +kernel
theorem dX11_set_26 : decode cX11_set 26 = .ok (.aload_n 0, 1) := by decide +kernel
theorem dX11_set_27 : decode cX11_set 27 = .ok (.getfield 10, 3) := by decide +kernel
theorem dX11_set_30 : decode cX11_set 30 = .ok (.iload_n 1, 1) := by decide +kernel
theorem dX11_set_31 : decode cX11_set 31 = .ok (.putfield 145, 3) := by decide +kernel
theorem dX11_set_34 : decode cX11_set 34 = .ok (.aload_n 0, 1) := by decide +kernel
theorem dX11_set_35 : decode cX11_set 35 = .ok (.getfield 10, 3) := by decide +kernel
theorem dX11_set_38 : decode cX11_set 38 = .ok (.iload_n 2, 1) := by decide +kernel
theorem dX11_set_39 : decode cX11_set 39 = .ok (.putfield 148, 3) := by decide +kernel
theorem dX11_set_42 : decode cX11_set 42 = .ok (.iconst 1, 1) := by decide +kernel
theorem dX11_set_43 : decode cX11_set 43 = .ok (.ireturn, 1) := by decide +kernel
theorem dX11_read_0 : decode cX11_read 0 = .ok (.aload_n 0, 1) := by decide +kernel
theorem dX11_read_1 : decode cX11_read 1 = .ok (.getfield 10, 3) := by decide +kernel
theorem dX11_read_4 : decode cX11_read 4 = .ok (.iload_n 1, 1) := by decide +kernel
theorem dX11_read_5 : decode cX11_read 5 = .ok (.invokevirtual 125, 3) := by decide +kernel
theorem dX11_read_8 : decode cX11_read 8 = .ok (.astore 6, 2) := by decide +kernel
theorem dX11_read_10 : decode cX11_read 10 = .ok (.aload 6, 2) := by decide +kernel
theorem dX11_read_12 : decode cX11_read 12 = .ok (.ifnull 62, 3) := by decide +kernel
theorem dX11_read_15 : decode cX11_read 15 = .ok (.iload_n 2, 1) := by decide +kernel
theorem dX11_read_16 : decode cX11_read 16 = .ok (.sipush 999, 3) := by decide +kernel
theorem dX11_read_19 : decode cX11_read 19 = .ok (.invokestatic 111, 3) := by decide +kernel
theorem dX11_read_22 : decode cX11_read 22 = .ok (.ifCond .eq 52, 3) := by decide +kernel
theorem dX11_read_25 : decode cX11_read 25 = .ok (.iload_n 3, 1) := by decide +kernel
theorem dX11_read_26 : decode cX11_read 26 = .ok (.sipush 6399, 3) := by decide +kernel
theorem dX11_read_29 : decode cX11_read 29 = .ok (.invokestatic 111, 3) := by decide +kernel
theorem dX11_read_32 : decode cX11_read 32 = .ok (.ifCond .eq 42, 3) := by decide +kernel
theorem dX11_read_35 : decode cX11_read 35 = .ok (.iload 4, 2) := by decide +kernel
theorem dX11_read_37 : decode cX11_read 37 = .ok (.iconst 3, 1) := by decide +kernel
theorem dX11_read_38 : decode cX11_read 38 = .ok (.invokestatic 111, 3) := by decide +kernel
theorem dX11_read_41 : decode cX11_read 41 = .ok (.ifCond .eq 33, 3) := by decide +kernel
theorem dX11_read_44 : decode cX11_read 44 = .ok (.iload 5, 2) := by decide +kernel
theorem dX11_read_46 : decode cX11_read 46 = .ok (.iload 4, 2) := by decide +kernel
theorem dX11_read_48 : decode cX11_read 48 = .ok (.iconst 3, 1) := by decide +kernel
theorem dX11_read_49 : decode cX11_read 49 = .ok (.if_icmp .ne 8, 3) := by decide +kernel
theorem dX11_read_52 : decode cX11_read 52 = .ok (.bipush 99, 2) := by decide +kernel
theorem dX11_read_54 : decode cX11_read 54 = .ok (.goto 5, 3) := by decide +kernel
theorem dX11_read_57 : decode cX11_read 57 = .ok (.bipush 12, 2) := by decide +kernel
theorem dX11_read_59 : decode cX11_read 59 = .ok (.invokestatic 111, 3) := by decide +kernel
theorem dX11_read_62 : decode cX11_read 62 = .ok (.ifCond .eq 12, 3) := by decide +kernel
theorem dX11_read_65 : decode cX11_read 65 = .ok (.aload 6, 2) := by decide +kernel
theorem dX11_read_67 : decode cX11_read 67 = .ok (.iload_n 2, 1) := by decide +kernel
theorem dX11_read_68 : decode cX11_read 68 = .ok (.invokevirtual 151, 3) := by decide +kernel
theorem dX11_read_71 : decode cX11_read 71 = .ok (.ifnull 10, 3) := by decide +kernel
theorem dX11_read_74 : decode cX11_read 74 = .ok (.aload_n 0, 1) := by decide +kernel
theorem dX11_read_75 : decode cX11_read 75 = .ok (.iconst 0, 1) := by decide +kernel
theorem dX11_read_76 : decode cX11_read 76 = .ok (.iconst (-1), 1) := by decide +kernel
theorem dX11_read_77 : decode cX11_read 77 = .ok (.invokevirtual 107, 3) := by decide +kernel
theorem dX11_read_80 : decode cX11_read 80 = .ok (.ireturn, 1) := by decide +kernel
theorem dX11_read_81 : decode cX11_read 81 = .ok (.aload_n 0, 1) := by decide +kernel
theorem dX11_read_82 : decode cX11_read 82 = .ok (.getfield 10, 3) := by decide +kernel
theorem dX11_read_85 : decode cX11_read 85 = .ok (.getfield 155, 3) := by decide +kernel
theorem dX11_read_88 : decode cX11_read 88 = .ok (.sipush 300, 3) := by decide +kernel
theorem dX11_read_91 : decode cX11_read 91 = .ok (.if_icmp .lt 10, 3) := by decide +kernel
theorem dX11_read_94 : decode cX11_read 94 = .ok (.aload_n 0, 1) := by decide +kernel
theorem dX11_read_95 : decode cX11_read 95 = .ok (.iconst 1, 1) := by decide +kernel
theorem dX11_read_96 : decode cX11_read 96 = .ok (.iconst (-1), 1) := by decide +kernel
theorem dX11_read_97 : decode cX11_read 97 = .ok (.invokevirtual 107, 3) := by decide +kernel
theorem dX11_read_100 : decode cX11_read 100 = .ok (.ireturn, 1) := by decide +kernel
theorem dX11_read_101 : decode cX11_read 101 = .ok (.aload_n 0, 1) := by decide +kernel
theorem dX11_read_102 : decode cX11_read 102 = .ok (.getfield 10, 3) := by decide +kernel
theorem dX11_read_105 : decode cX11_read 105 = .ok (.new 158, 3) := by decide +kernel
theorem dX11_read_108 : decode cX11_read 108 = .ok (.dup, 1) := by decide +kernel
theorem dX11_read_109 : decode cX11_read 109 = .ok (.aload 6, 2) := by decide +kernel
theorem dX11_read_111 : decode cX11_read 111 = .ok (.iload_n 2, 1) := by decide +kernel
theorem dX11_read_112 : decode cX11_read 112 = .ok (.iload_n 3, 1) := by decide +kernel
theorem dX11_read_113 : decode cX11_read 113 = .ok (.iload 4, 2) := by decide +kernel
theorem dX11_read_115 : decode cX11_read 115 = .ok (.iload 5, 2) := by decide +kernel
theorem dX11_read_117 : decode cX11_read 117 = .ok (.invokespecial 160, 3) := by decide +kernel
theorem dX11_read_120 : decode cX11_read 120 = .ok (.invokevirtual 163, 3) := by decide +kernel
theorem dX11_read_123 : decode cX11_read 123 = .ok (.ireturn, 1) := by decide +kernel
theorem dX11_feed_0 : decode cX11_feed 0 = .ok (.aload_n 0, 1) := by decide +kernel
theorem dX11_feed_1 : decode cX11_feed 1 = .ok (.getfield 47, 3) := by decide +kernel
theorem dX11_feed_4 : decode cX11_feed 4 = .ok (.getfield 167, 3) := by decide +kernel
theorem dX11_feed_7 : decode cX11_feed 7 = .ok (.bipush 20, 2) := by decide +kernel
theorem dX11_feed_9 : decode cX11_feed 9 = .ok (.iadd, 1) := by decide +kernel
theorem dX11_feed_10 : decode cX11_feed 10 = .ok (.sipush 900, 3) := by decide +kernel
theorem dX11_feed_13 : decode cX11_feed 13 = .ok (.if_icmp .le 5, 3) := by decide +kernel
theorem dX11_feed_16 : decode cX11_feed 16 = .ok (.iconst (-1), 1) := by decide +kernel
theorem dX11_feed_17 : decode cX11_feed 17 = .ok (.ireturn, 1) := by decide +kernel
theorem dX11_feed_18 : decode cX11_feed 18 = .ok (.aload_n 0, 1) := by decide +kernel
theorem dX11_feed_19 : decode cX11_feed 19 = .ok (.getfield 47, 3) := by decide +kernel
theorem dX11_feed_22 : decode cX11_feed 22 = .ok (.iload_n 1, 1) := by decide +kernel
theorem dX11_feed_23 : decode cX11_feed 23 = .ok (.invokevirtual 170, 3) := by decide +kernel
theorem dX11_feed_26 : decode cX11_feed 26 = .ok (.aload_n 0, 1) := by decide +kernel
theorem dX11_feed_27 : decode cX11_feed 27 = .ok (.getfield 47, 3) := by decide +kernel
theorem dX11_feed_30 : decode cX11_feed 30 = .ok (.iload_n 2, 1) := by decide +kernel
theorem dX11_feed_31 : decode cX11_feed 31 = .ok (.invokevirtual 170, 3) := by decide +kernel
theorem dX11_feed_34 : decode cX11_feed 34 = .ok (.aload_n 0, 1) := by decide +kernel
theorem dX11_feed_35 : decode cX11_feed 35 = .ok (.getfield 47, 3) := by decide +kernel
theorem dX11_feed_38 : decode cX11_feed 38 = .ok (.iload_n 3, 1) := by decide +kernel
theorem dX11_feed_39 : decode cX11_feed 39 = .ok (.invokevirtual 170, 3) := by decide +kernel
theorem dX11_feed_42 : decode cX11_feed 42 = .ok (.aload_n 0, 1) := by decide +kernel
theorem dX11_feed_43 : decode cX11_feed 43 = .ok (.getfield 47, 3) := by decide +kernel
theorem dX11_feed_46 : decode cX11_feed 46 = .ok (.iload 4, 2) := by decide +kernel
theorem dX11_feed_48 : decode cX11_feed 48 = .ok (.invokevirtual 170, 3) := by decide +kernel
theorem dX11_feed_51 : decode cX11_feed 51 = .ok (.aload_n 0, 1) := by decide +kernel
theorem dX11_feed_52 : decode cX11_feed 52 = .ok (.getfield 47, 3) := by decide +kernel
theorem dX11_feed_55 : decode cX11_feed 55 = .ok (.iload 5, 2) := by decide +kernel
theorem dX11_feed_57 : decode cX11_feed 57 = .ok (.invokevirtual 170, 3) := by decide +kernel
theorem dX11_feed_60 : decode cX11_feed 60 = .ok (.aload_n 0, 1) := by decide +kernel
theorem dX11_feed_61 : decode cX11_feed 61 = .ok (.getfield 47, 3) := by decide +kernel
theorem dX11_feed_64 : decode cX11_feed 64 = .ok (.getfield 167, 3) := by decide +kernel
theorem dX11_feed_67 : decode cX11_feed 67 = .ok (.ireturn, 1) := by decide +kernel
theorem dX11_scale_0 : decode cX11_scale 0 = .ok (.iload_n 1, 1) := by decide +kernel
theorem dX11_scale_1 : decode cX11_scale 1 = .ok (.aload_n 0, 1) := by decide +kernel
theorem dX11_scale_2 : decode cX11_scale 2 = .ok (.getfield 47, 3) := by decide +kernel
theorem dX11_scale_5 : decode cX11_scale 5 = .ok (.getfield 167, 3) := by decide +kernel
theorem dX11_scale_8 : decode cX11_scale 8 = .ok (.invokestatic 111, 3) := by decide +kernel
theorem dX11_scale_11 : decode cX11_scale 11 = .ok (.ifCond .eq 12, 3) := by decide +kernel
theorem dX11_scale_14 : decode cX11_scale 14 = .ok (.iload_n 2, 1) := by decide +kernel
theorem dX11_scale_15 : decode cX11_scale 15 = .ok (.bipush 9, 2) := by decide +kernel
theorem dX11_scale_17 : decode cX11_scale 17 = .ok (.invokestatic 111, 3) := by decide +kernel
theorem dX11_scale_20 : decode cX11_scale 20 = .ok (.ifCond .ne 11, 3) := by decide +kernel
theorem dX11_scale_23 : decode cX11_scale 23 = .ok (.aload_n 0, 1) := by decide +kernel
theorem dX11_scale_24 : decode cX11_scale 24 = .ok (.iconst 0, 1) := by decide +kernel
theorem dX11_scale_25 : decode cX11_scale 25 = .ok (.bipush (-2), 2) := by decide +kernel
theorem dX11_scale_27 : decode cX11_scale 27 = .ok (.invokevirtual 107, 3) := by decide +kernel
theorem dX11_scale_30 : decode cX11_scale 30 = .ok (.ireturn, 1) := by decide +kernel
theorem dX11_scale_31 : decode cX11_scale 31 = .ok (.aload_n 0, 1) := by decide +kernel
theorem dX11_scale_32 : decode cX11_scale 32 = .ok (.getfield 19, 3) := by decide +kernel
theorem dX11_scale_35 : decode cX11_scale 35 = .ok (.getfield 174, 3) := by decide +kernel
theorem dX11_scale_38 : decode cX11_scale 38 = .ok (.bipush 8, 2) := by decide +kernel
theorem dX11_scale_40 : decode cX11_scale 40 = .ok (.if_icmp .lt 11, 3) := by decide +kernel
theorem dX11_scale_43 : decode cX11_scale 43 = .ok (.aload_n 0, 1) := by decide +kernel
theorem dX11_scale_44 : decode cX11_scale 44 = .ok (.iconst 1, 1) := by decide +kernel
theorem dX11_scale_45 : decode cX11_scale 45 = .ok (.bipush (-3), 2) := by decide +kernel
theorem dX11_scale_47 : decode cX11_scale 47 = .ok (.invokevirtual 107, 3) := by decide +kernel
theorem dX11_scale_50 : decode cX11_scale 50 = .ok (.ireturn, 1) := by decide +kernel
theorem dX11_scale_51 : decode cX11_scale 51 = .ok (.aload_n 0, 1) := by decide +kernel
theorem dX11_scale_52 : decode cX11_scale 52 = .ok (.iload_n 1, 1) := by decide +kernel
theorem dX11_scale_53 : decode cX11_scale 53 = .ok (.iconst 1, 1) := by decide +kernel
theorem dX11_scale_54 : decode cX11_scale 54 = .ok (.invokevirtual 177, 3) := by decide +kernel
theorem dX11_scale_57 : decode cX11_scale 57 = .ok (.ifCond .ne 10, 3) := by decide +kernel
theorem dX11_scale_60 : decode cX11_scale 60 = .ok (.aload_n 0, 1) := by decide +kernel
theorem dX11_scale_61 : decode cX11_scale 61 = .ok (.iconst 2, 1) := by decide +kernel
theorem dX11_scale_62 : decode cX11_scale 62 = .ok (.iconst (-1), 1) := by decide +kernel
theorem dX11_scale_63 : decode cX11_scale 63 = .ok (.invokevirtual 107, 3) := by decide +kernel
theorem dX11_scale_66 : decode cX11_scale 66 = .ok (.ireturn, 1) := by decide +kernel
theorem dX11_scale_67 : decode cX11_scale 67 = .ok (.aload_n 0, 1) := by decide +kernel
theorem dX11_scale_68 : decode cX11_scale 68 = .ok (.getfield 19, 3) := by decide +kernel
theorem dX11_scale_71 : decode cX11_scale 71 = .ok (.aload_n 0, 1) := by decide +kernel
theorem dX11_scale_72 : decode cX11_scale 72 = .ok (.getfield 93, 3) := by decide +kernel
theorem dX11_scale_75 : decode cX11_scale 75 = .ok (.iload_n 2, 1) := by decide +kernel
theorem dX11_scale_76 : decode cX11_scale 76 = .ok (.invokevirtual 181, 3) := by decide +kernel
theorem dX11_scale_79 : decode cX11_scale 79 = .ok (.istore_n 3, 1) := by decide +kernel
theorem dX11_scale_80 : decode cX11_scale 80 = .ok (.aload_n 0, 1) := by decide +kernel
theorem dX11_scale_81 : decode cX11_scale 81 = .ok (.new 58, 3) := by decide +kernel
theorem dX11_scale_84 : decode cX11_scale 84 = .ok (.dup, 1) := by decide +kernel
theorem dX11_scale_85 : decode cX11_scale 85 = .ok (.invokespecial 92, 3) := by decide +kernel
theorem dX11_scale_88 : decode cX11_scale 88 = .ok (.putfield 93, 3) := by decide +kernel
theorem dX11_scale_91 : decode cX11_scale 91 = .ok (.iload_n 3, 1) := by decide +kernel
theorem dX11_scale_92 : decode cX11_scale 92 = .ok (.ireturn, 1) := by decide +kernel
theorem dX11_habits_0 : decode cX11_habits 0 = .ok (.aload_n 0, 1) := by decide +kernel
theorem dX11_habits_1 : decode cX11_habits 1 = .ok (.getfield 10, 3) := by decide +kernel
theorem dX11_habits_4 : decode cX11_habits 4 = .ok (.iload_n 1, 1) := by decide +kernel
theorem dX11_habits_5 : decode cX11_habits 5 = .ok (.invokevirtual 115, 3) := by decide +kernel
theorem dX11_habits_8 : decode cX11_habits 8 = .ok (.ifCond .eq 17, 3) := by decide +kernel
theorem dX11_habits_11 : decode cX11_habits 11 = .ok (.iload_n 2, 1) := by decide +kernel
theorem dX11_habits_12 : decode cX11_habits 12 = .ok (.aload_n 0, 1) := by decide +kernel
theorem dX11_habits_13 : decode cX11_habits 13 = .ok (.getfield 47, 3) := by decide +kernel
theorem dX11_habits_16 : decode cX11_habits 16 = .ok (.getfield 167, 3) := by decide +kernel
theorem dX11_habits_19 : decode cX11_habits 19 = .ok (.invokestatic 111, 3) := by decide +kernel
theorem dX11_habits_22 : decode cX11_habits 22 = .ok (.ifCond .ne 11, 3) := by decide +kernel
theorem dX11_habits_25 : decode cX11_habits 25 = .ok (.aload_n 0, 1) := by decide +kernel
theorem dX11_habits_26 : decode cX11_habits 26 = .ok (.iconst 0, 1) := by decide +kernel
theorem dX11_habits_27 : decode cX11_habits 27 = .ok (.bipush (-2), 2) := by decide +kernel
theorem dX11_habits_29 : decode cX11_habits 29 = .ok (.invokevirtual 107, 3) := by decide +kernel
theorem dX11_habits_32 : decode cX11_habits 32 = .ok (.ireturn, 1) := by decide +kernel
theorem dX11_habits_33 : decode cX11_habits 33 = .ok (.aload_n 0, 1) := by decide +kernel
theorem dX11_habits_34 : decode cX11_habits 34 = .ok (.iload_n 2, 1) := by decide +kernel
theorem dX11_habits_35 : decode cX11_habits 35 = .ok (.iconst 0, 1) := by decide +kernel
theorem dX11_habits_36 : decode cX11_habits 36 = .ok (.invokevirtual 177, 3) := by decide +kernel
theorem dX11_habits_39 : decode cX11_habits 39 = .ok (.ifCond .ne 10, 3) := by decide +kernel
theorem dX11_habits_42 : decode cX11_habits 42 = .ok (.aload_n 0, 1) := by decide +kernel
theorem dX11_habits_43 : decode cX11_habits 43 = .ok (.iconst 2, 1) := by decide +kernel
theorem dX11_habits_44 : decode cX11_habits 44 = .ok (.iconst (-1), 1) := by decide +kernel
theorem dX11_habits_45 : decode cX11_habits 45 = .ok (.invokevirtual 107, 3) := by decide +kernel
theorem dX11_habits_48 : decode cX11_habits 48 = .ok (.ireturn, 1) := by decide +kernel
theorem dX11_habits_49 : decode cX11_habits 49 = .ok (.aload_n 0, 1) := by decide +kernel
theorem dX11_habits_50 : decode cX11_habits 50 = .ok (.getfield 60, 3) := by decide +kernel
theorem dX11_habits_53 : decode cX11_habits 53 = .ok (.iload_n 1, 1) := by decide +kernel
theorem dX11_habits_54 : decode cX11_habits 54 = .ok (.aaload, 1) := by decide +kernel
theorem dX11_habits_55 : decode cX11_habits 55 = .ok (.astore_n 3, 1) := by decide +kernel
theorem dX11_habits_56 : decode cX11_habits 56 = .ok (.aload_n 0, 1) := by decide +kernel
theorem dX11_habits_57 : decode cX11_habits 57 = .ok (.getfield 60, 3) := by decide +kernel
theorem dX11_habits_60 : decode cX11_habits 60 = .ok (.iload_n 1, 1) := by decide +kernel
theorem dX11_habits_61 : decode cX11_habits 61 = .ok (.aload_n 0, 1) := by decide +kernel
theorem dX11_habits_62 : decode cX11_habits 62 = .ok (.getfield 93, 3) := by decide +kernel
theorem dX11_habits_65 : decode cX11_habits 65 = .ok (.aastore, 1) := by decide +kernel
theorem dX11_habits_66 : decode cX11_habits 66 = .ok (.aload_n 0, 1) := by decide +kernel
theorem dX11_habits_67 : decode cX11_habits 67 = .ok (.getfield 93, 3) := by decide +kernel
theorem dX11_habits_70 : decode cX11_habits 70 = .ok (.getfield 184, 3) := by decide +kernel
theorem dX11_habits_73 : decode cX11_habits 73 = .ok (.istore 4, 2) := by decide +kernel
theorem dX11_habits_75 : decode cX11_habits 75 = .ok (.aload_n 0, 1) := by decide +kernel
theorem dX11_habits_76 : decode cX11_habits 76 = .ok (.aload_n 3, 1) := by decide +kernel
theorem dX11_habits_77 : decode cX11_habits 77 = .ok (.ifnonnull 13, 3) := by decide +kernel
theorem dX11_habits_80 : decode cX11_habits 80 = .ok (.new 58, 3) := by decide +kernel
theorem dX11_habits_83 : decode cX11_habits 83 = .ok (.dup, 1) := by decide +kernel
theorem dX11_habits_84 : decode cX11_habits 84 = .ok (.invokespecial 92, 3) := by decide +kernel
theorem dX11_habits_87 : decode cX11_habits 87 = .ok (.goto 4, 3) := by decide +kernel
theorem dX11_habits_90 : decode cX11_habits 90 = .ok (.aload_n 3, 1) := by decide +kernel
theorem dX11_habits_91 : decode cX11_habits 91 = .ok (.putfield 93, 3) := by decide +kernel
theorem dX11_habits_94 : decode cX11_habits 94 = .ok (.iload 4, 2) := by decide +kernel
theorem dX11_habits_96 : decode cX11_habits 96 = .ok (.ireturn, 1) := by decide +kernel
theorem dX11_fault_0 : decode cX11_fault 0 = .ok (.aload_n 0, 1) := by decide +kernel
theorem dX11_fault_1 : decode cX11_fault 1 = .ok (.getfield 101, 3) := by decide +kernel
theorem dX11_fault_4 : decode cX11_fault 4 = .ok (.ireturn, 1) := by decide +kernel
theorem dX11_reading_0 : decode cX11_reading 0 = .ok (.aload_n 0, 1) := by decide +kernel
theorem dX11_reading_1 : decode cX11_reading 1 = .ok (.getfield 10, 3) := by decide +kernel
theorem dX11_reading_4 : decode cX11_reading 4 = .ok (.iload_n 1, 1) := by decide +kernel
theorem dX11_reading_5 : decode cX11_reading 5 = .ok (.invokevirtual 187, 3) := by decide +kernel
theorem dX11_reading_8 : decode cX11_reading 8 = .ok (.astore_n 3, 1) := by decide +kernel
theorem dX11_reading_9 : decode cX11_reading 9 = .ok (.aload_n 3, 1) := by decide +kernel
theorem dX11_reading_10 : decode cX11_reading 10 = .ok (.ifnonnull 5, 3) := by decide +kernel
theorem dX11_reading_13 : decode cX11_reading 13 = .ok (.iconst (-1), 1) := by decide +kernel
theorem dX11_reading_14 : decode cX11_reading 14 = .ok (.ireturn, 1) := by decide +kernel
theorem dX11_reading_15 : decode cX11_reading 15 = .ok (.iload_n 2, 1) := by decide +kernel
theorem dX11_reading_16 : decode cX11_reading 16 = .ok (.tableswitch 109 0 8 #[52, 60, 65, 70, 75, 80, 85, 90, 95], 52) := by decide +kernel
theorem dX11_reading_68 : decode cX11_reading 68 = .ok (.aload_n 3, 1) := by decide +kernel
theorem dX11_reading_69 : decode cX11_reading 69 = .ok (.getfield 190, 3) := by decide +kernel
theorem dX11_reading_72 : decode cX11_reading 72 = .ok (.getfield 194, 3) := by decide +kernel
theorem dX11_reading_75 : decode cX11_reading 75 = .ok (.ireturn, 1) := by decide +kernel
theorem dX11_reading_76 : decode cX11_reading 76 = .ok (.aload_n 3, 1) := by decide +kernel
theorem dX11_reading_77 : decode cX11_reading 77 = .ok (.getfield 197, 3) := by decide +kernel
theorem dX11_reading_80 : decode cX11_reading 80 = .ok (.ireturn, 1) := by decide +kernel
theorem dX11_reading_81 : decode cX11_reading 81 = .ok (.aload_n 3, 1) := by decide +kernel
theorem dX11_reading_82 : decode cX11_reading 82 = .ok (.getfield 200, 3) := by decide +kernel
theorem dX11_reading_85 : decode cX11_reading 85 = .ok (.ireturn, 1) := by decide +kernel
theorem dX11_reading_86 : decode cX11_reading 86 = .ok (.aload_n 3, 1) := by decide +kernel
theorem dX11_reading_87 : decode cX11_reading 87 = .ok (.getfield 203, 3) := by decide +kernel
theorem dX11_reading_90 : decode cX11_reading 90 = .ok (.ireturn, 1) := by decide +kernel
theorem dX11_reading_91 : decode cX11_reading 91 = .ok (.aload_n 3, 1) := by decide +kernel
theorem dX11_reading_92 : decode cX11_reading 92 = .ok (.getfield 206, 3) := by decide +kernel
theorem dX11_reading_95 : decode cX11_reading 95 = .ok (.ireturn, 1) := by decide +kernel
theorem dX11_reading_96 : decode cX11_reading 96 = .ok (.aload_n 3, 1) := by decide +kernel
theorem dX11_reading_97 : decode cX11_reading 97 = .ok (.getfield 209, 3) := by decide +kernel
theorem dX11_reading_100 : decode cX11_reading 100 = .ok (.ireturn, 1) := by decide +kernel
theorem dX11_reading_101 : decode cX11_reading 101 = .ok (.aload_n 3, 1) := by decide +kernel
theorem dX11_reading_102 : decode cX11_reading 102 = .ok (.getfield 212, 3) := by decide +kernel
theorem dX11_reading_105 : decode cX11_reading 105 = .ok (.ireturn, 1) := by decide +kernel
theorem dX11_reading_106 : decode cX11_reading 106 = .ok (.aload_n 3, 1) := by decide +kernel
theorem dX11_reading_107 : decode cX11_reading 107 = .ok (.invokevirtual 215, 3) := by decide +kernel
theorem dX11_reading_110 : decode cX11_reading 110 = .ok (.ireturn, 1) := by decide +kernel
theorem dX11_reading_111 : decode cX11_reading 111 = .ok (.aload_n 0, 1) := by decide +kernel
theorem dX11_reading_112 : decode cX11_reading 112 = .ok (.aload_n 3, 1) := by decide +kernel
theorem dX11_reading_113 : decode cX11_reading 113 = .ok (.invokevirtual 219, 3) := by decide +kernel
theorem dX11_reading_116 : decode cX11_reading 116 = .ok (.ifCond .eq 7, 3) := by decide +kernel
theorem dX11_reading_119 : decode cX11_reading 119 = .ok (.iconst 1, 1) := by decide +kernel
theorem dX11_reading_120 : decode cX11_reading 120 = .ok (.goto 4, 3) := by decide +kernel
theorem dX11_reading_123 : decode cX11_reading 123 = .ok (.iconst 0, 1) := by decide +kernel
theorem dX11_reading_124 : decode cX11_reading 124 = .ok (.ireturn, 1) := by decide +kernel
theorem dX11_reading_125 : decode cX11_reading 125 = .ok (.iconst (-1), 1) := by decide +kernel
theorem dX11_reading_126 : decode cX11_reading 126 = .ok (.ireturn, 1) := by decide +kernel
theorem dX11_reads_0 : decode cX11_reads 0 = .ok (.iload_n 1, 1) := by decide +kernel
theorem dX11_reads_1 : decode cX11_reads 1 = .ok (.bipush 9, 2) := by decide +kernel
theorem dX11_reads_3 : decode cX11_reads 3 = .ok (.invokestatic 111, 3) := by decide +kernel
theorem dX11_reads_6 : decode cX11_reads 6 = .ok (.ifCond .eq 30, 3) := by decide +kernel
theorem dX11_reads_9 : decode cX11_reads 9 = .ok (.iload_n 2, 1) := by decide +kernel
theorem dX11_reads_10 : decode cX11_reads 10 = .ok (.iconst 2, 1) := by decide +kernel
theorem dX11_reads_11 : decode cX11_reads 11 = .ok (.invokestatic 111, 3) := by decide +kernel
theorem dX11_reads_14 : decode cX11_reads 14 = .ok (.ifCond .eq 22, 3) := by decide +kernel
theorem dX11_reads_17 : decode cX11_reads 17 = .ok (.iload_n 3, 1) := by decide +kernel
theorem dX11_reads_18 : decode cX11_reads 18 = .ok (.bipush 99, 2) := by decide +kernel
theorem dX11_reads_20 : decode cX11_reads 20 = .ok (.invokestatic 111, 3) := by decide +kernel
theorem dX11_reads_23 : decode cX11_reads 23 = .ok (.ifCond .eq 13, 3) := by decide +kernel
theorem dX11_reads_26 : decode cX11_reads 26 = .ok (.iload 4, 2) := by decide +kernel
theorem dX11_reads_28 : decode cX11_reads 28 = .ok (.bipush 39, 2) := by decide +kernel
theorem dX11_reads_30 : decode cX11_reads 30 = .ok (.invokestatic 111, 3) := by decide +kernel
theorem dX11_reads_33 : decode cX11_reads 33 = .ok (.ifCond .ne 5, 3) := by decide +kernel
theorem dX11_reads_36 : decode cX11_reads 36 = .ok (.iconst (-1), 1) := by decide +kernel
theorem dX11_reads_37 : decode cX11_reads 37 = .ok (.ireturn, 1) := by decide +kernel
theorem dX11_reads_38 : decode cX11_reads 38 = .ok (.aload_n 0, 1) := by decide +kernel
theorem dX11_reads_39 : decode cX11_reads 39 = .ok (.getfield 19, 3) := by decide +kernel
theorem dX11_reads_42 : decode cX11_reads 42 = .ok (.aload_n 0, 1) := by decide +kernel
theorem dX11_reads_43 : decode cX11_reads 43 = .ok (.getfield 19, 3) := by decide +kernel
theorem dX11_reads_46 : decode cX11_reads 46 = .ok (.iload_n 1, 1) := by decide +kernel
theorem dX11_reads_47 : decode cX11_reads 47 = .ok (.invokevirtual 223, 3) := by decide +kernel
theorem dX11_reads_50 : decode cX11_reads 50 = .ok (.iload_n 2, 1) := by decide +kernel
theorem dX11_reads_51 : decode cX11_reads 51 = .ok (.iload_n 3, 1) := by decide +kernel
theorem dX11_reads_52 : decode cX11_reads 52 = .ok (.iload 4, 2) := by decide +kernel
theorem dX11_reads_54 : decode cX11_reads 54 = .ok (.iload_n 1, 1) := by decide +kernel
theorem dX11_reads_55 : decode cX11_reads 55 = .ok (.invokevirtual 227, 3) := by decide +kernel
theorem dX11_reads_58 : decode cX11_reads 58 = .ok (.ireturn, 1) := by decide +kernel
theorem dX11_blow_0 : decode cX11_blow 0 = .ok (.aload_n 0, 1) := by decide +kernel
theorem dX11_blow_1 : decode cX11_blow 1 = .ok (.getfield 10, 3) := by decide +kernel
theorem dX11_blow_4 : decode cX11_blow 4 = .ok (.iload_n 1, 1) := by decide +kernel
theorem dX11_blow_5 : decode cX11_blow 5 = .ok (.invokevirtual 125, 3) := by decide +kernel
theorem dX11_blow_8 : decode cX11_blow 8 = .ok (.astore 6, 2) := by decide +kernel
theorem dX11_blow_10 : decode cX11_blow 10 = .ok (.aload 6, 2) := by decide +kernel
theorem dX11_blow_12 : decode cX11_blow 12 = .ok (.ifnull 41, 3) := by decide +kernel
theorem dX11_blow_15 : decode cX11_blow 15 = .ok (.iload_n 2, 1) := by decide +kernel
theorem dX11_blow_16 : decode cX11_blow 16 = .ok (.sipush 999, 3) := by decide +kernel
theorem dX11_blow_19 : decode cX11_blow 19 = .ok (.invokestatic 111, 3) := by decide +kernel
theorem dX11_blow_22 : decode cX11_blow 22 = .ok (.ifCond .eq 31, 3) := by decide +kernel
theorem dX11_blow_25 : decode cX11_blow 25 = .ok (.iload_n 3, 1) := by decide +kernel
theorem dX11_blow_26 : decode cX11_blow 26 = .ok (.iconst 2, 1) := by decide +kernel
theorem dX11_blow_27 : decode cX11_blow 27 = .ok (.invokestatic 111, 3) := by decide +kernel
theorem dX11_blow_30 : decode cX11_blow 30 = .ok (.ifCond .eq 23, 3) := by decide +kernel
theorem dX11_blow_33 : decode cX11_blow 33 = .ok (.iload 4, 2) := by decide +kernel
theorem dX11_blow_35 : decode cX11_blow 35 = .ok (.bipush 99, 2) := by decide +kernel
theorem dX11_blow_37 : decode cX11_blow 37 = .ok (.invokestatic 111, 3) := by decide +kernel
theorem dX11_blow_40 : decode cX11_blow 40 = .ok (.ifCond .eq 13, 3) := by decide +kernel
theorem dX11_blow_43 : decode cX11_blow 43 = .ok (.iload 5, 2) := by decide +kernel
theorem dX11_blow_45 : decode cX11_blow 45 = .ok (.bipush 9, 2) := by decide +kernel
theorem dX11_blow_47 : decode cX11_blow 47 = .ok (.invokestatic 111, 3) := by decide +kernel
theorem dX11_blow_50 : decode cX11_blow 50 = .ok (.ifCond .ne 5, 3) := by decide +kernel
theorem dX11_blow_53 : decode cX11_blow 53 = .ok (.iconst (-1), 1) := by decide +kernel
theorem dX11_blow_54 : decode cX11_blow 54 = .ok (.ireturn, 1) := by decide +kernel
theorem dX11_blow_55 : decode cX11_blow 55 = .ok (.iload_n 2, 1) := by decide +kernel
theorem dX11_blow_56 : decode cX11_blow 56 = .ok (.bipush 100, 2) := by decide +kernel
theorem dX11_blow_58 : decode cX11_blow 58 = .ok (.idiv, 1) := by decide +kernel
theorem dX11_blow_59 : decode cX11_blow 59 = .ok (.istore 7, 2) := by decide +kernel
theorem dX11_blow_61 : decode cX11_blow 61 = .ok (.aload_n 0, 1) := by decide +kernel
theorem dX11_blow_62 : decode cX11_blow 62 = .ok (.getfield 19, 3) := by decide +kernel
theorem dX11_blow_65 : decode cX11_blow 65 = .ok (.aload_n 0, 1) := by decide +kernel
theorem dX11_blow_66 : decode cX11_blow 66 = .ok (.getfield 19, 3) := by decide +kernel
theorem dX11_blow_69 : decode cX11_blow 69 = .ok (.iload 7, 2) := by decide +kernel
theorem dX11_blow_71 : decode cX11_blow 71 = .ok (.invokevirtual 223, 3) := by decide +kernel
theorem dX11_blow_74 : decode cX11_blow 74 = .ok (.iload_n 3, 1) := by decide +kernel
theorem dX11_blow_75 : decode cX11_blow 75 = .ok (.iload 4, 2) := by decide +kernel
theorem dX11_blow_77 : decode cX11_blow 77 = .ok (.bipush 10, 2) := by decide +kernel
theorem dX11_blow_79 : decode cX11_blow 79 = .ok (.aload 6, 2) := by decide +kernel
theorem dX11_blow_81 : decode cX11_blow 81 = .ok (.getfield 231, 3) := by decide +kernel
theorem dX11_blow_84 : decode cX11_blow 84 = .ok (.imul, 1) := by decide +kernel
theorem dX11_blow_85 : decode cX11_blow 85 = .ok (.iload 5, 2) := by decide +kernel
theorem dX11_blow_87 : decode cX11_blow 87 = .ok (.iadd, 1) := by decide +kernel
theorem dX11_blow_88 : decode cX11_blow 88 = .ok (.iload 7, 2) := by decide +kernel
theorem dX11_blow_90 : decode cX11_blow 90 = .ok (.invokevirtual 227, 3) := by decide +kernel
theorem dX11_blow_93 : decode cX11_blow 93 = .ok (.istore 8, 2) := by decide +kernel
theorem dX11_blow_95 : decode cX11_blow 95 = .ok (.aload_n 0, 1) := by decide +kernel
theorem dX11_blow_96 : decode cX11_blow 96 = .ok (.aload 6, 2) := by decide +kernel
theorem dX11_blow_98 : decode cX11_blow 98 = .ok (.iload_n 2, 1) := by decide +kernel
theorem dX11_blow_99 : decode cX11_blow 99 = .ok (.iload 8, 2) := by decide +kernel
theorem dX11_blow_101 : decode cX11_blow 101 = .ok (.invokevirtual 234, 3) := by decide +kernel
theorem dX11_blow_104 : decode cX11_blow 104 = .ok (.ireturn, 1) := by decide +kernel
theorem dX11_run_0 : decode cX11_run 0 = .ok (.aload_n 0, 1) := by decide +kernel
theorem dX11_run_1 : decode cX11_run 1 = .ok (.getfield 10, 3) := by decide +kernel
theorem dX11_run_4 : decode cX11_run 4 = .ok (.iload_n 1, 1) := by decide +kernel
theorem dX11_run_5 : decode cX11_run 5 = .ok (.invokevirtual 125, 3) := by decide +kernel
theorem dX11_run_8 : decode cX11_run 8 = .ok (.astore 6, 2) := by decide +kernel
theorem dX11_run_10 : decode cX11_run 10 = .ok (.aload 6, 2) := by decide +kernel
theorem dX11_run_12 : decode cX11_run 12 = .ok (.ifnull 46, 3) := by decide +kernel
theorem dX11_run_15 : decode cX11_run 15 = .ok (.iload_n 2, 1) := by decide +kernel
theorem dX11_run_16 : decode cX11_run 16 = .ok (.sipush 999, 3) := by decide +kernel
theorem dX11_run_19 : decode cX11_run 19 = .ok (.invokestatic 111, 3) := by decide +kernel
theorem dX11_run_22 : decode cX11_run 22 = .ok (.ifCond .eq 36, 3) := by decide +kernel
theorem dX11_run_25 : decode cX11_run 25 = .ok (.iload_n 3, 1) := by decide +kernel
theorem dX11_run_26 : decode cX11_run 26 = .ok (.ldc 238, 2) := by decide +kernel
theorem dX11_run_28 : decode cX11_run 28 = .ok (.invokestatic 111, 3) := by decide +kernel
theorem dX11_run_31 : decode cX11_run 31 = .ok (.ifCond .eq 27, 3) := by decide +kernel
theorem dX11_run_34 : decode cX11_run 34 = .ok (.iload 4, 2) := by decide +kernel
theorem dX11_run_36 : decode cX11_run 36 = .ok (.iconst 1, 1) := by decide +kernel
theorem dX11_run_37 : decode cX11_run 37 = .ok (.if_icmp .lt 21, 3) := by decide +kernel
theorem dX11_run_40 : decode cX11_run 40 = .ok (.iload 4, 2) := by decide +kernel
theorem dX11_run_42 : decode cX11_run 42 = .ok (.sipush 1000, 3) := by decide +kernel
theorem dX11_run_45 : decode cX11_run 45 = .ok (.if_icmp .gt 13, 3) := by decide +kernel
theorem dX11_run_48 : decode cX11_run 48 = .ok (.iload 5, 2) := by decide +kernel
theorem dX11_run_50 : decode cX11_run 50 = .ok (.bipush 12, 2) := by decide +kernel
theorem dX11_run_52 : decode cX11_run 52 = .ok (.invokestatic 111, 3) := by decide +kernel
theorem dX11_run_55 : decode cX11_run 55 = .ok (.ifCond .ne 5, 3) := by decide +kernel
theorem dX11_run_58 : decode cX11_run 58 = .ok (.iconst (-1), 1) := by decide +kernel
theorem dX11_run_59 : decode cX11_run 59 = .ok (.ireturn, 1) := by decide +kernel
theorem dX11_run_60 : decode cX11_run 60 = .ok (.iload_n 2, 1) := by decide +kernel
theorem dX11_run_61 : decode cX11_run 61 = .ok (.bipush 100, 2) := by decide +kernel
theorem dX11_run_63 : decode cX11_run 63 = .ok (.idiv, 1) := by decide +kernel
theorem dX11_run_64 : decode cX11_run 64 = .ok (.istore 7, 2) := by decide +kernel
theorem dX11_run_66 : decode cX11_run 66 = .ok (.aload_n 0, 1) := by decide +kernel
theorem dX11_run_67 : decode cX11_run 67 = .ok (.getfield 19, 3) := by decide +kernel
theorem dX11_run_70 : decode cX11_run 70 = .ok (.aload_n 0, 1) := by decide +kernel
theorem dX11_run_71 : decode cX11_run 71 = .ok (.getfield 77, 3) := by decide +kernel
theorem dX11_run_74 : decode cX11_run 74 = .ok (.aload_n 0, 1) := by decide +kernel
theorem dX11_run_75 : decode cX11_run 75 = .ok (.getfield 19, 3) := by decide +kernel
theorem dX11_run_78 : decode cX11_run 78 = .ok (.iload 7, 2) := by decide +kernel
theorem dX11_run_80 : decode cX11_run 80 = .ok (.invokevirtual 223, 3) := by decide +kernel
theorem dX11_run_83 : decode cX11_run 83 = .ok (.iconst 0, 1) := by decide +kernel
theorem dX11_run_84 : decode cX11_run 84 = .ok (.bipush 10, 2) := by decide +kernel
theorem dX11_run_86 : decode cX11_run 86 = .ok (.aload 6, 2) := by decide +kernel
theorem dX11_run_88 : decode cX11_run 88 = .ok (.getfield 231, 3) := by decide +kernel
theorem dX11_run_91 : decode cX11_run 91 = .ok (.imul, 1) := by decide +kernel
theorem dX11_run_92 : decode cX11_run 92 = .ok (.iload 7, 2) := by decide +kernel
theorem dX11_run_94 : decode cX11_run 94 = .ok (.invokevirtual 239, 3) := by decide +kernel
theorem dX11_run_97 : decode cX11_run 97 = .ok (.iconst 0, 1) := by decide +kernel
theorem dX11_run_98 : decode cX11_run 98 = .ok (.istore 8, 2) := by decide +kernel
theorem dX11_run_100 : decode cX11_run 100 = .ok (.iload 8, 2) := by decide +kernel
theorem dX11_run_102 : decode cX11_run 102 = .ok (.bipush 100, 2) := by decide +kernel
theorem dX11_run_104 : decode cX11_run 104 = .ok (.if_icmp .ge 30, 3) := by decide +kernel
theorem dX11_run_107 : decode cX11_run 107 = .ok (.aload_n 0, 1) := by decide +kernel
theorem dX11_run_108 : decode cX11_run 108 = .ok (.getfield 77, 3) := by decide +kernel
theorem dX11_run_111 : decode cX11_run 111 = .ok (.iload 8, 2) := by decide +kernel
theorem dX11_run_113 : decode cX11_run 113 = .ok (.aload_n 0, 1) := by decide +kernel
theorem dX11_run_114 : decode cX11_run 114 = .ok (.aload 6, 2) := by decide +kernel
theorem dX11_run_116 : decode cX11_run 116 = .ok (.iload_n 2, 1) := by decide +kernel
theorem dX11_run_117 : decode cX11_run 117 = .ok (.aload_n 0, 1) := by decide +kernel
theorem dX11_run_118 : decode cX11_run 118 = .ok (.getfield 77, 3) := by decide +kernel
theorem dX11_run_121 : decode cX11_run 121 = .ok (.iload 8, 2) := by decide +kernel
theorem dX11_run_123 : decode cX11_run 123 = .ok (.iaload, 1) := by decide +kernel
theorem dX11_run_124 : decode cX11_run 124 = .ok (.invokevirtual 234, 3) := by decide +kernel
theorem dX11_run_127 : decode cX11_run 127 = .ok (.iastore, 1) := by decide +kernel
theorem dX11_run_128 : decode cX11_run 128 = .ok (.iinc 8 1, 3) := by decide +kernel
theorem dX11_run_131 : decode cX11_run 131 = .ok (.goto (-31), 3) := by decide +kernel
theorem dX11_run_134 : decode cX11_run 134 = .ok (.iload_n 3, 1) := by decide +kernel
theorem dX11_run_135 : decode cX11_run 135 = .ok (.i2l, 1) := by decide +kernel
theorem dX11_run_136 : decode cX11_run 136 = .ok (.lstore 8, 2) := by decide +kernel
theorem dX11_run_138 : decode cX11_run 138 = .ok (.iconst 0, 1) := by decide +kernel
theorem dX11_run_139 : decode cX11_run 139 = .ok (.istore 10, 2) := by decide +kernel
theorem dX11_run_141 : decode cX11_run 141 = .ok (.iconst 0, 1) := by decide +kernel
theorem dX11_run_142 : decode cX11_run 142 = .ok (.istore 11, 2) := by decide +kernel
theorem dX11_run_144 : decode cX11_run 144 = .ok (.iload 11, 2) := by decide +kernel
theorem dX11_run_146 : decode cX11_run 146 = .ok (.iload 4, 2) := by decide +kernel
theorem dX11_run_148 : decode cX11_run 148 = .ok (.if_icmp .ge 44, 3) := by decide +kernel
theorem dX11_run_151 : decode cX11_run 151 = .ok (.lload 8, 2) := by decide +kernel
theorem dX11_run_153 : decode cX11_run 153 = .ok (.ldc2_w 243, 3) := by decide +kernel
theorem dX11_run_156 : decode cX11_run 156 = .ok (.lmul, 1) := by decide +kernel
theorem dX11_run_157 : decode cX11_run 157 = .ok (.ldc2_w 245, 3) := by decide +kernel
theorem dX11_run_160 : decode cX11_run 160 = .ok (.ladd, 1) := by decide +kernel
theorem dX11_run_161 : decode cX11_run 161 = .ok (.lstore 8, 2) := by decide +kernel
theorem dX11_run_163 : decode cX11_run 163 = .ok (.aload_n 0, 1) := by decide +kernel
theorem dX11_run_164 : decode cX11_run 164 = .ok (.getfield 77, 3) := by decide +kernel
theorem dX11_run_167 : decode cX11_run 167 = .ok (.lload 8, 2) := by decide +kernel
theorem dX11_run_169 : decode cX11_run 169 = .ok (.bipush 33, 2) := by decide +kernel
theorem dX11_run_171 : decode cX11_run 171 = .ok (.lushr, 1) := by decide +kernel
theorem dX11_run_172 : decode cX11_run 172 = .ok (.ldc2_w 247, 3) := by decide +kernel
theorem dX11_run_175 : decode cX11_run 175 = .ok (.lrem, 1) := by decide +kernel
theorem dX11_run_176 : decode cX11_run 176 = .ok (.l2i, 1) := by decide +kernel
theorem dX11_run_177 : decode cX11_run 177 = .ok (.iaload, 1) := by decide +kernel
theorem dX11_run_178 : decode cX11_run 178 = .ok (.iload 5, 2) := by decide +kernel
theorem dX11_run_180 : decode cX11_run 180 = .ok (.if_icmp .ne 6, 3) := by decide +kernel
theorem dX11_run_183 : decode cX11_run 183 = .ok (.iinc 10 1, 3) := by decide +kernel
theorem dX11_run_186 : decode cX11_run 186 = .ok (.iinc 11 1, 3) := by decide +kernel
theorem dX11_run_189 : decode cX11_run 189 = .ok (.goto (-45), 3) := by decide +kernel
theorem dX11_run_192 : decode cX11_run 192 = .ok (.iload 10, 2) := by decide +kernel
theorem dX11_run_194 : decode cX11_run 194 = .ok (.ireturn, 1) := by decide +kernel
theorem dX11_column_0 : decode cX11_column 0 = .ok (.iload_n 1, 1) := by decide +kernel
theorem dX11_column_1 : decode cX11_column 1 = .ok (.bipush 9, 2) := by decide +kernel
theorem dX11_column_3 : decode cX11_column 3 = .ok (.invokestatic 111, 3) := by decide +kernel
theorem dX11_column_6 : decode cX11_column 6 = .ok (.ifCond .eq 39, 3) := by decide +kernel
theorem dX11_column_9 : decode cX11_column 9 = .ok (.iload_n 2, 1) := by decide +kernel
theorem dX11_column_10 : decode cX11_column 10 = .ok (.iconst 2, 1) := by decide +kernel
theorem dX11_column_11 : decode cX11_column 11 = .ok (.invokestatic 111, 3) := by decide +kernel
theorem dX11_column_14 : decode cX11_column 14 = .ok (.ifCond .eq 31, 3) := by decide +kernel
theorem dX11_column_17 : decode cX11_column 17 = .ok (.iload_n 3, 1) := by decide +kernel
theorem dX11_column_18 : decode cX11_column 18 = .ok (.bipush 39, 2) := by decide +kernel
theorem dX11_column_20 : decode cX11_column 20 = .ok (.invokestatic 111, 3) := by decide +kernel
theorem dX11_column_23 : decode cX11_column 23 = .ok (.ifCond .eq 22, 3) := by decide +kernel
theorem dX11_column_26 : decode cX11_column 26 = .ok (.iload 4, 2) := by decide +kernel
theorem dX11_column_28 : decode cX11_column 28 = .ok (.bipush 12, 2) := by decide +kernel
theorem dX11_column_30 : decode cX11_column 30 = .ok (.invokestatic 111, 3) := by decide +kernel
theorem dX11_column_33 : decode cX11_column 33 = .ok (.ifCond .eq 12, 3) := by decide +kernel
theorem dX11_column_36 : decode cX11_column 36 = .ok (.iload 5, 2) := by decide +kernel
theorem dX11_column_38 : decode cX11_column 38 = .ok (.iconst 1, 1) := by decide +kernel
theorem dX11_column_39 : decode cX11_column 39 = .ok (.invokestatic 111, 3) := by decide +kernel
theorem dX11_column_42 : decode cX11_column 42 = .ok (.ifCond .ne 5, 3) := by decide +kernel
theorem dX11_column_45 : decode cX11_column 45 = .ok (.iconst (-1), 1) := by decide +kernel
theorem dX11_column_46 : decode cX11_column 46 = .ok (.ireturn, 1) := by decide +kernel
theorem dX11_column_47 : decode cX11_column 47 = .ok (.aload_n 0, 1) := by decide +kernel
theorem dX11_column_48 : decode cX11_column 48 = .ok (.getfield 19, 3) := by decide +kernel
theorem dX11_column_51 : decode cX11_column 51 = .ok (.aload_n 0, 1) := by decide +kernel
theorem dX11_column_52 : decode cX11_column 52 = .ok (.getfield 77, 3) := by decide +kernel
theorem dX11_column_55 : decode cX11_column 55 = .ok (.aload_n 0, 1) := by decide +kernel
theorem dX11_column_56 : decode cX11_column 56 = .ok (.getfield 19, 3) := by decide +kernel
theorem dX11_column_59 : decode cX11_column 59 = .ok (.iload_n 1, 1) := by decide +kernel
theorem dX11_column_60 : decode cX11_column 60 = .ok (.invokevirtual 223, 3) := by decide +kernel
theorem dX11_column_63 : decode cX11_column 63 = .ok (.iload_n 2, 1) := by decide +kernel
theorem dX11_column_64 : decode cX11_column 64 = .ok (.iload_n 3, 1) := by decide +kernel
theorem dX11_column_65 : decode cX11_column 65 = .ok (.iload_n 1, 1) := by decide +kernel
theorem dX11_column_66 : decode cX11_column 66 = .ok (.invokevirtual 239, 3) := by decide +kernel
theorem dX11_column_69 : decode cX11_column 69 = .ok (.iload 5, 2) := by decide +kernel
theorem dX11_column_71 : decode cX11_column 71 = .ok (.ifCond .ne 17, 3) := by decide +kernel
theorem dX11_column_74 : decode cX11_column 74 = .ok (.aload_n 0, 1) := by decide +kernel
theorem dX11_column_75 : decode cX11_column 75 = .ok (.getfield 77, 3) := by decide +kernel
theorem dX11_column_78 : decode cX11_column 78 = .ok (.iload 4, 2) := by decide +kernel
theorem dX11_column_80 : decode cX11_column 80 = .ok (.iload 4, 2) := by decide +kernel
theorem dX11_column_82 : decode cX11_column 82 = .ok (.invokestatic 249, 3) := by decide +kernel
theorem dX11_column_85 : decode cX11_column 85 = .ok (.goto 14, 3) := by decide +kernel
theorem dX11_column_88 : decode cX11_column 88 = .ok (.aload_n 0, 1) := by decide +kernel
theorem dX11_column_89 : decode cX11_column 89 = .ok (.getfield 77, 3) := by decide +kernel
theorem dX11_column_92 : decode cX11_column 92 = .ok (.iload 4, 2) := by decide +kernel
theorem dX11_column_94 : decode cX11_column 94 = .ok (.iload 4, 2) := by decide +kernel
theorem dX11_column_96 : decode cX11_column 96 = .ok (.invokestatic 253, 3) := by decide +kernel
theorem dX11_column_99 : decode cX11_column 99 = .ok (.ireturn, 1) := by decide +kernel
theorem dX11_turn_0 : decode cX11_turn 0 = .ok (.iload_n 1, 1) := by decide +kernel
theorem dX11_turn_1 : decode cX11_turn 1 = .ok (.iconst 2, 1) := by decide +kernel
theorem dX11_turn_2 : decode cX11_turn 2 = .ok (.invokestatic 111, 3) := by decide +kernel
theorem dX11_turn_5 : decode cX11_turn 5 = .ok (.ifCond .eq 40, 3) := by decide +kernel
theorem dX11_turn_8 : decode cX11_turn 8 = .ok (.iload_n 2, 1) := by decide +kernel
theorem dX11_turn_9 : decode cX11_turn 9 = .ok (.bipush 9, 2) := by decide +kernel
theorem dX11_turn_11 : decode cX11_turn 11 = .ok (.invokestatic 111, 3) := by decide +kernel
theorem dX11_turn_14 : decode cX11_turn 14 = .ok (.ifCond .eq 31, 3) := by decide +kernel
theorem dX11_turn_17 : decode cX11_turn 17 = .ok (.iload_n 3, 1) := by decide +kernel
theorem dX11_turn_18 : decode cX11_turn 18 = .ok (.bipush 12, 2) := by decide +kernel
theorem dX11_turn_20 : decode cX11_turn 20 = .ok (.invokestatic 111, 3) := by decide +kernel
theorem dX11_turn_23 : decode cX11_turn 23 = .ok (.ifCond .eq 22, 3) := by decide +kernel
theorem dX11_turn_26 : decode cX11_turn 26 = .ok (.iload 4, 2) := by decide +kernel
theorem dX11_turn_28 : decode cX11_turn 28 = .ok (.bipush 9, 2) := by decide +kernel
theorem dX11_turn_30 : decode cX11_turn 30 = .ok (.invokestatic 111, 3) := by decide +kernel
theorem dX11_turn_33 : decode cX11_turn 33 = .ok (.ifCond .eq 12, 3) := by decide +kernel
theorem dX11_turn_36 : decode cX11_turn 36 = .ok (.iload 5, 2) := by decide +kernel
theorem dX11_turn_38 : decode cX11_turn 38 = .ok (.iconst 3, 1) := by decide +kernel
theorem dX11_turn_39 : decode cX11_turn 39 = .ok (.invokestatic 111, 3) := by decide +kernel
theorem dX11_turn_42 : decode cX11_turn 42 = .ok (.ifCond .ne 5, 3) := by decide +kernel
theorem dX11_turn_45 : decode cX11_turn 45 = .ok (.iconst (-1), 1) := by decide +kernel
theorem dX11_turn_46 : decode cX11_turn 46 = .ok (.ireturn, 1) := by decide +kernel
theorem dX11_turn_47 : decode cX11_turn 47 = .ok (.aload_n 0, 1) := by decide +kernel
theorem dX11_turn_48 : decode cX11_turn 48 = .ok (.getfield 19, 3) := by decide +kernel
theorem dX11_turn_51 : decode cX11_turn 51 = .ok (.aload_n 0, 1) := by decide +kernel
theorem dX11_turn_52 : decode cX11_turn 52 = .ok (.getfield 19, 3) := by decide +kernel
theorem dX11_turn_55 : decode cX11_turn 55 = .ok (.iload 4, 2) := by decide +kernel
theorem dX11_turn_57 : decode cX11_turn 57 = .ok (.invokevirtual 223, 3) := by decide +kernel
theorem dX11_turn_60 : decode cX11_turn 60 = .ok (.iload 4, 2) := by decide +kernel
theorem dX11_turn_62 : decode cX11_turn 62 = .ok (.iload_n 1, 1) := by decide +kernel
theorem dX11_turn_63 : decode cX11_turn 63 = .ok (.iload_n 2, 1) := by decide +kernel
theorem dX11_turn_64 : decode cX11_turn 64 = .ok (.iload_n 3, 1) := by decide +kernel
theorem dX11_turn_65 : decode cX11_turn 65 = .ok (.invokevirtual 256, 3) := by decide +kernel
theorem dX11_turn_68 : decode cX11_turn 68 = .ok (.ifCond .ne 5, 3) := by decide +kernel
theorem dX11_turn_71 : decode cX11_turn 71 = .ok (.iconst (-1), 1) := by decide +kernel
theorem dX11_turn_72 : decode cX11_turn 72 = .ok (.ireturn, 1) := by decide +kernel
theorem dX11_turn_73 : decode cX11_turn 73 = .ok (.aload_n 0, 1) := by decide +kernel
theorem dX11_turn_74 : decode cX11_turn 74 = .ok (.getfield 19, 3) := by decide +kernel
theorem dX11_turn_77 : decode cX11_turn 77 = .ok (.getfield 260, 3) := by decide +kernel
theorem dX11_turn_80 : decode cX11_turn 80 = .ok (.iload 5, 2) := by decide +kernel
theorem dX11_turn_82 : decode cX11_turn 82 = .ok (.iaload, 1) := by decide +kernel
theorem dX11_turn_83 : decode cX11_turn 83 = .ok (.ireturn, 1) := by decide +kernel
theorem dX11_tight_0 : decode cX11_tight 0 = .ok (.aload_n 0, 1) := by decide +kernel
theorem dX11_tight_1 : decode cX11_tight 1 = .ok (.getfield 26, 3) := by decide +kernel
theorem dX11_tight_4 : decode cX11_tight 4 = .ok (.aload_n 0, 1) := by decide +kernel
theorem dX11_tight_5 : decode cX11_tight 5 = .ok (.getfield 10, 3) := by decide +kernel
theorem dX11_tight_8 : decode cX11_tight 8 = .ok (.aload_n 0, 1) := by decide +kernel
theorem dX11_tight_9 : decode cX11_tight 9 = .ok (.getfield 19, 3) := by decide +kernel
theorem dX11_tight_12 : decode cX11_tight 12 = .ok (.invokevirtual 263, 3) := by decide +kernel
theorem dX11_tight_15 : decode cX11_tight 15 = .ok (.ifCond .eq 7, 3) := by decide +kernel
theorem dX11_tight_18 : decode cX11_tight 18 = .ok (.iconst 1, 1) := by decide +kernel
theorem dX11_tight_19 : decode cX11_tight 19 = .ok (.goto 4, 3) := by decide +kernel
theorem dX11_tight_22 : decode cX11_tight 22 = .ok (.iconst 0, 1) := by decide +kernel
theorem dX11_tight_23 : decode cX11_tight 23 = .ok (.ireturn, 1) := by decide +kernel
theorem dX11_lean_0 : decode cX11_lean 0 = .ok (.aload_n 0, 1) := by decide +kernel
theorem dX11_lean_1 : decode cX11_lean 1 = .ok (.getfield 10, 3) := by decide +kernel
theorem dX11_lean_4 : decode cX11_lean 4 = .ok (.iload_n 1, 1) := by decide +kernel
theorem dX11_lean_5 : decode cX11_lean 5 = .ok (.invokevirtual 115, 3) := by decide +kernel
theorem dX11_lean_8 : decode cX11_lean 8 = .ok (.ifCond .eq 29, 3) := by decide +kernel
theorem dX11_lean_11 : decode cX11_lean 11 = .ok (.iload_n 2, 1) := by decide +kernel
theorem dX11_lean_12 : decode cX11_lean 12 = .ok (.iconst 1, 1) := by decide +kernel
theorem dX11_lean_13 : decode cX11_lean 13 = .ok (.invokestatic 111, 3) := by decide +kernel
theorem dX11_lean_16 : decode cX11_lean 16 = .ok (.ifCond .eq 21, 3) := by decide +kernel
theorem dX11_lean_19 : decode cX11_lean 19 = .ok (.aload_n 0, 1) := by decide +kernel
theorem dX11_lean_20 : decode cX11_lean 20 = .ok (.getfield 26, 3) := by decide +kernel
theorem dX11_lean_23 : decode cX11_lean 23 = .ok (.aload_n 0, 1) := by decide +kernel
theorem dX11_lean_24 : decode cX11_lean 24 = .ok (.getfield 10, 3) := by decide +kernel
theorem dX11_lean_27 : decode cX11_lean 27 = .ok (.aload_n 0, 1) := by decide +kernel
theorem dX11_lean_28 : decode cX11_lean 28 = .ok (.getfield 19, 3) := by decide +kernel
theorem dX11_lean_31 : decode cX11_lean 31 = .ok (.invokevirtual 263, 3) := by decide +kernel
theorem dX11_lean_34 : decode cX11_lean 34 = .ok (.ifCond .ne 7, 3) := by decide +kernel
theorem dX11_lean_37 : decode cX11_lean 37 = .ok (.sipush (-2000), 3) := by decide +kernel
theorem dX11_lean_40 : decode cX11_lean 40 = .ok (.ireturn, 1) := by decide +kernel
theorem dX11_lean_41 : decode cX11_lean 41 = .ok (.iload_n 2, 1) := by decide +kernel
theorem dX11_lean_42 : decode cX11_lean 42 = .ok (.ifCond .ne 14, 3) := by decide +kernel
theorem dX11_lean_45 : decode cX11_lean 45 = .ok (.aload_n 0, 1) := by decide +kernel
theorem dX11_lean_46 : decode cX11_lean 46 = .ok (.getfield 26, 3) := by decide +kernel
theorem dX11_lean_49 : decode cX11_lean 49 = .ok (.iload_n 1, 1) := by decide +kernel
theorem dX11_lean_50 : decode cX11_lean 50 = .ok (.invokevirtual 267, 3) := by decide +kernel
theorem dX11_lean_53 : decode cX11_lean 53 = .ok (.goto 11, 3) := by decide +kernel
theorem dX11_lean_56 : decode cX11_lean 56 = .ok (.aload_n 0, 1) := by decide +kernel
theorem dX11_lean_57 : decode cX11_lean 57 = .ok (.getfield 26, 3) := by decide +kernel
theorem dX11_lean_60 : decode cX11_lean 60 = .ok (.iload_n 1, 1) := by decide +kernel
theorem dX11_lean_61 : decode cX11_lean 61 = .ok (.invokevirtual 270, 3) := by decide +kernel
theorem dX11_lean_64 : decode cX11_lean 64 = .ok (.ireturn, 1) := by decide +kernel
theorem dX11_liked_0 : decode cX11_liked 0 = .ok (.aload_n 0, 1) := by decide +kernel
theorem dX11_liked_1 : decode cX11_liked 1 = .ok (.getfield 10, 3) := by decide +kernel
theorem dX11_liked_4 : decode cX11_liked 4 = .ok (.iload_n 1, 1) := by decide +kernel
theorem dX11_liked_5 : decode cX11_liked 5 = .ok (.invokevirtual 115, 3) := by decide +kernel
theorem dX11_liked_8 : decode cX11_liked 8 = .ok (.ifCond .eq 22, 3) := by decide +kernel
theorem dX11_liked_11 : decode cX11_liked 11 = .ok (.iload_n 2, 1) := by decide +kernel
theorem dX11_liked_12 : decode cX11_liked 12 = .ok (.iconst 1, 1) := by decide +kernel
theorem dX11_liked_13 : decode cX11_liked 13 = .ok (.if_icmp .lt 17, 3) := by decide +kernel
theorem dX11_liked_16 : decode cX11_liked 16 = .ok (.iload_n 2, 1) := by decide +kernel
theorem dX11_liked_17 : decode cX11_liked 17 = .ok (.bipush 11, 2) := by decide +kernel
theorem dX11_liked_19 : decode cX11_liked 19 = .ok (.if_icmp .gt 11, 3) := by decide +kernel
theorem dX11_liked_22 : decode cX11_liked 22 = .ok (.iload_n 3, 1) := by decide +kernel
theorem dX11_liked_23 : decode cX11_liked 23 = .ok (.iconst 3, 1) := by decide +kernel
theorem dX11_liked_24 : decode cX11_liked 24 = .ok (.invokestatic 111, 3) := by decide +kernel
theorem dX11_liked_27 : decode cX11_liked 27 = .ok (.ifCond .ne 7, 3) := by decide +kernel
theorem dX11_liked_30 : decode cX11_liked 30 = .ok (.sipush (-200), 3) := by decide +kernel
theorem dX11_liked_33 : decode cX11_liked 33 = .ok (.ireturn, 1) := by decide +kernel
theorem dX11_liked_34 : decode cX11_liked 34 = .ok (.aload_n 0, 1) := by decide +kernel
theorem dX11_liked_35 : decode cX11_liked 35 = .ok (.iload_n 1, 1) := by decide +kernel
theorem dX11_liked_36 : decode cX11_liked 36 = .ok (.iload_n 2, 1) := by decide +kernel
theorem dX11_liked_37 : decode cX11_liked 37 = .ok (.iload_n 2, 1) := by decide +kernel
theorem dX11_liked_38 : decode cX11_liked 38 = .ok (.invokevirtual 273, 3) := by decide +kernel
theorem dX11_liked_41 : decode cX11_liked 41 = .ok (.istore 4, 2) := by decide +kernel
theorem dX11_liked_43 : decode cX11_liked 43 = .ok (.aload_n 0, 1) := by decide +kernel
theorem dX11_liked_44 : decode cX11_liked 44 = .ok (.iload_n 1, 1) := by decide +kernel
theorem dX11_liked_45 : decode cX11_liked 45 = .ok (.iload_n 2, 1) := by decide +kernel
theorem dX11_liked_46 : decode cX11_liked 46 = .ok (.iconst 1, 1) := by decide +kernel
theorem dX11_liked_47 : decode cX11_liked 47 = .ok (.isub, 1) := by decide +kernel
theorem dX11_liked_48 : decode cX11_liked 48 = .ok (.iload_n 2, 1) := by decide +kernel
theorem dX11_liked_49 : decode cX11_liked 49 = .ok (.iconst 1, 1) := by decide +kernel
theorem dX11_liked_50 : decode cX11_liked 50 = .ok (.iadd, 1) := by decide +kernel
theorem dX11_liked_51 : decode cX11_liked 51 = .ok (.invokevirtual 273, 3) := by decide +kernel
theorem dX11_liked_54 : decode cX11_liked 54 = .ok (.iload 4, 2) := by decide +kernel
theorem dX11_liked_56 : decode cX11_liked 56 = .ok (.isub, 1) := by decide +kernel
theorem dX11_liked_57 : decode cX11_liked 57 = .ok (.istore 5, 2) := by decide +kernel
theorem dX11_liked_59 : decode cX11_liked 59 = .ok (.iload_n 3, 1) := by decide +kernel
theorem dX11_liked_60 : decode cX11_liked 60 = .ok (.tableswitch 60 0 2 #[28, 31, 34], 28) := by decide +kernel
theorem dX11_liked_88 : decode cX11_liked 88 = .ok (.iload 4, 2) := by decide +kernel
theorem dX11_liked_90 : decode cX11_liked 90 = .ok (.ireturn, 1) := by decide +kernel
theorem dX11_liked_91 : decode cX11_liked 91 = .ok (.iload 5, 2) := by decide +kernel
theorem dX11_liked_93 : decode cX11_liked 93 = .ok (.ireturn, 1) := by decide +kernel
theorem dX11_liked_94 : decode cX11_liked 94 = .ok (.iconst 4, 1) := by decide +kernel
theorem dX11_liked_95 : decode cX11_liked 95 = .ok (.iload 4, 2) := by decide +kernel
theorem dX11_liked_97 : decode cX11_liked 97 = .ok (.imul, 1) := by decide +kernel
theorem dX11_liked_98 : decode cX11_liked 98 = .ok (.iload 5, 2) := by decide +kernel
theorem dX11_liked_100 : decode cX11_liked 100 = .ok (.if_icmp .ge 7, 3) := by decide +kernel
theorem dX11_liked_103 : decode cX11_liked 103 = .ok (.iconst (-1), 1) := by decide +kernel
theorem dX11_liked_104 : decode cX11_liked 104 = .ok (.goto 15, 3) := by decide +kernel
theorem dX11_liked_107 : decode cX11_liked 107 = .ok (.iload 4, 2) := by decide +kernel
theorem dX11_liked_109 : decode cX11_liked 109 = .ok (.iload 5, 2) := by decide +kernel
theorem dX11_liked_111 : decode cX11_liked 111 = .ok (.if_icmp .le 7, 3) := by decide +kernel
theorem dX11_liked_114 : decode cX11_liked 114 = .ok (.iconst 1, 1) := by decide +kernel
theorem dX11_liked_115 : decode cX11_liked 115 = .ok (.goto 4, 3) := by decide +kernel
theorem dX11_liked_118 : decode cX11_liked 118 = .ok (.iconst 0, 1) := by decide +kernel
theorem dX11_liked_119 : decode cX11_liked 119 = .ok (.ireturn, 1) := by decide +kernel
theorem dX11_liked_120 : decode cX11_liked 120 = .ok (.iload 4, 2) := by decide +kernel
theorem dX11_liked_122 : decode cX11_liked 122 = .ok (.ifCond .le 7, 3) := by decide +kernel
theorem dX11_liked_125 : decode cX11_liked 125 = .ok (.iconst (-1), 1) := by decide +kernel
theorem dX11_liked_126 : decode cX11_liked 126 = .ok (.goto 16, 3) := by decide +kernel
theorem dX11_liked_129 : decode cX11_liked 129 = .ok (.aload_n 0, 1) := by decide +kernel
theorem dX11_liked_130 : decode cX11_liked 130 = .ok (.iload_n 1, 1) := by decide +kernel
theorem dX11_liked_131 : decode cX11_liked 131 = .ok (.iconst 0, 1) := by decide +kernel
theorem dX11_liked_132 : decode cX11_liked 132 = .ok (.bipush 12, 2) := by decide +kernel
theorem dX11_liked_134 : decode cX11_liked 134 = .ok (.invokevirtual 273, 3) := by decide +kernel
theorem dX11_liked_137 : decode cX11_liked 137 = .ok (.iload 5, 2) := by decide +kernel
theorem dX11_liked_139 : decode cX11_liked 139 = .ok (.invokestatic 277, 3) := by decide +kernel
theorem dX11_liked_142 : decode cX11_liked 142 = .ok (.ireturn, 1) := by decide +kernel
theorem dX11_wind_0 : decode cX11_wind 0 = .ok (.iload_n 1, 1) := by decide +kernel
theorem dX11_wind_1 : decode cX11_wind 1 = .ok (.bipush 9, 2) := by decide +kernel
theorem dX11_wind_3 : decode cX11_wind 3 = .ok (.invokestatic 111, 3) := by decide +kernel
theorem dX11_wind_6 : decode cX11_wind 6 = .ok (.ifCond .eq 29, 3) := by decide +kernel
theorem dX11_wind_9 : decode cX11_wind 9 = .ok (.iload_n 2, 1) := by decide +kernel
theorem dX11_wind_10 : decode cX11_wind 10 = .ok (.iconst 2, 1) := by decide +kernel
theorem dX11_wind_11 : decode cX11_wind 11 = .ok (.invokestatic 111, 3) := by decide +kernel
theorem dX11_wind_14 : decode cX11_wind 14 = .ok (.ifCond .eq 21, 3) := by decide +kernel
theorem dX11_wind_17 : decode cX11_wind 17 = .ok (.aload_n 0, 1) := by decide +kernel
theorem dX11_wind_18 : decode cX11_wind 18 = .ok (.getfield 26, 3) := by decide +kernel
theorem dX11_wind_21 : decode cX11_wind 21 = .ok (.aload_n 0, 1) := by decide +kernel
theorem dX11_wind_22 : decode cX11_wind 22 = .ok (.getfield 10, 3) := by decide +kernel
theorem dX11_wind_25 : decode cX11_wind 25 = .ok (.aload_n 0, 1) := by decide +kernel
theorem dX11_wind_26 : decode cX11_wind 26 = .ok (.getfield 19, 3) := by decide +kernel
theorem dX11_wind_29 : decode cX11_wind 29 = .ok (.invokevirtual 263, 3) := by decide +kernel
theorem dX11_wind_32 : decode cX11_wind 32 = .ok (.ifCond .ne 5, 3) := by decide +kernel
theorem dX11_wind_35 : decode cX11_wind 35 = .ok (.iconst (-1), 1) := by decide +kernel
theorem dX11_wind_36 : decode cX11_wind 36 = .ok (.ireturn, 1) := by decide +kernel
theorem dX11_wind_37 : decode cX11_wind 37 = .ok (.aload_n 0, 1) := by decide +kernel
theorem dX11_wind_38 : decode cX11_wind 38 = .ok (.getfield 33, 3) := by decide +kernel
theorem dX11_wind_41 : decode cX11_wind 41 = .ok (.iload_n 1, 1) := by decide +kernel
theorem dX11_wind_42 : decode cX11_wind 42 = .ok (.aload_n 0, 1) := by decide +kernel
theorem dX11_wind_43 : decode cX11_wind 43 = .ok (.getfield 10, 3) := by decide +kernel
theorem dX11_wind_46 : decode cX11_wind 46 = .ok (.aload_n 0, 1) := by decide +kernel
theorem dX11_wind_47 : decode cX11_wind 47 = .ok (.getfield 19, 3) := by decide +kernel
theorem dX11_wind_50 : decode cX11_wind 50 = .ok (.aload_n 0, 1) := by decide +kernel
theorem dX11_wind_51 : decode cX11_wind 51 = .ok (.getfield 26, 3) := by decide +kernel
theorem dX11_wind_54 : decode cX11_wind 54 = .ok (.invokevirtual 280, 3) := by decide +kernel
theorem dX11_wind_57 : decode cX11_wind 57 = .ok (.iload_n 2, 1) := by decide +kernel
theorem dX11_wind_58 : decode cX11_wind 58 = .ok (.ifCond .ne 11, 3) := by decide +kernel
theorem dX11_wind_61 : decode cX11_wind 61 = .ok (.aload_n 0, 1) := by decide +kernel
theorem dX11_wind_62 : decode cX11_wind 62 = .ok (.getfield 33, 3) := by decide +kernel
theorem dX11_wind_65 : decode cX11_wind 65 = .ok (.getfield 284, 3) := by decide +kernel
theorem dX11_wind_68 : decode cX11_wind 68 = .ok (.ireturn, 1) := by decide +kernel
theorem dX11_wind_69 : decode cX11_wind 69 = .ok (.aload_n 0, 1) := by decide +kernel
theorem dX11_wind_70 : decode cX11_wind 70 = .ok (.getfield 33, 3) := by decide +kernel
theorem dX11_wind_73 : decode cX11_wind 73 = .ok (.getfield 284, 3) := by decide +kernel
theorem dX11_wind_76 : decode cX11_wind 76 = .ok (.ifCond .ne 5, 3) := by decide +kernel
theorem dX11_wind_79 : decode cX11_wind 79 = .ok (.iconst (-1), 1) := by decide +kernel
theorem dX11_wind_80 : decode cX11_wind 80 = .ok (.ireturn, 1) := by decide +kernel
theorem dX11_wind_81 : decode cX11_wind 81 = .ok (.iload_n 2, 1) := by decide +kernel
theorem dX11_wind_82 : decode cX11_wind 82 = .ok (.iconst 1, 1) := by decide +kernel
theorem dX11_wind_83 : decode cX11_wind 83 = .ok (.if_icmp .ne 13, 3) := by decide +kernel
theorem dX11_wind_86 : decode cX11_wind 86 = .ok (.aload_n 0, 1) := by decide +kernel
theorem dX11_wind_87 : decode cX11_wind 87 = .ok (.getfield 33, 3) := by decide +kernel
theorem dX11_wind_90 : decode cX11_wind 90 = .ok (.getfield 287, 3) := by decide +kernel
theorem dX11_wind_93 : decode cX11_wind 93 = .ok (.goto 10, 3) := by decide +kernel
theorem dX11_wind_96 : decode cX11_wind 96 = .ok (.aload_n 0, 1) := by decide +kernel
theorem dX11_wind_97 : decode cX11_wind 97 = .ok (.getfield 33, 3) := by decide +kernel
theorem dX11_wind_100 : decode cX11_wind 100 = .ok (.getfield 290, 3) := by decide +kernel
theorem dX11_wind_103 : decode cX11_wind 103 = .ok (.aload_n 0, 1) := by decide +kernel
theorem dX11_wind_104 : decode cX11_wind 104 = .ok (.getfield 33, 3) := by decide +kernel
theorem dX11_wind_107 : decode cX11_wind 107 = .ok (.getfield 284, 3) := by decide +kernel
theorem dX11_wind_110 : decode cX11_wind 110 = .ok (.idiv, 1) := by decide +kernel
theorem dX11_wind_111 : decode cX11_wind 111 = .ok (.ireturn, 1) := by decide +kernel
theorem dX11_grew_0 : decode cX11_grew 0 = .ok (.iload_n 1, 1) := by decide +kernel
theorem dX11_grew_1 : decode cX11_grew 1 = .ok (.iconst 3, 1) := by decide +kernel
theorem dX11_grew_2 : decode cX11_grew 2 = .ok (.invokestatic 111, 3) := by decide +kernel
theorem dX11_grew_5 : decode cX11_grew 5 = .ok (.ifCond .eq 21, 3) := by decide +kernel
theorem dX11_grew_8 : decode cX11_grew 8 = .ok (.aload_n 0, 1) := by decide +kernel
theorem dX11_grew_9 : decode cX11_grew 9 = .ok (.getfield 26, 3) := by decide +kernel
theorem dX11_grew_12 : decode cX11_grew 12 = .ok (.aload_n 0, 1) := by decide +kernel
theorem dX11_grew_13 : decode cX11_grew 13 = .ok (.getfield 10, 3) := by decide +kernel
theorem dX11_grew_16 : decode cX11_grew 16 = .ok (.aload_n 0, 1) := by decide +kernel
theorem dX11_grew_17 : decode cX11_grew 17 = .ok (.getfield 19, 3) := by decide +kernel
theorem dX11_grew_20 : decode cX11_grew 20 = .ok (.invokevirtual 263, 3) := by decide +kernel
theorem dX11_grew_23 : decode cX11_grew 23 = .ok (.ifCond .ne 5, 3) := by decide +kernel
theorem dX11_grew_26 : decode cX11_grew 26 = .ok (.iconst (-1), 1) := by decide +kernel
theorem dX11_grew_27 : decode cX11_grew 27 = .ok (.ireturn, 1) := by decide +kernel
theorem dX11_grew_28 : decode cX11_grew 28 = .ok (.aload_n 0, 1) := by decide +kernel
theorem dX11_grew_29 : decode cX11_grew 29 = .ok (.getfield 33, 3) := by decide +kernel
theorem dX11_grew_32 : decode cX11_grew 32 = .ok (.aload_n 0, 1) := by decide +kernel
theorem dX11_grew_33 : decode cX11_grew 33 = .ok (.getfield 10, 3) := by decide +kernel
theorem dX11_grew_36 : decode cX11_grew 36 = .ok (.aload_n 0, 1) := by decide +kernel
theorem dX11_grew_37 : decode cX11_grew 37 = .ok (.getfield 19, 3) := by decide +kernel
theorem dX11_grew_40 : decode cX11_grew 40 = .ok (.aload_n 0, 1) := by decide +kernel
theorem dX11_grew_41 : decode cX11_grew 41 = .ok (.getfield 26, 3) := by decide +kernel
theorem dX11_grew_44 : decode cX11_grew 44 = .ok (.invokevirtual 293, 3) := by decide +kernel
theorem dX11_grew_47 : decode cX11_grew 47 = .ok (.iload_n 1, 1) := by decide +kernel
theorem dX11_grew_48 : decode cX11_grew 48 = .ok (.tableswitch 60 0 2 #[28, 36, 51], 28) := by decide +kernel
theorem dX11_grew_76 : decode cX11_grew 76 = .ok (.aload_n 0, 1) := by decide +kernel
theorem dX11_grew_77 : decode cX11_grew 77 = .ok (.getfield 33, 3) := by decide +kernel
theorem dX11_grew_80 : decode cX11_grew 80 = .ok (.invokevirtual 297, 3) := by decide +kernel
theorem dX11_grew_83 : decode cX11_grew 83 = .ok (.ireturn, 1) := by decide +kernel
theorem dX11_grew_84 : decode cX11_grew 84 = .ok (.aload_n 0, 1) := by decide +kernel
theorem dX11_grew_85 : decode cX11_grew 85 = .ok (.getfield 33, 3) := by decide +kernel
theorem dX11_grew_88 : decode cX11_grew 88 = .ok (.aload_n 0, 1) := by decide +kernel
theorem dX11_grew_89 : decode cX11_grew 89 = .ok (.getfield 33, 3) := by decide +kernel
theorem dX11_grew_92 : decode cX11_grew 92 = .ok (.invokevirtual 297, 3) := by decide +kernel
theorem dX11_grew_95 : decode cX11_grew 95 = .ok (.invokevirtual 300, 3) := by decide +kernel
theorem dX11_grew_98 : decode cX11_grew 98 = .ok (.ireturn, 1) := by decide +kernel
theorem dX11_grew_99 : decode cX11_grew 99 = .ok (.aload_n 0, 1) := by decide +kernel
theorem dX11_grew_100 : decode cX11_grew 100 = .ok (.getfield 33, 3) := by decide +kernel
theorem dX11_grew_103 : decode cX11_grew 103 = .ok (.iconst 0, 1) := by decide +kernel
theorem dX11_grew_104 : decode cX11_grew 104 = .ok (.invokevirtual 300, 3) := by decide +kernel
theorem dX11_grew_107 : decode cX11_grew 107 = .ok (.ireturn, 1) := by decide +kernel
theorem dX11_grew_108 : decode cX11_grew 108 = .ok (.aload_n 0, 1) := by decide +kernel
theorem dX11_grew_109 : decode cX11_grew 109 = .ok (.getfield 33, 3) := by decide +kernel
theorem dX11_grew_112 : decode cX11_grew 112 = .ok (.getfield 303, 3) := by decide +kernel
theorem dX11_grew_115 : decode cX11_grew 115 = .ok (.ireturn, 1) := by decide +kernel
theorem dX11_late_0 : decode cX11_late 0 = .ok (.aload_n 0, 1) := by decide +kernel
theorem dX11_late_1 : decode cX11_late 1 = .ok (.invokevirtual 306, 3) := by decide +kernel
theorem dX11_late_4 : decode cX11_late 4 = .ok (.aload_n 0, 1) := by decide +kernel
theorem dX11_late_5 : decode cX11_late 5 = .ok (.invokevirtual 309, 3) := by decide +kernel
theorem dX11_late_8 : decode cX11_late 8 = .ok (.istore_n 2, 1) := by decide +kernel
theorem dX11_late_9 : decode cX11_late 9 = .ok (.iload_n 1, 1) := by decide +kernel
theorem dX11_late_10 : decode cX11_late 10 = .ok (.iconst 2, 1) := by decide +kernel
theorem dX11_late_11 : decode cX11_late 11 = .ok (.invokestatic 111, 3) := by decide +kernel
theorem dX11_late_14 : decode cX11_late 14 = .ok (.ifCond .eq 39, 3) := by decide +kernel
theorem dX11_late_17 : decode cX11_late 17 = .ok (.iload_n 2, 1) := by decide +kernel
theorem dX11_late_18 : decode cX11_late 18 = .ok (.iconst (-1), 1) := by decide +kernel
theorem dX11_late_19 : decode cX11_late 19 = .ok (.if_icmp .ne 5, 3) := by decide +kernel
theorem dX11_late_22 : decode cX11_late 22 = .ok (.iconst (-1), 1) := by decide +kernel
theorem dX11_late_23 : decode cX11_late 23 = .ok (.ireturn, 1) := by decide +kernel
theorem dX11_late_24 : decode cX11_late 24 = .ok (.iload_n 1, 1) := by decide +kernel
theorem dX11_late_25 : decode cX11_late 25 = .ok (.ifCond .ne 7, 3) := by decide +kernel
theorem dX11_late_28 : decode cX11_late 28 = .ok (.iload_n 2, 1) := by decide +kernel
theorem dX11_late_29 : decode cX11_late 29 = .ok (.goto 23, 3) := by decide +kernel
theorem dX11_late_32 : decode cX11_late 32 = .ok (.iload_n 1, 1) := by decide +kernel
theorem dX11_late_33 : decode cX11_late 33 = .ok (.iconst 1, 1) := by decide +kernel
theorem dX11_late_34 : decode cX11_late 34 = .ok (.if_icmp .ne 12, 3) := by decide +kernel
theorem dX11_late_37 : decode cX11_late 37 = .ok (.aload_n 0, 1) := by decide +kernel
theorem dX11_late_38 : decode cX11_late 38 = .ok (.getfield 83, 3) := by decide +kernel
theorem dX11_late_41 : decode cX11_late 41 = .ok (.iload_n 2, 1) := by decide +kernel
theorem dX11_late_42 : decode cX11_late 42 = .ok (.iaload, 1) := by decide +kernel
theorem dX11_late_43 : decode cX11_late 43 = .ok (.goto 9, 3) := by decide +kernel
theorem dX11_late_46 : decode cX11_late 46 = .ok (.aload_n 0, 1) := by decide +kernel
theorem dX11_late_47 : decode cX11_late 47 = .ok (.getfield 86, 3) := by decide +kernel
theorem dX11_late_50 : decode cX11_late 50 = .ok (.iload_n 2, 1) := by decide +kernel
theorem dX11_late_51 : decode cX11_late 51 = .ok (.iaload, 1) := by decide +kernel
theorem dX11_late_52 : decode cX11_late 52 = .ok (.ireturn, 1) := by decide +kernel
theorem dX11_late_53 : decode cX11_late 53 = .ok (.iload_n 1, 1) := by decide +kernel
theorem dX11_late_54 : decode cX11_late 54 = .ok (.bipush 10, 2) := by decide +kernel
theorem dX11_late_56 : decode cX11_late 56 = .ok (.if_icmp .lt 22, 3) := by decide +kernel
theorem dX11_late_59 : decode cX11_late 59 = .ok (.iload_n 1, 1) := by decide +kernel
theorem dX11_late_60 : decode cX11_late 60 = .ok (.bipush 10, 2) := by decide +kernel
theorem dX11_late_62 : decode cX11_late 62 = .ok (.isub, 1) := by decide +kernel
theorem dX11_late_63 : decode cX11_late 63 = .ok (.bipush 10, 2) := by decide +kernel
theorem dX11_late_65 : decode cX11_late 65 = .ok (.if_icmp .ge 13, 3) := by decide +kernel
theorem dX11_late_68 : decode cX11_late 68 = .ok (.aload_n 0, 1) := by decide +kernel
theorem dX11_late_69 : decode cX11_late 69 = .ok (.getfield 83, 3) := by decide +kernel
theorem dX11_late_72 : decode cX11_late 72 = .ok (.iload_n 1, 1) := by decide +kernel
theorem dX11_late_73 : decode cX11_late 73 = .ok (.bipush 10, 2) := by decide +kernel
theorem dX11_late_75 : decode cX11_late 75 = .ok (.isub, 1) := by decide +kernel
theorem dX11_late_76 : decode cX11_late 76 = .ok (.iaload, 1) := by decide +kernel
theorem dX11_late_77 : decode cX11_late 77 = .ok (.ireturn, 1) := by decide +kernel
theorem dX11_late_78 : decode cX11_late 78 = .ok (.iload_n 1, 1) := by decide +kernel
theorem dX11_late_79 : decode cX11_late 79 = .ok (.bipush 20, 2) := by decide +kernel
theorem dX11_late_81 : decode cX11_late 81 = .ok (.if_icmp .lt 22, 3) := by decide +kernel
theorem dX11_late_84 : decode cX11_late 84 = .ok (.iload_n 1, 1) := by decide +kernel
theorem dX11_late_85 : decode cX11_late 85 = .ok (.bipush 20, 2) := by decide +kernel
theorem dX11_late_87 : decode cX11_late 87 = .ok (.isub, 1) := by decide +kernel
theorem dX11_late_88 : decode cX11_late 88 = .ok (.bipush 10, 2) := by decide +kernel
theorem dX11_late_90 : decode cX11_late 90 = .ok (.if_icmp .ge 13, 3) := by decide +kernel
theorem dX11_late_93 : decode cX11_late 93 = .ok (.aload_n 0, 1) := by decide +kernel
theorem dX11_late_94 : decode cX11_late 94 = .ok (.getfield 86, 3) := by decide +kernel
theorem dX11_late_97 : decode cX11_late 97 = .ok (.iload_n 1, 1) := by decide +kernel
theorem dX11_late_98 : decode cX11_late 98 = .ok (.bipush 20, 2) := by decide +kernel
theorem dX11_late_100 : decode cX11_late 100 = .ok (.isub, 1) := by decide +kernel
theorem dX11_late_101 : decode cX11_late 101 = .ok (.iaload, 1) := by decide +kernel
theorem dX11_late_102 : decode cX11_late 102 = .ok (.ireturn, 1) := by decide +kernel
theorem dX11_late_103 : decode cX11_late 103 = .ok (.iconst (-1), 1) := by decide +kernel
theorem dX11_late_104 : decode cX11_late 104 = .ok (.ireturn, 1) := by decide +kernel
theorem dX11_copied_0 : decode cX11_copied 0 = .ok (.aload_n 0, 1) := by decide +kernel
theorem dX11_copied_1 : decode cX11_copied 1 = .ok (.getfield 10, 3) := by decide +kernel
theorem dX11_copied_4 : decode cX11_copied 4 = .ok (.iload_n 1, 1) := by decide +kernel
theorem dX11_copied_5 : decode cX11_copied 5 = .ok (.invokevirtual 125, 3) := by decide +kernel
theorem dX11_copied_8 : decode cX11_copied 8 = .ok (.ifnull 11, 3) := by decide +kernel
theorem dX11_copied_11 : decode cX11_copied 11 = .ok (.iload_n 2, 1) := by decide +kernel
theorem dX11_copied_12 : decode cX11_copied 12 = .ok (.iconst 2, 1) := by decide +kernel
theorem dX11_copied_13 : decode cX11_copied 13 = .ok (.invokestatic 111, 3) := by decide +kernel
theorem dX11_copied_16 : decode cX11_copied 16 = .ok (.ifCond .ne 5, 3) := by decide +kernel
theorem dX11_copied_19 : decode cX11_copied 19 = .ok (.iconst (-1), 1) := by decide +kernel
theorem dX11_copied_20 : decode cX11_copied 20 = .ok (.ireturn, 1) := by decide +kernel
theorem dX11_copied_21 : decode cX11_copied 21 = .ok (.iconst 0, 1) := by decide +kernel
theorem dX11_copied_22 : decode cX11_copied 22 = .ok (.istore_n 3, 1) := by decide +kernel
theorem dX11_copied_23 : decode cX11_copied 23 = .ok (.iconst 0, 1) := by decide +kernel
theorem dX11_copied_24 : decode cX11_copied 24 = .ok (.istore 4, 2) := by decide +kernel
theorem dX11_copied_26 : decode cX11_copied 26 = .ok (.iload 4, 2) := by decide +kernel
theorem dX11_copied_28 : decode cX11_copied 28 = .ok (.aload_n 0, 1) := by decide +kernel
theorem dX11_copied_29 : decode cX11_copied 29 = .ok (.getfield 10, 3) := by decide +kernel
theorem dX11_copied_32 : decode cX11_copied 32 = .ok (.getfield 155, 3) := by decide +kernel
theorem dX11_copied_35 : decode cX11_copied 35 = .ok (.if_icmp .ge 80, 3) := by decide +kernel
theorem dX11_copied_38 : decode cX11_copied 38 = .ok (.aload_n 0, 1) := by decide +kernel
theorem dX11_copied_39 : decode cX11_copied 39 = .ok (.getfield 10, 3) := by decide +kernel
theorem dX11_copied_42 : decode cX11_copied 42 = .ok (.iload 4, 2) := by decide +kernel
theorem dX11_copied_44 : decode cX11_copied 44 = .ok (.invokevirtual 187, 3) := by decide +kernel
theorem dX11_copied_47 : decode cX11_copied 47 = .ok (.astore 5, 2) := by decide +kernel
theorem dX11_copied_49 : decode cX11_copied 49 = .ok (.aload 5, 2) := by decide +kernel
theorem dX11_copied_51 : decode cX11_copied 51 = .ok (.ifnull 58, 3) := by decide +kernel
theorem dX11_copied_54 : decode cX11_copied 54 = .ok (.aload 5, 2) := by decide +kernel
theorem dX11_copied_56 : decode cX11_copied 56 = .ok (.getfield 190, 3) := by decide +kernel
theorem dX11_copied_59 : decode cX11_copied 59 = .ok (.getfield 194, 3) := by decide +kernel
theorem dX11_copied_62 : decode cX11_copied 62 = .ok (.iload_n 1, 1) := by decide +kernel
theorem dX11_copied_63 : decode cX11_copied 63 = .ok (.if_icmp .ne 46, 3) := by decide +kernel
theorem dX11_copied_66 : decode cX11_copied 66 = .ok (.iload_n 2, 1) := by decide +kernel
theorem dX11_copied_67 : decode cX11_copied 67 = .ok (.ifCond .ne 14, 3) := by decide +kernel
theorem dX11_copied_70 : decode cX11_copied 70 = .ok (.aload 5, 2) := by decide +kernel
theorem dX11_copied_72 : decode cX11_copied 72 = .ok (.invokestatic 312, 3) := by decide +kernel
theorem dX11_copied_75 : decode cX11_copied 75 = .ok (.ifCond .eq 34, 3) := by decide +kernel
theorem dX11_copied_78 : decode cX11_copied 78 = .ok (.goto 28, 3) := by decide +kernel
theorem dX11_copied_81 : decode cX11_copied 81 = .ok (.iload_n 2, 1) := by decide +kernel
theorem dX11_copied_82 : decode cX11_copied 82 = .ok (.iconst 1, 1) := by decide +kernel
theorem dX11_copied_83 : decode cX11_copied 83 = .ok (.if_icmp .ne 14, 3) := by decide +kernel
theorem dX11_copied_86 : decode cX11_copied 86 = .ok (.aload 5, 2) := by decide +kernel
theorem dX11_copied_88 : decode cX11_copied 88 = .ok (.invokestatic 315, 3) := by decide +kernel
theorem dX11_copied_91 : decode cX11_copied 91 = .ok (.ifCond .eq 18, 3) := by decide +kernel
theorem dX11_copied_94 : decode cX11_copied 94 = .ok (.goto 12, 3) := by decide +kernel
theorem dX11_copied_97 : decode cX11_copied 97 = .ok (.aload_n 0, 1) := by decide +kernel
theorem dX11_copied_98 : decode cX11_copied 98 = .ok (.aload 5, 2) := by decide +kernel
theorem dX11_copied_100 : decode cX11_copied 100 = .ok (.invokevirtual 219, 3) := by decide +kernel
theorem dX11_copied_103 : decode cX11_copied 103 = .ok (.ifCond .eq 6, 3) := by decide +kernel
theorem dX11_copied_106 : decode cX11_copied 106 = .ok (.iinc 3 1, 3) := by decide +kernel
theorem dX11_copied_109 : decode cX11_copied 109 = .ok (.iinc 4 1, 3) := by decide +kernel
theorem dX11_copied_112 : decode cX11_copied 112 = .ok (.goto (-86), 3) := by decide +kernel
theorem dX11_copied_115 : decode cX11_copied 115 = .ok (.iload_n 3, 1) := by decide +kernel
theorem dX11_copied_116 : decode cX11_copied 116 = .ok (.ireturn, 1) := by decide +kernel
theorem dX11_find_0 : decode cX11_find 0 = .ok (.iconst 0, 1) := by decide +kernel
theorem dX11_find_1 : decode cX11_find 1 = .ok (.istore_n 2, 1) := by decide +kernel
theorem dX11_find_2 : decode cX11_find 2 = .ok (.iconst 0, 1) := by decide +kernel
theorem dX11_find_3 : decode cX11_find 3 = .ok (.istore_n 3, 1) := by decide +kernel
theorem dX11_find_4 : decode cX11_find 4 = .ok (.iload_n 3, 1) := by decide +kernel
theorem dX11_find_5 : decode cX11_find 5 = .ok (.aload_n 0, 1) := by decide +kernel
theorem dX11_find_6 : decode cX11_find 6 = .ok (.getfield 10, 3) := by decide +kernel
theorem dX11_find_9 : decode cX11_find 9 = .ok (.getfield 155, 3) := by decide +kernel
theorem dX11_find_12 : decode cX11_find 12 = .ok (.if_icmp .ge 43, 3) := by decide +kernel
theorem dX11_find_15 : decode cX11_find 15 = .ok (.aload_n 0, 1) := by decide +kernel
theorem dX11_find_16 : decode cX11_find 16 = .ok (.getfield 10, 3) := by decide +kernel
theorem dX11_find_19 : decode cX11_find 19 = .ok (.iload_n 3, 1) := by decide +kernel
theorem dX11_find_20 : decode cX11_find 20 = .ok (.invokevirtual 187, 3) := by decide +kernel
theorem dX11_find_23 : decode cX11_find 23 = .ok (.astore 4, 2) := by decide +kernel
theorem dX11_find_25 : decode cX11_find 25 = .ok (.aload 4, 2) := by decide +kernel
theorem dX11_find_27 : decode cX11_find 27 = .ok (.ifnull 22, 3) := by decide +kernel
theorem dX11_find_30 : decode cX11_find 30 = .ok (.aload_n 0, 1) := by decide +kernel
theorem dX11_find_31 : decode cX11_find 31 = .ok (.aload 4, 2) := by decide +kernel
theorem dX11_find_33 : decode cX11_find 33 = .ok (.invokevirtual 219, 3) := by decide +kernel
theorem dX11_find_36 : decode cX11_find 36 = .ok (.ifCond .eq 13, 3) := by decide +kernel
theorem dX11_find_39 : decode cX11_find 39 = .ok (.iload_n 2, 1) := by decide +kernel
theorem dX11_find_40 : decode cX11_find 40 = .ok (.iload_n 1, 1) := by decide +kernel
theorem dX11_find_41 : decode cX11_find 41 = .ok (.if_icmp .ne 5, 3) := by decide +kernel
theorem dX11_find_44 : decode cX11_find 44 = .ok (.iload_n 3, 1) := by decide +kernel
theorem dX11_find_45 : decode cX11_find 45 = .ok (.ireturn, 1) := by decide +kernel
theorem dX11_find_46 : decode cX11_find 46 = .ok (.iinc 2 1, 3) := by decide +kernel
theorem dX11_find_49 : decode cX11_find 49 = .ok (.iinc 3 1, 3) := by decide +kernel
theorem dX11_find_52 : decode cX11_find 52 = .ok (.goto (-48), 3) := by decide +kernel
theorem dX11_find_55 : decode cX11_find 55 = .ok (.iconst (-1), 1) := by decide +kernel
theorem dX11_find_56 : decode cX11_find 56 = .ok (.ireturn, 1) := by decide +kernel
theorem dX11_wished_0 : decode cX11_wished 0 = .ok (.aload_n 0, 1) := by decide +kernel
theorem dX11_wished_1 : decode cX11_wished 1 = .ok (.getfield 10, 3) := by decide +kernel
theorem dX11_wished_4 : decode cX11_wished 4 = .ok (.iload_n 1, 1) := by decide +kernel
theorem dX11_wished_5 : decode cX11_wished 5 = .ok (.invokevirtual 115, 3) := by decide +kernel
theorem dX11_wished_8 : decode cX11_wished 8 = .ok (.ifCond .eq 11, 3) := by decide +kernel
theorem dX11_wished_11 : decode cX11_wished 11 = .ok (.iload_n 2, 1) := by decide +kernel
theorem dX11_wished_12 : decode cX11_wished 12 = .ok (.iconst 3, 1) := by decide +kernel
theorem dX11_wished_13 : decode cX11_wished 13 = .ok (.invokestatic 111, 3) := by decide +kernel
theorem dX11_wished_16 : decode cX11_wished 16 = .ok (.ifCond .ne 7, 3) := by decide +kernel
theorem dX11_wished_19 : decode cX11_wished 19 = .ok (.ldc_w 318, 3) := by decide +kernel
theorem dX11_wished_22 : decode cX11_wished 22 = .ok (.ireturn, 1) := by decide +kernel
theorem dX11_wished_23 : decode cX11_wished 23 = .ok (.iconst 0, 1) := by decide +kernel
theorem dX11_wished_24 : decode cX11_wished 24 = .ok (.istore_n 3, 1) := by decide +kernel
theorem dX11_wished_25 : decode cX11_wished 25 = .ok (.iconst 0, 1) := by decide +kernel
theorem dX11_wished_26 : decode cX11_wished 26 = .ok (.istore 4, 2) := by decide +kernel
theorem dX11_wished_28 : decode cX11_wished 28 = .ok (.iconst 0, 1) := by decide +kernel
theorem dX11_wished_29 : decode cX11_wished 29 = .ok (.istore 5, 2) := by decide +kernel
theorem dX11_wished_31 : decode cX11_wished 31 = .ok (.iload 5, 2) := by decide +kernel
theorem dX11_wished_33 : decode cX11_wished 33 = .ok (.aload_n 0, 1) := by decide +kernel
theorem dX11_wished_34 : decode cX11_wished 34 = .ok (.getfield 10, 3) := by decide +kernel
theorem dX11_wished_37 : decode cX11_wished 37 = .ok (.getfield 155, 3) := by decide +kernel
theorem dX11_wished_40 : decode cX11_wished 40 = .ok (.if_icmp .ge 102, 3) := by decide +kernel
theorem dX11_wished_43 : decode cX11_wished 43 = .ok (.iload_n 3, 1) := by decide +kernel
theorem dX11_wished_44 : decode cX11_wished 44 = .ok (.bipush 12, 2) := by decide +kernel
theorem dX11_wished_46 : decode cX11_wished 46 = .ok (.if_icmp .ge 96, 3) := by decide +kernel
theorem dX11_wished_49 : decode cX11_wished 49 = .ok (.aload_n 0, 1) := by decide +kernel
theorem dX11_wished_50 : decode cX11_wished 50 = .ok (.getfield 10, 3) := by decide +kernel
theorem dX11_wished_53 : decode cX11_wished 53 = .ok (.iload 5, 2) := by decide +kernel
theorem dX11_wished_55 : decode cX11_wished 55 = .ok (.invokevirtual 319, 3) := by decide +kernel
theorem dX11_wished_58 : decode cX11_wished 58 = .ok (.astore 6, 2) := by decide +kernel
theorem dX11_wished_60 : decode cX11_wished 60 = .ok (.aload 6, 2) := by decide +kernel
theorem dX11_wished_62 : decode cX11_wished 62 = .ok (.ifnull 12, 3) := by decide +kernel
theorem dX11_wished_65 : decode cX11_wished 65 = .ok (.aload 6, 2) := by decide +kernel
theorem dX11_wished_67 : decode cX11_wished 67 = .ok (.invokevirtual 215, 3) := by decide +kernel
theorem dX11_wished_70 : decode cX11_wished 70 = .ok (.iload_n 1, 1) := by decide +kernel
theorem dX11_wished_71 : decode cX11_wished 71 = .ok (.if_icmp .eq 7, 3) := by decide +kernel
theorem dX11_wished_74 : decode cX11_wished 74 = .ok (.aconst_null, 1) := by decide +kernel
theorem dX11_wished_75 : decode cX11_wished 75 = .ok (.goto 9, 3) := by decide +kernel
theorem dX11_wished_78 : decode cX11_wished 78 = .ok (.aload_n 0, 1) := by decide +kernel
theorem dX11_wished_79 : decode cX11_wished 79 = .ok (.aload 6, 2) := by decide +kernel
theorem dX11_wished_81 : decode cX11_wished 81 = .ok (.invokevirtual 322, 3) := by decide +kernel
theorem dX11_wished_84 : decode cX11_wished 84 = .ok (.astore 7, 2) := by decide +kernel
theorem dX11_wished_86 : decode cX11_wished 86 = .ok (.aload 6, 2) := by decide +kernel
theorem dX11_wished_88 : decode cX11_wished 88 = .ok (.ifnull 48, 3) := by decide +kernel
theorem dX11_wished_91 : decode cX11_wished 91 = .ok (.aload 7, 2) := by decide +kernel
theorem dX11_wished_93 : decode cX11_wished 93 = .ok (.ifnull 43, 3) := by decide +kernel
theorem dX11_wished_96 : decode cX11_wished 96 = .ok (.aload_n 0, 1) := by decide +kernel
theorem dX11_wished_97 : decode cX11_wished 97 = .ok (.getfield 89, 3) := by decide +kernel
theorem dX11_wished_100 : decode cX11_wished 100 = .ok (.iload_n 3, 1) := by decide +kernel
theorem dX11_wished_101 : decode cX11_wished 101 = .ok (.aload 6, 2) := by decide +kernel
theorem dX11_wished_103 : decode cX11_wished 103 = .ok (.getfield 206, 3) := by decide +kernel
theorem dX11_wished_106 : decode cX11_wished 106 = .ok (.aload 7, 2) := by decide +kernel
theorem dX11_wished_108 : decode cX11_wished 108 = .ok (.getfield 206, 3) := by decide +kernel
theorem dX11_wished_111 : decode cX11_wished 111 = .ok (.isub, 1) := by decide +kernel
theorem dX11_wished_112 : decode cX11_wished 112 = .ok (.iastore, 1) := by decide +kernel
theorem dX11_wished_113 : decode cX11_wished 113 = .ok (.iload 4, 2) := by decide +kernel
theorem dX11_wished_115 : decode cX11_wished 115 = .ok (.aload 6, 2) := by decide +kernel
theorem dX11_wished_117 : decode cX11_wished 117 = .ok (.getfield 212, 3) := by decide +kernel
theorem dX11_wished_120 : decode cX11_wished 120 = .ok (.ifCond .le 9, 3) := by decide +kernel
theorem dX11_wished_123 : decode cX11_wished 123 = .ok (.iconst 1, 1) := by decide +kernel
theorem dX11_wished_124 : decode cX11_wished 124 = .ok (.iload_n 3, 1) := by decide +kernel
theorem dX11_wished_125 : decode cX11_wished 125 = .ok (.ishl, 1) := by decide +kernel
theorem dX11_wished_126 : decode cX11_wished 126 = .ok (.goto 4, 3) := by decide +kernel
theorem dX11_wished_129 : decode cX11_wished 129 = .ok (.iconst 0, 1) := by decide +kernel
theorem dX11_wished_130 : decode cX11_wished 130 = .ok (.ior, 1) := by decide +kernel
theorem dX11_wished_131 : decode cX11_wished 131 = .ok (.istore 4, 2) := by decide +kernel
theorem dX11_wished_133 : decode cX11_wished 133 = .ok (.iinc 3 1, 3) := by decide +kernel
theorem dX11_wished_136 : decode cX11_wished 136 = .ok (.iinc 5 1, 3) := by decide +kernel
theorem dX11_wished_139 : decode cX11_wished 139 = .ok (.goto (-108), 3) := by decide +kernel
theorem dX11_wished_142 : decode cX11_wished 142 = .ok (.aload_n 0, 1) := by decide +kernel
theorem dX11_wished_143 : decode cX11_wished 143 = .ok (.iload 4, 2) := by decide +kernel
theorem dX11_wished_145 : decode cX11_wished 145 = .ok (.iload_n 3, 1) := by decide +kernel
theorem dX11_wished_146 : decode cX11_wished 146 = .ok (.invokevirtual 326, 3) := by decide +kernel
theorem dX11_wished_149 : decode cX11_wished 149 = .ok (.istore 5, 2) := by decide +kernel
theorem dX11_wished_151 : decode cX11_wished 151 = .ok (.iload_n 2, 1) := by decide +kernel
theorem dX11_wished_152 : decode cX11_wished 152 = .ok (.tableswitch 52 0 2 #[28, 38, 49], 28) := by decide +kernel
theorem dX11_wished_180 : decode cX11_wished 180 = .ok (.aload_n 0, 1) := by decide +kernel
theorem dX11_wished_181 : decode cX11_wished 181 = .ok (.iload 4, 2) := by decide +kernel
theorem dX11_wished_183 : decode cX11_wished 183 = .ok (.iload_n 3, 1) := by decide +kernel
theorem dX11_wished_184 : decode cX11_wished 184 = .ok (.iload 5, 2) := by decide +kernel
theorem dX11_wished_186 : decode cX11_wished 186 = .ok (.invokevirtual 329, 3) := by decide +kernel
theorem dX11_wished_189 : decode cX11_wished 189 = .ok (.ireturn, 1) := by decide +kernel
theorem dX11_wished_190 : decode cX11_wished 190 = .ok (.aload_n 0, 1) := by decide +kernel
theorem dX11_wished_191 : decode cX11_wished 191 = .ok (.iload 4, 2) := by decide +kernel
theorem dX11_wished_193 : decode cX11_wished 193 = .ok (.iload_n 3, 1) := by decide +kernel
theorem dX11_wished_194 : decode cX11_wished 194 = .ok (.ldc_w 318, 3) := by decide +kernel
theorem dX11_wished_197 : decode cX11_wished 197 = .ok (.invokevirtual 329, 3) := by decide +kernel
theorem dX11_wished_200 : decode cX11_wished 200 = .ok (.ireturn, 1) := by decide +kernel
theorem dX11_wished_201 : decode cX11_wished 201 = .ok (.iload 5, 2) := by decide +kernel
theorem dX11_wished_203 : decode cX11_wished 203 = .ok (.ireturn, 1) := by decide +kernel
theorem dX11_wished_204 : decode cX11_wished 204 = .ok (.iload_n 3, 1) := by decide +kernel
theorem dX11_wished_205 : decode cX11_wished 205 = .ok (.ireturn, 1) := by decide +kernel
theorem dX11_eight_0 : decode cX11_eight 0 = .ok (.iload_n 1, 1) := by decide +kernel
theorem dX11_eight_1 : decode cX11_eight 1 = .ok (.bipush 12, 2) := by decide +kernel
theorem dX11_eight_3 : decode cX11_eight 3 = .ok (.invokestatic 111, 3) := by decide +kernel
theorem dX11_eight_6 : decode cX11_eight 6 = .ok (.ifCond .eq 31, 3) := by decide +kernel
theorem dX11_eight_9 : decode cX11_eight 9 = .ok (.iload_n 2, 1) := by decide +kernel
theorem dX11_eight_10 : decode cX11_eight 10 = .ok (.bipush 99, 2) := by decide +kernel
theorem dX11_eight_12 : decode cX11_eight 12 = .ok (.invokestatic 111, 3) := by decide +kernel
theorem dX11_eight_15 : decode cX11_eight 15 = .ok (.ifCond .eq 22, 3) := by decide +kernel
theorem dX11_eight_18 : decode cX11_eight 18 = .ok (.iload_n 3, 1) := by decide +kernel
theorem dX11_eight_19 : decode cX11_eight 19 = .ok (.sipush 9999, 3) := by decide +kernel
theorem dX11_eight_22 : decode cX11_eight 22 = .ok (.invokestatic 111, 3) := by decide +kernel
theorem dX11_eight_25 : decode cX11_eight 25 = .ok (.ifCond .eq 12, 3) := by decide +kernel
theorem dX11_eight_28 : decode cX11_eight 28 = .ok (.iload 4, 2) := by decide +kernel
theorem dX11_eight_30 : decode cX11_eight 30 = .ok (.iconst 3, 1) := by decide +kernel
theorem dX11_eight_31 : decode cX11_eight 31 = .ok (.invokestatic 111, 3) := by decide +kernel
theorem dX11_eight_34 : decode cX11_eight 34 = .ok (.ifCond .ne 7, 3) := by decide +kernel
theorem dX11_eight_37 : decode cX11_eight 37 = .ok (.ldc_w 332, 3) := by decide +kernel
theorem dX11_eight_40 : decode cX11_eight 40 = .ok (.ireturn, 1) := by decide +kernel
theorem dX11_eight_41 : decode cX11_eight 41 = .ok (.iconst 0, 1) := by decide +kernel
theorem dX11_eight_42 : decode cX11_eight 42 = .ok (.istore 5, 2) := by decide +kernel
theorem dX11_eight_44 : decode cX11_eight 44 = .ok (.iconst 0, 1) := by decide +kernel
theorem dX11_eight_45 : decode cX11_eight 45 = .ok (.istore 6, 2) := by decide +kernel
theorem dX11_eight_47 : decode cX11_eight 47 = .ok (.iconst 0, 1) := by decide +kernel
theorem dX11_eight_48 : decode cX11_eight 48 = .ok (.istore 7, 2) := by decide +kernel
theorem dX11_eight_50 : decode cX11_eight 50 = .ok (.iconst 0, 1) := by decide +kernel
theorem dX11_eight_51 : decode cX11_eight 51 = .ok (.istore 8, 2) := by decide +kernel
theorem dX11_eight_53 : decode cX11_eight 53 = .ok (.iload 8, 2) := by decide +kernel
theorem dX11_eight_55 : decode cX11_eight 55 = .ok (.aload_n 0, 1) := by decide +kernel
theorem dX11_eight_56 : decode cX11_eight 56 = .ok (.getfield 10, 3) := by decide +kernel
theorem dX11_eight_59 : decode cX11_eight 59 = .ok (.getfield 155, 3) := by decide +kernel
theorem dX11_eight_62 : decode cX11_eight 62 = .ok (.if_icmp .ge 105, 3) := by decide +kernel
theorem dX11_eight_65 : decode cX11_eight 65 = .ok (.aload_n 0, 1) := by decide +kernel
theorem dX11_eight_66 : decode cX11_eight 66 = .ok (.getfield 10, 3) := by decide +kernel
theorem dX11_eight_69 : decode cX11_eight 69 = .ok (.iload 8, 2) := by decide +kernel
theorem dX11_eight_71 : decode cX11_eight 71 = .ok (.invokevirtual 319, 3) := by decide +kernel
theorem dX11_eight_74 : decode cX11_eight 74 = .ok (.astore 9, 2) := by decide +kernel
theorem dX11_eight_76 : decode cX11_eight 76 = .ok (.iconst 0, 1) := by decide +kernel
theorem dX11_eight_77 : decode cX11_eight 77 = .ok (.istore 10, 2) := by decide +kernel
theorem dX11_eight_79 : decode cX11_eight 79 = .ok (.iload 10, 2) := by decide +kernel
theorem dX11_eight_81 : decode cX11_eight 81 = .ok (.aload_n 0, 1) := by decide +kernel
theorem dX11_eight_82 : decode cX11_eight 82 = .ok (.getfield 10, 3) := by decide +kernel
theorem dX11_eight_85 : decode cX11_eight 85 = .ok (.getfield 119, 3) := by decide +kernel
theorem dX11_eight_88 : decode cX11_eight 88 = .ok (.if_icmp .ge 73, 3) := by decide +kernel
theorem dX11_eight_91 : decode cX11_eight 91 = .ok (.aload_n 0, 1) := by decide +kernel
theorem dX11_eight_92 : decode cX11_eight 92 = .ok (.getfield 10, 3) := by decide +kernel
theorem dX11_eight_95 : decode cX11_eight 95 = .ok (.aload 9, 2) := by decide +kernel
theorem dX11_eight_97 : decode cX11_eight 97 = .ok (.iload 10, 2) := by decide +kernel
theorem dX11_eight_99 : decode cX11_eight 99 = .ok (.invokevirtual 333, 3) := by decide +kernel
theorem dX11_eight_102 : decode cX11_eight 102 = .ok (.astore 11, 2) := by decide +kernel
theorem dX11_eight_104 : decode cX11_eight 104 = .ok (.aload 9, 2) := by decide +kernel
theorem dX11_eight_106 : decode cX11_eight 106 = .ok (.ifnull 49, 3) := by decide +kernel
theorem dX11_eight_109 : decode cX11_eight 109 = .ok (.aload 11, 2) := by decide +kernel
theorem dX11_eight_111 : decode cX11_eight 111 = .ok (.ifnull 44, 3) := by decide +kernel
theorem dX11_eight_114 : decode cX11_eight 114 = .ok (.iinc 5 1, 3) := by decide +kernel
theorem dX11_eight_117 : decode cX11_eight 117 = .ok (.iload 6, 2) := by decide +kernel
theorem dX11_eight_119 : decode cX11_eight 119 = .ok (.aload 9, 2) := by decide +kernel
theorem dX11_eight_121 : decode cX11_eight 121 = .ok (.getfield 206, 3) := by decide +kernel
theorem dX11_eight_124 : decode cX11_eight 124 = .ok (.iload_n 1, 1) := by decide +kernel
theorem dX11_eight_125 : decode cX11_eight 125 = .ok (.if_icmp .lt 7, 3) := by decide +kernel
theorem dX11_eight_128 : decode cX11_eight 128 = .ok (.iconst 1, 1) := by decide +kernel
theorem dX11_eight_129 : decode cX11_eight 129 = .ok (.goto 4, 3) := by decide +kernel
theorem dX11_eight_132 : decode cX11_eight 132 = .ok (.iconst 0, 1) := by decide +kernel
theorem dX11_eight_133 : decode cX11_eight 133 = .ok (.iadd, 1) := by decide +kernel
theorem dX11_eight_134 : decode cX11_eight 134 = .ok (.istore 6, 2) := by decide +kernel
theorem dX11_eight_136 : decode cX11_eight 136 = .ok (.iload 7, 2) := by decide +kernel
theorem dX11_eight_138 : decode cX11_eight 138 = .ok (.aload 11, 2) := by decide +kernel
theorem dX11_eight_140 : decode cX11_eight 140 = .ok (.getfield 206, 3) := by decide +kernel
theorem dX11_eight_143 : decode cX11_eight 143 = .ok (.iload_n 2, 1) := by decide +kernel
theorem dX11_eight_144 : decode cX11_eight 144 = .ok (.if_icmp .lt 7, 3) := by decide +kernel
theorem dX11_eight_147 : decode cX11_eight 147 = .ok (.iconst 1, 1) := by decide +kernel
theorem dX11_eight_148 : decode cX11_eight 148 = .ok (.goto 4, 3) := by decide +kernel
theorem dX11_eight_151 : decode cX11_eight 151 = .ok (.iconst 0, 1) := by decide +kernel
theorem dX11_eight_152 : decode cX11_eight 152 = .ok (.iadd, 1) := by decide +kernel
theorem dX11_eight_153 : decode cX11_eight 153 = .ok (.istore 7, 2) := by decide +kernel
theorem dX11_eight_155 : decode cX11_eight 155 = .ok (.iinc 10 1, 3) := by decide +kernel
theorem dX11_eight_158 : decode cX11_eight 158 = .ok (.goto (-79), 3) := by decide +kernel
theorem dX11_eight_161 : decode cX11_eight 161 = .ok (.iinc 8 1, 3) := by decide +kernel
theorem dX11_eight_164 : decode cX11_eight 164 = .ok (.goto (-111), 3) := by decide +kernel
theorem dX11_eight_167 : decode cX11_eight 167 = .ok (.iload 4, 2) := by decide +kernel
theorem dX11_eight_169 : decode cX11_eight 169 = .ok (.tableswitch 36 0 2 #[27, 30, 33], 27) := by decide +kernel
theorem dX11_eight_196 : decode cX11_eight 196 = .ok (.iload 5, 2) := by decide +kernel
theorem dX11_eight_198 : decode cX11_eight 198 = .ok (.ireturn, 1) := by decide +kernel
theorem dX11_eight_199 : decode cX11_eight 199 = .ok (.iload 6, 2) := by decide +kernel
theorem dX11_eight_201 : decode cX11_eight 201 = .ok (.ireturn, 1) := by decide +kernel
theorem dX11_eight_202 : decode cX11_eight 202 = .ok (.iload 7, 2) := by decide +kernel
theorem dX11_eight_204 : decode cX11_eight 204 = .ok (.ireturn, 1) := by decide +kernel
theorem dX11_eight_205 : decode cX11_eight 205 = .ok (.iload_n 3, 1) := by decide +kernel
theorem dX11_eight_206 : decode cX11_eight 206 = .ok (.iload 6, 2) := by decide +kernel
theorem dX11_eight_208 : decode cX11_eight 208 = .ok (.iload 7, 2) := by decide +kernel
theorem dX11_eight_210 : decode cX11_eight 210 = .ok (.isub, 1) := by decide +kernel
theorem dX11_eight_211 : decode cX11_eight 211 = .ok (.imul, 1) := by decide +kernel
theorem dX11_eight_212 : decode cX11_eight 212 = .ok (.ireturn, 1) := by decide +kernel
theorem dX11_alike_0 : decode cX11_alike 0 = .ok (.iload_n 1, 1) := by decide +kernel
theorem dX11_alike_1 : decode cX11_alike 1 = .ok (.aload_n 0, 1) := by decide +kernel
theorem dX11_alike_2 : decode cX11_alike 2 = .ok (.getfield 19, 3) := by decide +kernel
theorem dX11_alike_5 : decode cX11_alike 5 = .ok (.getfield 174, 3) := by decide +kernel
theorem dX11_alike_8 : decode cX11_alike 8 = .ok (.iconst 1, 1) := by decide +kernel
theorem dX11_alike_9 : decode cX11_alike 9 = .ok (.isub, 1) := by decide +kernel
theorem dX11_alike_10 : decode cX11_alike 10 = .ok (.invokestatic 111, 3) := by decide +kernel
theorem dX11_alike_13 : decode cX11_alike 13 = .ok (.ifCond .eq 9, 3) := by decide +kernel
theorem dX11_alike_16 : decode cX11_alike 16 = .ok (.aload_n 0, 1) := by decide +kernel
theorem dX11_alike_17 : decode cX11_alike 17 = .ok (.iload_n 1, 1) := by decide +kernel
theorem dX11_alike_18 : decode cX11_alike 18 = .ok (.invokevirtual 337, 3) := by decide +kernel
theorem dX11_alike_21 : decode cX11_alike 21 = .ok (.ireturn, 1) := by decide +kernel
theorem dX11_alike_22 : decode cX11_alike 22 = .ok (.iload_n 1, 1) := by decide +kernel
theorem dX11_alike_23 : decode cX11_alike 23 = .ok (.iconst (-1), 1) := by decide +kernel
theorem dX11_alike_24 : decode cX11_alike 24 = .ok (.if_icmp .eq 5, 3) := by decide +kernel
theorem dX11_alike_27 : decode cX11_alike 27 = .ok (.iconst (-1), 1) := by decide +kernel
theorem dX11_alike_28 : decode cX11_alike 28 = .ok (.ireturn, 1) := by decide +kernel
theorem dX11_alike_29 : decode cX11_alike 29 = .ok (.iconst (-1), 1) := by decide +kernel
theorem dX11_alike_30 : decode cX11_alike 30 = .ok (.istore_n 2, 1) := by decide +kernel
theorem dX11_alike_31 : decode cX11_alike 31 = .ok (.iconst 0, 1) := by decide +kernel
theorem dX11_alike_32 : decode cX11_alike 32 = .ok (.istore_n 3, 1) := by decide +kernel
theorem dX11_alike_33 : decode cX11_alike 33 = .ok (.iconst 0, 1) := by decide +kernel
theorem dX11_alike_34 : decode cX11_alike 34 = .ok (.istore 4, 2) := by decide +kernel
theorem dX11_alike_36 : decode cX11_alike 36 = .ok (.iload 4, 2) := by decide +kernel
theorem dX11_alike_38 : decode cX11_alike 38 = .ok (.aload_n 0, 1) := by decide +kernel
theorem dX11_alike_39 : decode cX11_alike 39 = .ok (.getfield 19, 3) := by decide +kernel
theorem dX11_alike_42 : decode cX11_alike 42 = .ok (.getfield 174, 3) := by decide +kernel
theorem dX11_alike_45 : decode cX11_alike 45 = .ok (.if_icmp .ge 34, 3) := by decide +kernel
theorem dX11_alike_48 : decode cX11_alike 48 = .ok (.aload_n 0, 1) := by decide +kernel
theorem dX11_alike_49 : decode cX11_alike 49 = .ok (.iload 4, 2) := by decide +kernel
theorem dX11_alike_51 : decode cX11_alike 51 = .ok (.invokevirtual 337, 3) := by decide +kernel
theorem dX11_alike_54 : decode cX11_alike 54 = .ok (.istore 5, 2) := by decide +kernel
theorem dX11_alike_56 : decode cX11_alike 56 = .ok (.iload_n 2, 1) := by decide +kernel
theorem dX11_alike_57 : decode cX11_alike 57 = .ok (.iconst (-1), 1) := by decide +kernel
theorem dX11_alike_58 : decode cX11_alike 58 = .ok (.if_icmp .eq 9, 3) := by decide +kernel
theorem dX11_alike_61 : decode cX11_alike 61 = .ok (.iload 5, 2) := by decide +kernel
theorem dX11_alike_63 : decode cX11_alike 63 = .ok (.iload_n 3, 1) := by decide +kernel
theorem dX11_alike_64 : decode cX11_alike 64 = .ok (.if_icmp .ge 9, 3) := by decide +kernel
theorem dX11_alike_67 : decode cX11_alike 67 = .ok (.iload 4, 2) := by decide +kernel
theorem dX11_alike_69 : decode cX11_alike 69 = .ok (.istore_n 2, 1) := by decide +kernel
theorem dX11_alike_70 : decode cX11_alike 70 = .ok (.iload 5, 2) := by decide +kernel
theorem dX11_alike_72 : decode cX11_alike 72 = .ok (.istore_n 3, 1) := by decide +kernel
theorem dX11_alike_73 : decode cX11_alike 73 = .ok (.iinc 4 1, 3) := by decide +kernel
theorem dX11_alike_76 : decode cX11_alike 76 = .ok (.goto (-40), 3) := by decide +kernel
theorem dX11_alike_79 : decode cX11_alike 79 = .ok (.iload_n 2, 1) := by decide +kernel
theorem dX11_alike_80 : decode cX11_alike 80 = .ok (.ireturn, 1) := by decide +kernel
theorem dX11_storm_0 : decode cX11_storm 0 = .ok (.iload_n 1, 1) := by decide +kernel
theorem dX11_storm_1 : decode cX11_storm 1 = .ok (.sipush 999, 3) := by decide +kernel
theorem dX11_storm_4 : decode cX11_storm 4 = .ok (.invokestatic 111, 3) := by decide +kernel
theorem dX11_storm_7 : decode cX11_storm 7 = .ok (.ifCond .eq 45, 3) := by decide +kernel
theorem dX11_storm_10 : decode cX11_storm 10 = .ok (.iload_n 2, 1) := by decide +kernel
theorem dX11_storm_11 : decode cX11_storm 11 = .ok (.sipush 999, 3) := by decide +kernel
theorem dX11_storm_14 : decode cX11_storm 14 = .ok (.invokestatic 111, 3) := by decide +kernel
theorem dX11_storm_17 : decode cX11_storm 17 = .ok (.ifCond .eq 35, 3) := by decide +kernel
theorem dX11_storm_20 : decode cX11_storm 20 = .ok (.iload_n 2, 1) := by decide +kernel
theorem dX11_storm_21 : decode cX11_storm 21 = .ok (.iload_n 1, 1) := by decide +kernel
theorem dX11_storm_22 : decode cX11_storm 22 = .ok (.if_icmp .lt 30, 3) := by decide +kernel
theorem dX11_storm_25 : decode cX11_storm 25 = .ok (.iload_n 2, 1) := by decide +kernel
theorem dX11_storm_26 : decode cX11_storm 26 = .ok (.iload_n 1, 1) := by decide +kernel
theorem dX11_storm_27 : decode cX11_storm 27 = .ok (.isub, 1) := by decide +kernel
theorem dX11_storm_28 : decode cX11_storm 28 = .ok (.bipush 60, 2) := by decide +kernel
theorem dX11_storm_30 : decode cX11_storm 30 = .ok (.if_icmp .ge 22, 3) := by decide +kernel
theorem dX11_storm_33 : decode cX11_storm 33 = .ok (.iload_n 3, 1) := by decide +kernel
theorem dX11_storm_34 : decode cX11_storm 34 = .ok (.bipush 7, 2) := by decide +kernel
theorem dX11_storm_36 : decode cX11_storm 36 = .ok (.invokestatic 111, 3) := by decide +kernel
theorem dX11_storm_39 : decode cX11_storm 39 = .ok (.ifCond .eq 13, 3) := by decide +kernel
theorem dX11_storm_42 : decode cX11_storm 42 = .ok (.iload 4, 2) := by decide +kernel
theorem dX11_storm_44 : decode cX11_storm 44 = .ok (.bipush 12, 2) := by decide +kernel
theorem dX11_storm_46 : decode cX11_storm 46 = .ok (.invokestatic 111, 3) := by decide +kernel
theorem dX11_storm_49 : decode cX11_storm 49 = .ok (.ifCond .ne 5, 3) := by decide +kernel
theorem dX11_storm_52 : decode cX11_storm 52 = .ok (.iconst (-1), 1) := by decide +kernel
theorem dX11_storm_53 : decode cX11_storm 53 = .ok (.ireturn, 1) := by decide +kernel
theorem dX11_storm_54 : decode cX11_storm 54 = .ok (.aload_n 0, 1) := by decide +kernel
theorem dX11_storm_55 : decode cX11_storm 55 = .ok (.getfield 40, 3) := by decide +kernel
theorem dX11_storm_58 : decode cX11_storm 58 = .ok (.iload_n 1, 1) := by decide +kernel
theorem dX11_storm_59 : decode cX11_storm 59 = .ok (.iload_n 2, 1) := by decide +kernel
theorem dX11_storm_60 : decode cX11_storm 60 = .ok (.iload_n 3, 1) := by decide +kernel
theorem dX11_storm_61 : decode cX11_storm 61 = .ok (.iload 4, 2) := by decide +kernel
theorem dX11_storm_63 : decode cX11_storm 63 = .ok (.invokevirtual 340, 3) := by decide +kernel
theorem dX11_storm_66 : decode cX11_storm 66 = .ok (.aload_n 0, 1) := by decide +kernel
theorem dX11_storm_67 : decode cX11_storm 67 = .ok (.getfield 40, 3) := by decide +kernel
theorem dX11_storm_70 : decode cX11_storm 70 = .ok (.aload_n 0, 1) := by decide +kernel
theorem dX11_storm_71 : decode cX11_storm 71 = .ok (.getfield 10, 3) := by decide +kernel
theorem dX11_storm_74 : decode cX11_storm 74 = .ok (.invokevirtual 344, 3) := by decide +kernel
theorem dX11_storm_77 : decode cX11_storm 77 = .ok (.aload_n 0, 1) := by decide +kernel
theorem dX11_storm_78 : decode cX11_storm 78 = .ok (.getfield 40, 3) := by decide +kernel
theorem dX11_storm_81 : decode cX11_storm 81 = .ok (.iload_n 1, 1) := by decide +kernel
theorem dX11_storm_82 : decode cX11_storm 82 = .ok (.invokevirtual 348, 3) := by decide +kernel
theorem dX11_storm_85 : decode cX11_storm 85 = .ok (.lconst 0, 1) := by decide +kernel
theorem dX11_storm_86 : decode cX11_storm 86 = .ok (.lcmp, 1) := by decide +kernel
theorem dX11_storm_87 : decode cX11_storm 87 = .ok (.ifCond .ne 7, 3) := by decide +kernel
theorem dX11_storm_90 : decode cX11_storm 90 = .ok (.iconst 0, 1) := by decide +kernel
theorem dX11_storm_91 : decode cX11_storm 91 = .ok (.goto 4, 3) := by decide +kernel
theorem dX11_storm_94 : decode cX11_storm 94 = .ok (.iconst 1, 1) := by decide +kernel
theorem dX11_storm_95 : decode cX11_storm 95 = .ok (.ireturn, 1) := by decide +kernel
theorem dX11_way_0 : decode cX11_way 0 = .ok (.aload_n 0, 1) := by decide +kernel
theorem dX11_way_1 : decode cX11_way 1 = .ok (.getfield 40, 3) := by decide +kernel
theorem dX11_way_4 : decode cX11_way 4 = .ok (.iload_n 1, 1) := by decide +kernel
theorem dX11_way_5 : decode cX11_way 5 = .ok (.invokevirtual 352, 3) := by decide +kernel
theorem dX11_way_8 : decode cX11_way 8 = .ok (.ifCond .eq 14, 3) := by decide +kernel
theorem dX11_way_11 : decode cX11_way 11 = .ok (.iload_n 2, 1) := by decide +kernel
theorem dX11_way_12 : decode cX11_way 12 = .ok (.iconst (-1), 1) := by decide +kernel
theorem dX11_way_13 : decode cX11_way 13 = .ok (.if_icmp .lt 9, 3) := by decide +kernel
theorem dX11_way_16 : decode cX11_way 16 = .ok (.iload_n 2, 1) := by decide +kernel
theorem dX11_way_17 : decode cX11_way 17 = .ok (.bipush 63, 2) := by decide +kernel
theorem dX11_way_19 : decode cX11_way 19 = .ok (.if_icmp .le 5, 3) := by decide +kernel
theorem dX11_way_22 : decode cX11_way 22 = .ok (.iconst (-1), 1) := by decide +kernel
theorem dX11_way_23 : decode cX11_way 23 = .ok (.ireturn, 1) := by decide +kernel
theorem dX11_way_24 : decode cX11_way 24 = .ok (.aload_n 0, 1) := by decide +kernel
theorem dX11_way_25 : decode cX11_way 25 = .ok (.getfield 40, 3) := by decide +kernel
theorem dX11_way_28 : decode cX11_way 28 = .ok (.aload_n 0, 1) := by decide +kernel
theorem dX11_way_29 : decode cX11_way 29 = .ok (.getfield 10, 3) := by decide +kernel
theorem dX11_way_32 : decode cX11_way 32 = .ok (.invokevirtual 344, 3) := by decide +kernel
theorem dX11_way_35 : decode cX11_way 35 = .ok (.aload_n 0, 1) := by decide +kernel
theorem dX11_way_36 : decode cX11_way 36 = .ok (.getfield 40, 3) := by decide +kernel
theorem dX11_way_39 : decode cX11_way 39 = .ok (.iload_n 1, 1) := by decide +kernel
theorem dX11_way_40 : decode cX11_way 40 = .ok (.invokevirtual 348, 3) := by decide +kernel
theorem dX11_way_43 : decode cX11_way 43 = .ok (.lstore_n 3, 1) := by decide +kernel
theorem dX11_way_44 : decode cX11_way 44 = .ok (.iload_n 2, 1) := by decide +kernel
theorem dX11_way_45 : decode cX11_way 45 = .ok (.iconst (-1), 1) := by decide +kernel
theorem dX11_way_46 : decode cX11_way 46 = .ok (.if_icmp .ne 10, 3) := by decide +kernel
theorem dX11_way_49 : decode cX11_way 49 = .ok (.lload_n 3, 1) := by decide +kernel
theorem dX11_way_50 : decode cX11_way 50 = .ok (.invokestatic 355, 3) := by decide +kernel
theorem dX11_way_53 : decode cX11_way 53 = .ok (.goto 9, 3) := by decide +kernel
theorem dX11_way_56 : decode cX11_way 56 = .ok (.lload_n 3, 1) := by decide +kernel
theorem dX11_way_57 : decode cX11_way 57 = .ok (.iload_n 2, 1) := by decide +kernel
theorem dX11_way_58 : decode cX11_way 58 = .ok (.lushr, 1) := by decide +kernel
theorem dX11_way_59 : decode cX11_way 59 = .ok (.lconst 1, 1) := by decide +kernel
theorem dX11_way_60 : decode cX11_way 60 = .ok (.land, 1) := by decide +kernel
theorem dX11_way_61 : decode cX11_way 61 = .ok (.l2i, 1) := by decide +kernel
theorem dX11_way_62 : decode cX11_way 62 = .ok (.ireturn, 1) := by decide +kernel
theorem dX11_image_0 : decode cX11_image 0 = .ok (.aload_n 0, 1) := by decide +kernel
theorem dX11_image_1 : decode cX11_image 1 = .ok (.getfield 97, 3) := by decide +kernel
theorem dX11_image_4 : decode cX11_image 4 = .ok (.iconst 4, 1) := by decide +kernel
theorem dX11_image_5 : decode cX11_image 5 = .ok (.if_icmp .lt 10, 3) := by decide +kernel
theorem dX11_image_8 : decode cX11_image 8 = .ok (.aload_n 0, 1) := by decide +kernel
theorem dX11_image_9 : decode cX11_image 9 = .ok (.iconst 1, 1) := by decide +kernel
theorem dX11_image_10 : decode cX11_image 10 = .ok (.iconst (-1), 1) := by decide +kernel
theorem dX11_image_11 : decode cX11_image 11 = .ok (.invokevirtual 107, 3) := by decide +kernel
theorem dX11_image_14 : decode cX11_image 14 = .ok (.ireturn, 1) := by decide +kernel
theorem dX11_image_15 : decode cX11_image 15 = .ok (.aload_n 0, 1) := by decide +kernel
theorem dX11_image_16 : decode cX11_image 16 = .ok (.getfield 66, 3) := by decide +kernel
theorem dX11_image_19 : decode cX11_image 19 = .ok (.aload_n 0, 1) := by decide +kernel
theorem dX11_image_20 : decode cX11_image 20 = .ok (.getfield 97, 3) := by decide +kernel
theorem dX11_image_23 : decode cX11_image 23 = .ok (.new 64, 3) := by decide +kernel
theorem dX11_image_26 : decode cX11_image 26 = .ok (.dup, 1) := by decide +kernel
theorem dX11_image_27 : decode cX11_image 27 = .ok (.aload_n 0, 1) := by decide +kernel
theorem dX11_image_28 : decode cX11_image 28 = .ok (.getfield 10, 3) := by decide +kernel
theorem dX11_image_31 : decode cX11_image 31 = .ok (.invokespecial 361, 3) := by decide +kernel
theorem dX11_image_34 : decode cX11_image 34 = .ok (.aastore, 1) := by decide +kernel
theorem dX11_image_35 : decode cX11_image 35 = .ok (.aload_n 0, 1) := by decide +kernel
theorem dX11_image_36 : decode cX11_image 36 = .ok (.dup, 1) := by decide +kernel
theorem dX11_image_37 : decode cX11_image 37 = .ok (.getfield 97, 3) := by decide +kernel
theorem dX11_image_40 : decode cX11_image 40 = .ok (.iconst 1, 1) := by decide +kernel
theorem dX11_image_41 : decode cX11_image 41 = .ok (.iadd, 1) := by decide +kernel
theorem dX11_image_42 : decode cX11_image 42 = .ok (.putfield 97, 3) := by decide +kernel
theorem dX11_image_45 : decode cX11_image 45 = .ok (.aload_n 0, 1) := by decide +kernel
theorem dX11_image_46 : decode cX11_image 46 = .ok (.getfield 97, 3) := by decide +kernel
theorem dX11_image_49 : decode cX11_image 49 = .ok (.iconst 1, 1) := by decide +kernel
theorem dX11_image_50 : decode cX11_image 50 = .ok (.isub, 1) := by decide +kernel
theorem dX11_image_51 : decode cX11_image 51 = .ok (.ireturn, 1) := by decide +kernel
theorem dX11_back_0 : decode cX11_back 0 = .ok (.iload_n 1, 1) := by decide +kernel
theorem dX11_back_1 : decode cX11_back 1 = .ok (.aload_n 0, 1) := by decide +kernel
theorem dX11_back_2 : decode cX11_back 2 = .ok (.getfield 97, 3) := by decide +kernel
theorem dX11_back_5 : decode cX11_back 5 = .ok (.iconst 1, 1) := by decide +kernel
theorem dX11_back_6 : decode cX11_back 6 = .ok (.isub, 1) := by decide +kernel
theorem dX11_back_7 : decode cX11_back 7 = .ok (.invokestatic 111, 3) := by decide +kernel
theorem dX11_back_10 : decode cX11_back 10 = .ok (.ifCond .eq 12, 3) := by decide +kernel
theorem dX11_back_13 : decode cX11_back 13 = .ok (.aload_n 0, 1) := by decide +kernel
theorem dX11_back_14 : decode cX11_back 14 = .ok (.getfield 66, 3) := by decide +kernel
theorem dX11_back_17 : decode cX11_back 17 = .ok (.iload_n 1, 1) := by decide +kernel
theorem dX11_back_18 : decode cX11_back 18 = .ok (.aaload, 1) := by decide +kernel
theorem dX11_back_19 : decode cX11_back 19 = .ok (.goto 4, 3) := by decide +kernel
theorem dX11_back_22 : decode cX11_back 22 = .ok (.aconst_null, 1) := by decide +kernel
theorem dX11_back_23 : decode cX11_back 23 = .ok (.astore_n 2, 1) := by decide +kernel
theorem dX11_back_24 : decode cX11_back 24 = .ok (.aload_n 2, 1) := by decide +kernel
theorem dX11_back_25 : decode cX11_back 25 = .ok (.ifnull 17, 3) := by decide +kernel
theorem dX11_back_28 : decode cX11_back 28 = .ok (.aload_n 0, 1) := by decide +kernel
theorem dX11_back_29 : decode cX11_back 29 = .ok (.getfield 10, 3) := by decide +kernel
theorem dX11_back_32 : decode cX11_back 32 = .ok (.getfield 155, 3) := by decide +kernel
theorem dX11_back_35 : decode cX11_back 35 = .ok (.aload_n 2, 1) := by decide +kernel
theorem dX11_back_36 : decode cX11_back 36 = .ok (.getfield 363, 3) := by decide +kernel
theorem dX11_back_39 : decode cX11_back 39 = .ok (.if_icmp .ge 10, 3) := by decide +kernel
theorem dX11_back_42 : decode cX11_back 42 = .ok (.aload_n 0, 1) := by decide +kernel
theorem dX11_back_43 : decode cX11_back 43 = .ok (.iconst 0, 1) := by decide +kernel
theorem dX11_back_44 : decode cX11_back 44 = .ok (.iconst (-1), 1) := by decide +kernel
theorem dX11_back_45 : decode cX11_back 45 = .ok (.invokevirtual 107, 3) := by decide +kernel
theorem dX11_back_48 : decode cX11_back 48 = .ok (.ireturn, 1) := by decide +kernel
theorem dX11_back_49 : decode cX11_back 49 = .ok (.aload_n 0, 1) := by decide +kernel
theorem dX11_back_50 : decode cX11_back 50 = .ok (.getfield 10, 3) := by decide +kernel
theorem dX11_back_53 : decode cX11_back 53 = .ok (.getfield 155, 3) := by decide +kernel
theorem dX11_back_56 : decode cX11_back 56 = .ok (.aload_n 2, 1) := by decide +kernel
theorem dX11_back_57 : decode cX11_back 57 = .ok (.getfield 363, 3) := by decide +kernel
theorem dX11_back_60 : decode cX11_back 60 = .ok (.isub, 1) := by decide +kernel
theorem dX11_back_61 : decode cX11_back 61 = .ok (.istore_n 3, 1) := by decide +kernel
theorem dX11_back_62 : decode cX11_back 62 = .ok (.aload_n 0, 1) := by decide +kernel
theorem dX11_back_63 : decode cX11_back 63 = .ok (.getfield 10, 3) := by decide +kernel
theorem dX11_back_66 : decode cX11_back 66 = .ok (.aload_n 2, 1) := by decide +kernel
theorem dX11_back_67 : decode cX11_back 67 = .ok (.getfield 363, 3) := by decide +kernel
theorem dX11_back_70 : decode cX11_back 70 = .ok (.invokevirtual 364, 3) := by decide +kernel
theorem dX11_back_73 : decode cX11_back 73 = .ok (.aload_n 0, 1) := by decide +kernel
theorem dX11_back_74 : decode cX11_back 74 = .ok (.getfield 10, 3) := by decide +kernel
theorem dX11_back_77 : decode cX11_back 77 = .ok (.aload_n 2, 1) := by decide +kernel
theorem dX11_back_78 : decode cX11_back 78 = .ok (.getfield 367, 3) := by decide +kernel
theorem dX11_back_81 : decode cX11_back 81 = .ok (.putfield 370, 3) := by decide +kernel
theorem dX11_back_84 : decode cX11_back 84 = .ok (.aload_n 0, 1) := by decide +kernel
theorem dX11_back_85 : decode cX11_back 85 = .ok (.getfield 10, 3) := by decide +kernel
theorem dX11_back_88 : decode cX11_back 88 = .ok (.aload_n 2, 1) := by decide +kernel
theorem dX11_back_89 : decode cX11_back 89 = .ok (.getfield 371, 3) := by decide +kernel
theorem dX11_back_92 : decode cX11_back 92 = .ok (.putfield 145, 3) := by decide +kernel
theorem dX11_back_95 : decode cX11_back 95 = .ok (.aload_n 0, 1) := by decide +kernel
theorem dX11_back_96 : decode cX11_back 96 = .ok (.getfield 10, 3) := by decide +kernel
theorem dX11_back_99 : decode cX11_back 99 = .ok (.aload_n 2, 1) := by decide +kernel
theorem dX11_back_100 : decode cX11_back 100 = .ok (.getfield 372, 3) := by decide +kernel
theorem dX11_back_103 : decode cX11_back 103 = .ok (.putfield 148, 3) := by decide +kernel
theorem dX11_back_106 : decode cX11_back 106 = .ok (.iload_n 3, 1) := by decide +kernel
theorem dX11_back_107 : decode cX11_back 107 = .ok (.ireturn, 1) := by decide +kernel
theorem dX11_count_0 : decode cX11_count 0 = .ok (.iload_n 1, 1) := by decide +kernel
theorem dX11_count_1 : decode cX11_count 1 = .ok (.tableswitch 185 0 13 #[71, 79, 87, 95, 103, 111, 119, 127, 146, 153, 160, 167, 172, 180], 71) := by decide +kernel
theorem dX11_count_72 : decode cX11_count 72 = .ok (.aload_n 0, 1) := by decide +kernel
theorem dX11_count_73 : decode cX11_count 73 = .ok (.getfield 10, 3) := by decide +kernel
theorem dX11_count_76 : decode cX11_count 76 = .ok (.getfield 104, 3) := by decide +kernel
theorem dX11_count_79 : decode cX11_count 79 = .ok (.ireturn, 1) := by decide +kernel
theorem dX11_count_80 : decode cX11_count 80 = .ok (.aload_n 0, 1) := by decide +kernel
theorem dX11_count_81 : decode cX11_count 81 = .ok (.getfield 10, 3) := by decide +kernel
theorem dX11_count_84 : decode cX11_count 84 = .ok (.getfield 119, 3) := by decide +kernel
theorem dX11_count_87 : decode cX11_count 87 = .ok (.ireturn, 1) := by decide +kernel
theorem dX11_count_88 : decode cX11_count 88 = .ok (.aload_n 0, 1) := by decide +kernel
theorem dX11_count_89 : decode cX11_count 89 = .ok (.getfield 10, 3) := by decide +kernel
theorem dX11_count_92 : decode cX11_count 92 = .ok (.getfield 155, 3) := by decide +kernel
theorem dX11_count_95 : decode cX11_count 95 = .ok (.ireturn, 1) := by decide +kernel
theorem dX11_count_96 : decode cX11_count 96 = .ok (.aload_n 0, 1) := by decide +kernel
theorem dX11_count_97 : decode cX11_count 97 = .ok (.getfield 19, 3) := by decide +kernel
theorem dX11_count_100 : decode cX11_count 100 = .ok (.getfield 174, 3) := by decide +kernel
theorem dX11_count_103 : decode cX11_count 103 = .ok (.ireturn, 1) := by decide +kernel
theorem dX11_count_104 : decode cX11_count 104 = .ok (.aload_n 0, 1) := by decide +kernel
theorem dX11_count_105 : decode cX11_count 105 = .ok (.getfield 10, 3) := by decide +kernel
theorem dX11_count_108 : decode cX11_count 108 = .ok (.getfield 145, 3) := by decide +kernel
theorem dX11_count_111 : decode cX11_count 111 = .ok (.ireturn, 1) := by decide +kernel
theorem dX11_count_112 : decode cX11_count 112 = .ok (.aload_n 0, 1) := by decide +kernel
theorem dX11_count_113 : decode cX11_count 113 = .ok (.getfield 10, 3) := by decide +kernel
theorem dX11_count_116 : decode cX11_count 116 = .ok (.getfield 148, 3) := by decide +kernel
theorem dX11_count_119 : decode cX11_count 119 = .ok (.ireturn, 1) := by decide +kernel
theorem dX11_count_120 : decode cX11_count 120 = .ok (.aload_n 0, 1) := by decide +kernel
theorem dX11_count_121 : decode cX11_count 121 = .ok (.getfield 10, 3) := by decide +kernel
theorem dX11_count_124 : decode cX11_count 124 = .ok (.getfield 134, 3) := by decide +kernel
theorem dX11_count_127 : decode cX11_count 127 = .ok (.ireturn, 1) := by decide +kernel
theorem dX11_count_128 : decode cX11_count 128 = .ok (.aload_n 0, 1) := by decide +kernel
theorem dX11_count_129 : decode cX11_count 129 = .ok (.getfield 10, 3) := by decide +kernel
theorem dX11_count_132 : decode cX11_count 132 = .ok (.getfield 104, 3) := by decide +kernel
theorem dX11_count_135 : decode cX11_count 135 = .ok (.aload_n 0, 1) := by decide +kernel
theorem dX11_count_136 : decode cX11_count 136 = .ok (.getfield 10, 3) := by decide +kernel
theorem dX11_count_139 : decode cX11_count 139 = .ok (.getfield 370, 3) := by decide +kernel
theorem dX11_count_142 : decode cX11_count 142 = .ok (.invokestatic 373, 3) := by decide +kernel
theorem dX11_count_145 : decode cX11_count 145 = .ok (.isub, 1) := by decide +kernel
theorem dX11_count_146 : decode cX11_count 146 = .ok (.ireturn, 1) := by decide +kernel
theorem dX11_count_147 : decode cX11_count 147 = .ok (.aload_n 0, 1) := by decide +kernel
theorem dX11_count_148 : decode cX11_count 148 = .ok (.getfield 70, 3) := by decide +kernel
theorem dX11_count_151 : decode cX11_count 151 = .ok (.iconst 0, 1) := by decide +kernel
theorem dX11_count_152 : decode cX11_count 152 = .ok (.iaload, 1) := by decide +kernel
theorem dX11_count_153 : decode cX11_count 153 = .ok (.ireturn, 1) := by decide +kernel
theorem dX11_count_154 : decode cX11_count 154 = .ok (.aload_n 0, 1) := by decide +kernel
theorem dX11_count_155 : decode cX11_count 155 = .ok (.getfield 70, 3) := by decide +kernel
theorem dX11_count_158 : decode cX11_count 158 = .ok (.iconst 1, 1) := by decide +kernel
theorem dX11_count_159 : decode cX11_count 159 = .ok (.iaload, 1) := by decide +kernel
theorem dX11_count_160 : decode cX11_count 160 = .ok (.ireturn, 1) := by decide +kernel
theorem dX11_count_161 : decode cX11_count 161 = .ok (.aload_n 0, 1) := by decide +kernel
theorem dX11_count_162 : decode cX11_count 162 = .ok (.getfield 70, 3) := by decide +kernel
theorem dX11_count_165 : decode cX11_count 165 = .ok (.iconst 2, 1) := by decide +kernel
theorem dX11_count_166 : decode cX11_count 166 = .ok (.iaload, 1) := by decide +kernel
theorem dX11_count_167 : decode cX11_count 167 = .ok (.ireturn, 1) := by decide +kernel
theorem dX11_count_168 : decode cX11_count 168 = .ok (.aload_n 0, 1) := by decide +kernel
theorem dX11_count_169 : decode cX11_count 169 = .ok (.getfield 97, 3) := by decide +kernel
theorem dX11_count_172 : decode cX11_count 172 = .ok (.ireturn, 1) := by decide +kernel
theorem dX11_count_173 : decode cX11_count 173 = .ok (.aload_n 0, 1) := by decide +kernel
theorem dX11_count_174 : decode cX11_count 174 = .ok (.getfield 47, 3) := by decide +kernel
theorem dX11_count_177 : decode cX11_count 177 = .ok (.getfield 167, 3) := by decide +kernel
theorem dX11_count_180 : decode cX11_count 180 = .ok (.ireturn, 1) := by decide +kernel
theorem dX11_count_181 : decode cX11_count 181 = .ok (.aload_n 0, 1) := by decide +kernel
theorem dX11_count_182 : decode cX11_count 182 = .ok (.invokevirtual 377, 3) := by decide +kernel
theorem dX11_count_185 : decode cX11_count 185 = .ok (.ireturn, 1) := by decide +kernel
theorem dX11_count_186 : decode cX11_count 186 = .ok (.iconst (-1), 1) := by decide +kernel
theorem dX11_count_187 : decode cX11_count 187 = .ok (.ireturn, 1) := by decide +kernel
theorem dX11_within_0 : decode cX11_within 0 = .ok (.iload_n 0, 1) := by decide +kernel
theorem dX11_within_1 : decode cX11_within 1 = .ok (.ifCond .lt 12, 3) := by decide +kernel
theorem dX11_within_4 : decode cX11_within 4 = .ok (.iload_n 0, 1) := by decide +kernel
theorem dX11_within_5 : decode cX11_within 5 = .ok (.iload_n 1, 1) := by decide +kernel
theorem dX11_within_6 : decode cX11_within 6 = .ok (.if_icmp .gt 7, 3) := by decide +kernel
theorem dX11_within_9 : decode cX11_within 9 = .ok (.iconst 1, 1) := by decide +kernel
theorem dX11_within_10 : decode cX11_within 10 = .ok (.goto 4, 3) := by decide +kernel
theorem dX11_within_13 : decode cX11_within 13 = .ok (.iconst 0, 1) := by decide +kernel
theorem dX11_within_14 : decode cX11_within 14 = .ok (.ireturn, 1) := by decide +kernel
theorem dX11_held_0 : decode cX11_held 0 = .ok (.iconst 0, 1) := by decide +kernel
theorem dX11_held_1 : decode cX11_held 1 = .ok (.bipush 12, 2) := by decide +kernel
theorem dX11_held_3 : decode cX11_held 3 = .ok (.iload_n 0, 1) := by decide +kernel
theorem dX11_held_4 : decode cX11_held 4 = .ok (.invokestatic 380, 3) := by decide +kernel
theorem dX11_held_7 : decode cX11_held 7 = .ok (.invokestatic 385, 3) := by decide +kernel
theorem dX11_held_10 : decode cX11_held 10 = .ok (.ireturn, 1) := by decide +kernel
theorem dX11_far_0 : decode cX11_far 0 = .ok (.iload_n 0, 1) := by decide +kernel
theorem dX11_far_1 : decode cX11_far 1 = .ok (.bipush 8, 2) := by decide +kernel
theorem dX11_far_3 : decode cX11_far 3 = .ok (.irem, 1) := by decide +kernel
theorem dX11_far_4 : decode cX11_far 4 = .ok (.iload_n 1, 1) := by decide +kernel
theorem dX11_far_5 : decode cX11_far 5 = .ok (.bipush 8, 2) := by decide +kernel
theorem dX11_far_7 : decode cX11_far 7 = .ok (.irem, 1) := by decide +kernel
theorem dX11_far_8 : decode cX11_far 8 = .ok (.isub, 1) := by decide +kernel
theorem dX11_far_9 : decode cX11_far 9 = .ok (.invokestatic 388, 3) := by decide +kernel
theorem dX11_far_12 : decode cX11_far 12 = .ok (.iload_n 0, 1) := by decide +kernel
theorem dX11_far_13 : decode cX11_far 13 = .ok (.bipush 8, 2) := by decide +kernel
theorem dX11_far_15 : decode cX11_far 15 = .ok (.idiv, 1) := by decide +kernel
theorem dX11_far_16 : decode cX11_far 16 = .ok (.iload_n 1, 1) := by decide +kernel
theorem dX11_far_17 : decode cX11_far 17 = .ok (.bipush 8, 2) := by decide +kernel
theorem dX11_far_19 : decode cX11_far 19 = .ok (.idiv, 1) := by decide +kernel
theorem dX11_far_20 : decode cX11_far 20 = .ok (.isub, 1) := by decide +kernel
theorem dX11_far_21 : decode cX11_far 21 = .ok (.invokestatic 388, 3) := by decide +kernel
theorem dX11_far_24 : decode cX11_far 24 = .ok (.invokestatic 385, 3) := by decide +kernel
theorem dX11_far_27 : decode cX11_far 27 = .ok (.ireturn, 1) := by decide +kernel
theorem dX11_leastWind_0 : decode cX11_leastWind 0 = .ok (.iconst 0, 1) := by decide +kernel
theorem dX11_leastWind_1 : decode cX11_leastWind 1 = .ok (.istore_n 3, 1) := by decide +kernel
theorem dX11_leastWind_2 : decode cX11_leastWind 2 = .ok (.iload_n 3, 1) := by decide +kernel
theorem dX11_leastWind_3 : decode cX11_leastWind 3 = .ok (.aload_n 0, 1) := by decide +kernel
theorem dX11_leastWind_4 : decode cX11_leastWind 4 = .ok (.arraylength, 1) := by decide +kernel
theorem dX11_leastWind_5 : decode cX11_leastWind 5 = .ok (.if_icmp .ge 25, 3) := by decide +kernel
theorem dX11_leastWind_8 : decode cX11_leastWind 8 = .ok (.aload_n 0, 1) := by decide +kernel
theorem dX11_leastWind_9 : decode cX11_leastWind 9 = .ok (.iload_n 3, 1) := by decide +kernel
theorem dX11_leastWind_10 : decode cX11_leastWind 10 = .ok (.iaload, 1) := by decide +kernel
theorem dX11_leastWind_11 : decode cX11_leastWind 11 = .ok (.iload_n 1, 1) := by decide +kernel
theorem dX11_leastWind_12 : decode cX11_leastWind 12 = .ok (.if_icmp .lt 12, 3) := by decide +kernel
theorem dX11_leastWind_15 : decode cX11_leastWind 15 = .ok (.aload_n 0, 1) := by decide +kernel
theorem dX11_leastWind_16 : decode cX11_leastWind 16 = .ok (.iload_n 3, 1) := by decide +kernel
theorem dX11_leastWind_17 : decode cX11_leastWind 17 = .ok (.iaload, 1) := by decide +kernel
theorem dX11_leastWind_18 : decode cX11_leastWind 18 = .ok (.iload_n 2, 1) := by decide +kernel
theorem dX11_leastWind_19 : decode cX11_leastWind 19 = .ok (.if_icmp .gt 5, 3) := by decide +kernel
theorem dX11_leastWind_22 : decode cX11_leastWind 22 = .ok (.iload_n 3, 1) := by decide +kernel
theorem dX11_leastWind_23 : decode cX11_leastWind 23 = .ok (.ireturn, 1) := by decide +kernel
theorem dX11_leastWind_24 : decode cX11_leastWind 24 = .ok (.iinc 3 1, 3) := by decide +kernel
theorem dX11_leastWind_27 : decode cX11_leastWind 27 = .ok (.goto (-25), 3) := by decide +kernel
theorem dX11_leastWind_30 : decode cX11_leastWind 30 = .ok (.iconst (-1), 1) := by decide +kernel
theorem dX11_leastWind_31 : decode cX11_leastWind 31 = .ok (.ireturn, 1) := by decide +kernel
theorem dX11_greatestWind_0 : decode cX11_greatestWind 0 = .ok (.aload_n 0, 1) := by decide +kernel
theorem dX11_greatestWind_1 : decode cX11_greatestWind 1 = .ok (.arraylength, 1) := by decide +kernel
theorem dX11_greatestWind_2 : decode cX11_greatestWind 2 = .ok (.iconst 1, 1) := by decide +kernel
theorem dX11_greatestWind_3 : decode cX11_greatestWind 3 = .ok (.isub, 1) := by decide +kernel
theorem dX11_greatestWind_4 : decode cX11_greatestWind 4 = .ok (.istore_n 3, 1) := by decide +kernel
theorem dX11_greatestWind_5 : decode cX11_greatestWind 5 = .ok (.iload_n 3, 1) := by decide +kernel
theorem dX11_greatestWind_6 : decode cX11_greatestWind 6 = .ok (.ifCond .lt 25, 3) := by decide +kernel
theorem dX11_greatestWind_9 : decode cX11_greatestWind 9 = .ok (.aload_n 0, 1) := by decide +kernel
theorem dX11_greatestWind_10 : decode cX11_greatestWind 10 = .ok (.iload_n 3, 1) := by decide +kernel
theorem dX11_greatestWind_11 : decode cX11_greatestWind 11 = .ok (.iaload, 1) := by decide +kernel
theorem dX11_greatestWind_12 : decode cX11_greatestWind 12 = .ok (.iload_n 1, 1) := by decide +kernel
theorem dX11_greatestWind_13 : decode cX11_greatestWind 13 = .ok (.if_icmp .lt 12, 3) := by decide +kernel
theorem dX11_greatestWind_16 : decode cX11_greatestWind 16 = .ok (.aload_n 0, 1) := by decide +kernel
theorem dX11_greatestWind_17 : decode cX11_greatestWind 17 = .ok (.iload_n 3, 1) := by decide +kernel
theorem dX11_greatestWind_18 : decode cX11_greatestWind 18 = .ok (.iaload, 1) := by decide +kernel
theorem dX11_greatestWind_19 : decode cX11_greatestWind 19 = .ok (.iload_n 2, 1) := by decide +kernel
theorem dX11_greatestWind_20 : decode cX11_greatestWind 20 = .ok (.if_icmp .gt 5, 3) := by decide +kernel
theorem dX11_greatestWind_23 : decode cX11_greatestWind 23 = .ok (.iload_n 3, 1) := by decide +kernel
theorem dX11_greatestWind_24 : decode cX11_greatestWind 24 = .ok (.ireturn, 1) := by decide +kernel
theorem dX11_greatestWind_25 : decode cX11_greatestWind 25 = .ok (.iinc 3 (-1), 3) := by decide +kernel
theorem dX11_greatestWind_28 : decode cX11_greatestWind 28 = .ok (.goto (-23), 3) := by decide +kernel
theorem dX11_greatestWind_31 : decode cX11_greatestWind 31 = .ok (.iconst (-1), 1) := by decide +kernel
theorem dX11_greatestWind_32 : decode cX11_greatestWind 32 = .ok (.ireturn, 1) := by decide +kernel
theorem dX11_refuse_0 : decode cX11_refuse 0 = .ok (.aload_n 0, 1) := by decide +kernel
theorem dX11_refuse_1 : decode cX11_refuse 1 = .ok (.getfield 70, 3) := by decide +kernel
theorem dX11_refuse_4 : decode cX11_refuse 4 = .ok (.iload_n 1, 1) := by decide +kernel
theorem dX11_refuse_5 : decode cX11_refuse 5 = .ok (.dup2, 1) := by decide +kernel
theorem dX11_refuse_6 : decode cX11_refuse 6 = .ok (.iaload, 1) := by decide +kernel
theorem dX11_refuse_7 : decode cX11_refuse 7 = .ok (.iconst 1, 1) := by decide +kernel
theorem dX11_refuse_8 : decode cX11_refuse 8 = .ok (.iadd, 1) := by decide +kernel
theorem dX11_refuse_9 : decode cX11_refuse 9 = .ok (.iastore, 1) := by decide +kernel
theorem dX11_refuse_10 : decode cX11_refuse 10 = .ok (.iload_n 2, 1) := by decide +kernel
theorem dX11_refuse_11 : decode cX11_refuse 11 = .ok (.ireturn, 1) := by decide +kernel
theorem dX11_understood_0 : decode cX11_understood 0 = .ok (.aload_n 0, 1) := by decide +kernel
theorem dX11_understood_1 : decode cX11_understood 1 = .ok (.getfield 47, 3) := by decide +kernel
theorem dX11_understood_4 : decode cX11_understood 4 = .ok (.iload_n 1, 1) := by decide +kernel
theorem dX11_understood_5 : decode cX11_understood 5 = .ok (.invokevirtual 391, 3) := by decide +kernel
theorem dX11_understood_8 : decode cX11_understood 8 = .ok (.aload_n 0, 1) := by decide +kernel
theorem dX11_understood_9 : decode cX11_understood 9 = .ok (.aload_n 0, 1) := by decide +kernel
theorem dX11_understood_10 : decode cX11_understood 10 = .ok (.getfield 54, 3) := by decide +kernel
theorem dX11_understood_13 : decode cX11_understood 13 = .ok (.aload_n 0, 1) := by decide +kernel
theorem dX11_understood_14 : decode cX11_understood 14 = .ok (.getfield 47, 3) := by decide +kernel
theorem dX11_understood_17 : decode cX11_understood 17 = .ok (.aload_n 0, 1) := by decide +kernel
theorem dX11_understood_18 : decode cX11_understood 18 = .ok (.getfield 93, 3) := by decide +kernel
theorem dX11_understood_21 : decode cX11_understood 21 = .ok (.iload_n 2, 1) := by decide +kernel
theorem dX11_understood_22 : decode cX11_understood 22 = .ok (.invokevirtual 394, 3) := by decide +kernel
theorem dX11_understood_25 : decode cX11_understood 25 = .ok (.putfield 101, 3) := by decide +kernel
theorem dX11_understood_28 : decode cX11_understood 28 = .ok (.aload_n 0, 1) := by decide +kernel
theorem dX11_understood_29 : decode cX11_understood 29 = .ok (.getfield 47, 3) := by decide +kernel
theorem dX11_understood_32 : decode cX11_understood 32 = .ok (.iconst 0, 1) := by decide +kernel
theorem dX11_understood_33 : decode cX11_understood 33 = .ok (.putfield 167, 3) := by decide +kernel
theorem dX11_understood_36 : decode cX11_understood 36 = .ok (.aload_n 0, 1) := by decide +kernel
theorem dX11_understood_37 : decode cX11_understood 37 = .ok (.getfield 101, 3) := by decide +kernel
theorem dX11_understood_40 : decode cX11_understood 40 = .ok (.iconst (-1), 1) := by decide +kernel
theorem dX11_understood_41 : decode cX11_understood 41 = .ok (.if_icmp .ne 7, 3) := by decide +kernel
theorem dX11_understood_44 : decode cX11_understood 44 = .ok (.iconst 1, 1) := by decide +kernel
theorem dX11_understood_45 : decode cX11_understood 45 = .ok (.goto 4, 3) := by decide +kernel
theorem dX11_understood_48 : decode cX11_understood 48 = .ok (.iconst 0, 1) := by decide +kernel
theorem dX11_understood_49 : decode cX11_understood 49 = .ok (.ireturn, 1) := by decide +kernel
theorem dX11_written_0 : decode cX11_written 0 = .ok (.aload_n 1, 1) := by decide +kernel
theorem dX11_written_1 : decode cX11_written 1 = .ok (.iload_n 2, 1) := by decide +kernel
theorem dX11_written_2 : decode cX11_written 2 = .ok (.invokevirtual 398, 3) := by decide +kernel
theorem dX11_written_5 : decode cX11_written 5 = .ok (.istore 4, 2) := by decide +kernel
theorem dX11_written_7 : decode cX11_written 7 = .ok (.iload 4, 2) := by decide +kernel
theorem dX11_written_9 : decode cX11_written 9 = .ok (.bipush 15, 2) := by decide +kernel
theorem dX11_written_11 : decode cX11_written 11 = .ok (.invokestatic 111, 3) := by decide +kernel
theorem dX11_written_14 : decode cX11_written 14 = .ok (.ifCond .eq 13, 3) := by decide +kernel
theorem dX11_written_17 : decode cX11_written 17 = .ok (.aload_n 0, 1) := by decide +kernel
theorem dX11_written_18 : decode cX11_written 18 = .ok (.getfield 60, 3) := by decide +kernel
theorem dX11_written_21 : decode cX11_written 21 = .ok (.iload 4, 2) := by decide +kernel
theorem dX11_written_23 : decode cX11_written 23 = .ok (.aaload, 1) := by decide +kernel
theorem dX11_written_24 : decode cX11_written 24 = .ok (.goto 4, 3) := by decide +kernel
theorem dX11_written_27 : decode cX11_written 27 = .ok (.aconst_null, 1) := by decide +kernel
theorem dX11_written_28 : decode cX11_written 28 = .ok (.astore 5, 2) := by decide +kernel
theorem dX11_written_30 : decode cX11_written 30 = .ok (.aload 5, 2) := by decide +kernel
theorem dX11_written_32 : decode cX11_written 32 = .ok (.ifnonnull 5, 3) := by decide +kernel
theorem dX11_written_35 : decode cX11_written 35 = .ok (.iload_n 3, 1) := by decide +kernel
theorem dX11_written_36 : decode cX11_written 36 = .ok (.ireturn, 1) := by decide +kernel
theorem dX11_written_37 : decode cX11_written 37 = .ok (.aload_n 0, 1) := by decide +kernel
theorem dX11_written_38 : decode cX11_written 38 = .ok (.getfield 74, 3) := by decide +kernel
theorem dX11_written_41 : decode cX11_written 41 = .ok (.iconst 0, 1) := by decide +kernel
theorem dX11_written_42 : decode cX11_written 42 = .ok (.aload_n 1, 1) := by decide +kernel
theorem dX11_written_43 : decode cX11_written 43 = .ok (.getfield 231, 3) := by decide +kernel
theorem dX11_written_46 : decode cX11_written 46 = .ok (.iastore, 1) := by decide +kernel
theorem dX11_written_47 : decode cX11_written 47 = .ok (.aload_n 0, 1) := by decide +kernel
theorem dX11_written_48 : decode cX11_written 48 = .ok (.getfield 74, 3) := by decide +kernel
theorem dX11_written_51 : decode cX11_written 51 = .ok (.iconst 2, 1) := by decide +kernel
theorem dX11_written_52 : decode cX11_written 52 = .ok (.iload_n 2, 1) := by decide +kernel
theorem dX11_written_53 : decode cX11_written 53 = .ok (.bipush 100, 2) := by decide +kernel
theorem dX11_written_55 : decode cX11_written 55 = .ok (.idiv, 1) := by decide +kernel
theorem dX11_written_56 : decode cX11_written 56 = .ok (.iastore, 1) := by decide +kernel
theorem dX11_written_57 : decode cX11_written 57 = .ok (.aload_n 0, 1) := by decide +kernel
theorem dX11_written_58 : decode cX11_written 58 = .ok (.getfield 74, 3) := by decide +kernel
theorem dX11_written_61 : decode cX11_written 61 = .ok (.iconst 4, 1) := by decide +kernel
theorem dX11_written_62 : decode cX11_written 62 = .ok (.iconst 0, 1) := by decide +kernel
theorem dX11_written_63 : decode cX11_written 63 = .ok (.iastore, 1) := by decide +kernel
theorem dX11_written_64 : decode cX11_written 64 = .ok (.aload 5, 2) := by decide +kernel
theorem dX11_written_66 : decode cX11_written 66 = .ok (.iload_n 3, 1) := by decide +kernel
theorem dX11_written_67 : decode cX11_written 67 = .ok (.aload_n 0, 1) := by decide +kernel
theorem dX11_written_68 : decode cX11_written 68 = .ok (.getfield 74, 3) := by decide +kernel
theorem dX11_written_71 : decode cX11_written 71 = .ok (.invokevirtual 401, 3) := by decide +kernel
theorem dX11_written_74 : decode cX11_written 74 = .ok (.ireturn, 1) := by decide +kernel
theorem dX11_statementsOfHabits_0 : decode cX11_statementsOfHabits 0 = .ok (.iconst 0, 1) := by decide +kernel
theorem dX11_statementsOfHabits_1 : decode cX11_statementsOfHabits 1 = .ok (.istore_n 1, 1) := by decide +kernel
theorem dX11_statementsOfHabits_2 : decode cX11_statementsOfHabits 2 = .ok (.iconst 0, 1) := by decide +kernel
theorem dX11_statementsOfHabits_3 : decode cX11_statementsOfHabits 3 = .ok (.istore_n 2, 1) := by decide +kernel
theorem dX11_statementsOfHabits_4 : decode cX11_statementsOfHabits 4 = .ok (.iload_n 2, 1) := by decide +kernel
theorem dX11_statementsOfHabits_5 : decode cX11_statementsOfHabits 5 = .ok (.bipush 16, 2) := by decide +kernel
theorem dX11_statementsOfHabits_7 : decode cX11_statementsOfHabits 7 = .ok (.if_icmp .ge 31, 3) := by decide +kernel
theorem dX11_statementsOfHabits_10 : decode cX11_statementsOfHabits 10 = .ok (.aload_n 0, 1) := by decide +kernel
theorem dX11_statementsOfHabits_11 : decode cX11_statementsOfHabits 11 = .ok (.getfield 60, 3) := by decide +kernel
theorem dX11_statementsOfHabits_14 : decode cX11_statementsOfHabits 14 = .ok (.iload_n 2, 1) := by decide +kernel
theorem dX11_statementsOfHabits_15 : decode cX11_statementsOfHabits 15 = .ok (.aaload, 1) := by decide +kernel
theorem dX11_statementsOfHabits_16 : decode cX11_statementsOfHabits 16 = .ok (.astore_n 3, 1) := by decide +kernel
theorem dX11_statementsOfHabits_17 : decode cX11_statementsOfHabits 17 = .ok (.iload_n 1, 1) := by decide +kernel
theorem dX11_statementsOfHabits_18 : decode cX11_statementsOfHabits 18 = .ok (.aload_n 3, 1) := by decide +kernel
theorem dX11_statementsOfHabits_19 : decode cX11_statementsOfHabits 19 = .ok (.ifnonnull 7, 3) := by decide +kernel
theorem dX11_statementsOfHabits_22 : decode cX11_statementsOfHabits 22 = .ok (.iconst 0, 1) := by decide +kernel
theorem dX11_statementsOfHabits_23 : decode cX11_statementsOfHabits 23 = .ok (.goto 7, 3) := by decide +kernel
theorem dX11_statementsOfHabits_26 : decode cX11_statementsOfHabits 26 = .ok (.aload_n 3, 1) := by decide +kernel
theorem dX11_statementsOfHabits_27 : decode cX11_statementsOfHabits 27 = .ok (.getfield 184, 3) := by decide +kernel
theorem dX11_statementsOfHabits_30 : decode cX11_statementsOfHabits 30 = .ok (.iadd, 1) := by decide +kernel
theorem dX11_statementsOfHabits_31 : decode cX11_statementsOfHabits 31 = .ok (.istore_n 1, 1) := by decide +kernel
theorem dX11_statementsOfHabits_32 : decode cX11_statementsOfHabits 32 = .ok (.iinc 2 1, 3) := by decide +kernel
theorem dX11_statementsOfHabits_35 : decode cX11_statementsOfHabits 35 = .ok (.goto (-31), 3) := by decide +kernel
theorem dX11_statementsOfHabits_38 : decode cX11_statementsOfHabits 38 = .ok (.iload_n 1, 1) := by decide +kernel
theorem dX11_statementsOfHabits_39 : decode cX11_statementsOfHabits 39 = .ok (.ireturn, 1) := by decide +kernel
theorem dX11_timesWritten_0 : decode cX11_timesWritten 0 = .ok (.iconst 0, 1) := by decide +kernel
theorem dX11_timesWritten_1 : decode cX11_timesWritten 1 = .ok (.istore 4, 2) := by decide +kernel
theorem dX11_timesWritten_3 : decode cX11_timesWritten 3 = .ok (.iconst 0, 1) := by decide +kernel
theorem dX11_timesWritten_4 : decode cX11_timesWritten 4 = .ok (.istore 5, 2) := by decide +kernel
theorem dX11_timesWritten_6 : decode cX11_timesWritten 6 = .ok (.iload 5, 2) := by decide +kernel
theorem dX11_timesWritten_8 : decode cX11_timesWritten 8 = .ok (.aload_n 0, 1) := by decide +kernel
theorem dX11_timesWritten_9 : decode cX11_timesWritten 9 = .ok (.getfield 10, 3) := by decide +kernel
theorem dX11_timesWritten_12 : decode cX11_timesWritten 12 = .ok (.getfield 155, 3) := by decide +kernel
theorem dX11_timesWritten_15 : decode cX11_timesWritten 15 = .ok (.if_icmp .ge 55, 3) := by decide +kernel
theorem dX11_timesWritten_18 : decode cX11_timesWritten 18 = .ok (.aload_n 0, 1) := by decide +kernel
theorem dX11_timesWritten_19 : decode cX11_timesWritten 19 = .ok (.getfield 10, 3) := by decide +kernel
theorem dX11_timesWritten_22 : decode cX11_timesWritten 22 = .ok (.iload 5, 2) := by decide +kernel
theorem dX11_timesWritten_24 : decode cX11_timesWritten 24 = .ok (.invokevirtual 319, 3) := by decide +kernel
theorem dX11_timesWritten_27 : decode cX11_timesWritten 27 = .ok (.astore 6, 2) := by decide +kernel
theorem dX11_timesWritten_29 : decode cX11_timesWritten 29 = .ok (.aload 6, 2) := by decide +kernel
theorem dX11_timesWritten_31 : decode cX11_timesWritten 31 = .ok (.ifnull 33, 3) := by decide +kernel
theorem dX11_timesWritten_34 : decode cX11_timesWritten 34 = .ok (.aload 6, 2) := by decide +kernel
theorem dX11_timesWritten_36 : decode cX11_timesWritten 36 = .ok (.invokevirtual 215, 3) := by decide +kernel
theorem dX11_timesWritten_39 : decode cX11_timesWritten 39 = .ok (.iload_n 1, 1) := by decide +kernel
theorem dX11_timesWritten_40 : decode cX11_timesWritten 40 = .ok (.if_icmp .ne 24, 3) := by decide +kernel
theorem dX11_timesWritten_43 : decode cX11_timesWritten 43 = .ok (.aload 6, 2) := by decide +kernel
theorem dX11_timesWritten_45 : decode cX11_timesWritten 45 = .ok (.getfield 206, 3) := by decide +kernel
theorem dX11_timesWritten_48 : decode cX11_timesWritten 48 = .ok (.iload_n 2, 1) := by decide +kernel
theorem dX11_timesWritten_49 : decode cX11_timesWritten 49 = .ok (.if_icmp .lt 15, 3) := by decide +kernel
theorem dX11_timesWritten_52 : decode cX11_timesWritten 52 = .ok (.aload 6, 2) := by decide +kernel
theorem dX11_timesWritten_54 : decode cX11_timesWritten 54 = .ok (.getfield 206, 3) := by decide +kernel
theorem dX11_timesWritten_57 : decode cX11_timesWritten 57 = .ok (.iload_n 3, 1) := by decide +kernel
theorem dX11_timesWritten_58 : decode cX11_timesWritten 58 = .ok (.if_icmp .gt 6, 3) := by decide +kernel
theorem dX11_timesWritten_61 : decode cX11_timesWritten 61 = .ok (.iinc 4 1, 3) := by decide +kernel
theorem dX11_timesWritten_64 : decode cX11_timesWritten 64 = .ok (.iinc 5 1, 3) := by decide +kernel
theorem dX11_timesWritten_67 : decode cX11_timesWritten 67 = .ok (.goto (-61), 3) := by decide +kernel
theorem dX11_timesWritten_70 : decode cX11_timesWritten 70 = .ok (.iload 4, 2) := by decide +kernel
theorem dX11_timesWritten_72 : decode cX11_timesWritten 72 = .ok (.ireturn, 1) := by decide +kernel
theorem dX11_odds_0 : decode cX11_odds 0 = .ok (.iload_n 0, 1) := by decide +kernel
theorem dX11_odds_1 : decode cX11_odds 1 = .ok (.ifCond .gt 5, 3) := by decide +kernel
theorem dX11_odds_4 : decode cX11_odds 4 = .ok (.iconst (-1), 1) := by decide +kernel
theorem dX11_odds_5 : decode cX11_odds 5 = .ok (.ireturn, 1) := by decide +kernel
theorem dX11_odds_6 : decode cX11_odds 6 = .ok (.ldc2_w 404, 3) := by decide +kernel
theorem dX11_odds_9 : decode cX11_odds 9 = .ok (.lstore_n 2, 1) := by decide +kernel
theorem dX11_odds_10 : decode cX11_odds 10 = .ok (.iconst 0, 1) := by decide +kernel
theorem dX11_odds_11 : decode cX11_odds 11 = .ok (.istore 4, 2) := by decide +kernel
theorem dX11_odds_13 : decode cX11_odds 13 = .ok (.iload 4, 2) := by decide +kernel
theorem dX11_odds_15 : decode cX11_odds 15 = .ok (.iload_n 0, 1) := by decide +kernel
theorem dX11_odds_16 : decode cX11_odds 16 = .ok (.if_icmp .ge 23, 3) := by decide +kernel
theorem dX11_odds_19 : decode cX11_odds 19 = .ok (.lload_n 2, 1) := by decide +kernel
theorem dX11_odds_20 : decode cX11_odds 20 = .ok (.iconst 2, 1) := by decide +kernel
theorem dX11_odds_21 : decode cX11_odds 21 = .ok (.iload_n 0, 1) := by decide +kernel
theorem dX11_odds_22 : decode cX11_odds 22 = .ok (.imul, 1) := by decide +kernel
theorem dX11_odds_23 : decode cX11_odds 23 = .ok (.iload_n 1, 1) := by decide +kernel
theorem dX11_odds_24 : decode cX11_odds 24 = .ok (.isub, 1) := by decide +kernel
theorem dX11_odds_25 : decode cX11_odds 25 = .ok (.i2l, 1) := by decide +kernel
theorem dX11_odds_26 : decode cX11_odds 26 = .ok (.lmul, 1) := by decide +kernel
theorem dX11_odds_27 : decode cX11_odds 27 = .ok (.iconst 2, 1) := by decide +kernel
theorem dX11_odds_28 : decode cX11_odds 28 = .ok (.iload_n 0, 1) := by decide +kernel
theorem dX11_odds_29 : decode cX11_odds 29 = .ok (.imul, 1) := by decide +kernel
theorem dX11_odds_30 : decode cX11_odds 30 = .ok (.i2l, 1) := by decide +kernel
theorem dX11_odds_31 : decode cX11_odds 31 = .ok (.ldiv, 1) := by decide +kernel
theorem dX11_odds_32 : decode cX11_odds 32 = .ok (.lstore_n 2, 1) := by decide +kernel
theorem dX11_odds_33 : decode cX11_odds 33 = .ok (.iinc 4 1, 3) := by decide +kernel
theorem dX11_odds_36 : decode cX11_odds 36 = .ok (.goto (-23), 3) := by decide +kernel
theorem dX11_odds_39 : decode cX11_odds 39 = .ok (.lload_n 2, 1) := by decide +kernel
theorem dX11_odds_40 : decode cX11_odds 40 = .ok (.l2i, 1) := by decide +kernel
theorem dX11_odds_41 : decode cX11_odds 41 = .ok (.ireturn, 1) := by decide +kernel
theorem dX11_gatherLags_0 : decode cX11_gatherLags 0 = .ok (.iconst 0, 1) := by decide +kernel
theorem dX11_gatherLags_1 : decode cX11_gatherLags 1 = .ok (.istore_n 1, 1) := by decide +kernel
theorem dX11_gatherLags_2 : decode cX11_gatherLags 2 = .ok (.iload_n 1, 1) := by decide +kernel
theorem dX11_gatherLags_3 : decode cX11_gatherLags 3 = .ok (.bipush 10, 2) := by decide +kernel
theorem dX11_gatherLags_5 : decode cX11_gatherLags 5 = .ok (.if_icmp .ge 23, 3) := by decide +kernel
theorem dX11_gatherLags_8 : decode cX11_gatherLags 8 = .ok (.aload_n 0, 1) := by decide +kernel
theorem dX11_gatherLags_9 : decode cX11_gatherLags 9 = .ok (.getfield 83, 3) := by decide +kernel
theorem dX11_gatherLags_12 : decode cX11_gatherLags 12 = .ok (.iload_n 1, 1) := by decide +kernel
theorem dX11_gatherLags_13 : decode cX11_gatherLags 13 = .ok (.iconst 0, 1) := by decide +kernel
theorem dX11_gatherLags_14 : decode cX11_gatherLags 14 = .ok (.iastore, 1) := by decide +kernel
theorem dX11_gatherLags_15 : decode cX11_gatherLags 15 = .ok (.aload_n 0, 1) := by decide +kernel
theorem dX11_gatherLags_16 : decode cX11_gatherLags 16 = .ok (.getfield 86, 3) := by decide +kernel
theorem dX11_gatherLags_19 : decode cX11_gatherLags 19 = .ok (.iload_n 1, 1) := by decide +kernel
theorem dX11_gatherLags_20 : decode cX11_gatherLags 20 = .ok (.iconst 0, 1) := by decide +kernel
theorem dX11_gatherLags_21 : decode cX11_gatherLags 21 = .ok (.iastore, 1) := by decide +kernel
theorem dX11_gatherLags_22 : decode cX11_gatherLags 22 = .ok (.iinc 1 1, 3) := by decide +kernel
theorem dX11_gatherLags_25 : decode cX11_gatherLags 25 = .ok (.goto (-23), 3) := by decide +kernel
theorem dX11_gatherLags_28 : decode cX11_gatherLags 28 = .ok (.iconst 0, 1) := by decide +kernel
theorem dX11_gatherLags_29 : decode cX11_gatherLags 29 = .ok (.istore_n 1, 1) := by decide +kernel
theorem dX11_gatherLags_30 : decode cX11_gatherLags 30 = .ok (.iload_n 1, 1) := by decide +kernel
theorem dX11_gatherLags_31 : decode cX11_gatherLags 31 = .ok (.aload_n 0, 1) := by decide +kernel
theorem dX11_gatherLags_32 : decode cX11_gatherLags 32 = .ok (.getfield 10, 3) := by decide +kernel
theorem dX11_gatherLags_35 : decode cX11_gatherLags 35 = .ok (.getfield 155, 3) := by decide +kernel
theorem dX11_gatherLags_38 : decode cX11_gatherLags 38 = .ok (.if_icmp .ge 35, 3) := by decide +kernel
theorem dX11_gatherLags_41 : decode cX11_gatherLags 41 = .ok (.aload_n 0, 1) := by decide +kernel
theorem dX11_gatherLags_42 : decode cX11_gatherLags 42 = .ok (.getfield 10, 3) := by decide +kernel
theorem dX11_gatherLags_45 : decode cX11_gatherLags 45 = .ok (.iload_n 1, 1) := by decide +kernel
theorem dX11_gatherLags_46 : decode cX11_gatherLags 46 = .ok (.invokevirtual 406, 3) := by decide +kernel
theorem dX11_gatherLags_49 : decode cX11_gatherLags 49 = .ok (.astore_n 2, 1) := by decide +kernel
theorem dX11_gatherLags_50 : decode cX11_gatherLags 50 = .ok (.aload_n 2, 1) := by decide +kernel
theorem dX11_gatherLags_51 : decode cX11_gatherLags 51 = .ok (.ifnull 16, 3) := by decide +kernel
theorem dX11_gatherLags_54 : decode cX11_gatherLags 54 = .ok (.aload_n 2, 1) := by decide +kernel
theorem dX11_gatherLags_55 : decode cX11_gatherLags 55 = .ok (.getfield 203, 3) := by decide +kernel
theorem dX11_gatherLags_58 : decode cX11_gatherLags 58 = .ok (.iconst 1, 1) := by decide +kernel
theorem dX11_gatherLags_59 : decode cX11_gatherLags 59 = .ok (.if_icmp .ne 8, 3) := by decide +kernel
theorem dX11_gatherLags_62 : decode cX11_gatherLags 62 = .ok (.aload_n 0, 1) := by decide +kernel
theorem dX11_gatherLags_63 : decode cX11_gatherLags 63 = .ok (.aload_n 2, 1) := by decide +kernel
theorem dX11_gatherLags_64 : decode cX11_gatherLags 64 = .ok (.invokevirtual 409, 3) := by decide +kernel
theorem dX11_gatherLags_67 : decode cX11_gatherLags 67 = .ok (.iinc 1 1, 3) := by decide +kernel
theorem dX11_gatherLags_70 : decode cX11_gatherLags 70 = .ok (.goto (-40), 3) := by decide +kernel
theorem dX11_gatherLags_73 : decode cX11_gatherLags 73 = .ok (.return_, 1) := by decide +kernel
theorem dX11_gatherLagsOf_0 : decode cX11_gatherLagsOf 0 = .ok (.aload_n 0, 1) := by decide +kernel
theorem dX11_gatherLagsOf_1 : decode cX11_gatherLagsOf 1 = .ok (.getfield 19, 3) := by decide +kernel
theorem dX11_gatherLagsOf_4 : decode cX11_gatherLagsOf 4 = .ok (.aload_n 0, 1) := by decide +kernel
theorem dX11_gatherLagsOf_5 : decode cX11_gatherLagsOf 5 = .ok (.getfield 77, 3) := by decide +kernel
theorem dX11_gatherLagsOf_8 : decode cX11_gatherLagsOf 8 = .ok (.aload_n 0, 1) := by decide +kernel
theorem dX11_gatherLagsOf_9 : decode cX11_gatherLagsOf 9 = .ok (.getfield 19, 3) := by decide +kernel
theorem dX11_gatherLagsOf_12 : decode cX11_gatherLagsOf 12 = .ok (.aload_n 1, 1) := by decide +kernel
theorem dX11_gatherLagsOf_13 : decode cX11_gatherLagsOf 13 = .ok (.invokevirtual 413, 3) := by decide +kernel
theorem dX11_gatherLagsOf_16 : decode cX11_gatherLagsOf 16 = .ok (.invokevirtual 223, 3) := by decide +kernel
theorem dX11_gatherLagsOf_19 : decode cX11_gatherLagsOf 19 = .ok (.iconst 1, 1) := by decide +kernel
theorem dX11_gatherLagsOf_20 : decode cX11_gatherLagsOf 20 = .ok (.aload_n 1, 1) := by decide +kernel
theorem dX11_gatherLagsOf_21 : decode cX11_gatherLagsOf 21 = .ok (.invokevirtual 416, 3) := by decide +kernel
theorem dX11_gatherLagsOf_24 : decode cX11_gatherLagsOf 24 = .ok (.aload_n 1, 1) := by decide +kernel
theorem dX11_gatherLagsOf_25 : decode cX11_gatherLagsOf 25 = .ok (.invokevirtual 413, 3) := by decide +kernel
theorem dX11_gatherLagsOf_28 : decode cX11_gatherLagsOf 28 = .ok (.invokevirtual 239, 3) := by decide +kernel
theorem dX11_gatherLagsOf_31 : decode cX11_gatherLagsOf 31 = .ok (.iconst 0, 1) := by decide +kernel
theorem dX11_gatherLagsOf_32 : decode cX11_gatherLagsOf 32 = .ok (.istore_n 2, 1) := by decide +kernel
theorem dX11_gatherLagsOf_33 : decode cX11_gatherLagsOf 33 = .ok (.iload_n 2, 1) := by decide +kernel
theorem dX11_gatherLagsOf_34 : decode cX11_gatherLagsOf 34 = .ok (.aload_n 0, 1) := by decide +kernel
theorem dX11_gatherLagsOf_35 : decode cX11_gatherLagsOf 35 = .ok (.getfield 10, 3) := by decide +kernel
theorem dX11_gatherLagsOf_38 : decode cX11_gatherLagsOf 38 = .ok (.getfield 119, 3) := by decide +kernel
theorem dX11_gatherLagsOf_41 : decode cX11_gatherLagsOf 41 = .ok (.if_icmp .ge 128, 3) := by decide +kernel
theorem dX11_gatherLagsOf_44 : decode cX11_gatherLagsOf 44 = .ok (.aload_n 0, 1) := by decide +kernel
theorem dX11_gatherLagsOf_45 : decode cX11_gatherLagsOf 45 = .ok (.getfield 10, 3) := by decide +kernel
theorem dX11_gatherLagsOf_48 : decode cX11_gatherLagsOf 48 = .ok (.iload_n 2, 1) := by decide +kernel
theorem dX11_gatherLagsOf_49 : decode cX11_gatherLagsOf 49 = .ok (.invokevirtual 125, 3) := by decide +kernel
theorem dX11_gatherLagsOf_52 : decode cX11_gatherLagsOf 52 = .ok (.astore_n 3, 1) := by decide +kernel
theorem dX11_gatherLagsOf_53 : decode cX11_gatherLagsOf 53 = .ok (.iconst 0, 1) := by decide +kernel
theorem dX11_gatherLagsOf_54 : decode cX11_gatherLagsOf 54 = .ok (.istore 4, 2) := by decide +kernel
theorem dX11_gatherLagsOf_56 : decode cX11_gatherLagsOf 56 = .ok (.iload 4, 2) := by decide +kernel
theorem dX11_gatherLagsOf_58 : decode cX11_gatherLagsOf 58 = .ok (.bipush 10, 2) := by decide +kernel
theorem dX11_gatherLagsOf_60 : decode cX11_gatherLagsOf 60 = .ok (.if_icmp .ge 103, 3) := by decide +kernel
theorem dX11_gatherLagsOf_63 : decode cX11_gatherLagsOf 63 = .ok (.aload_n 3, 1) := by decide +kernel
theorem dX11_gatherLagsOf_64 : decode cX11_gatherLagsOf 64 = .ok (.ifnull 99, 3) := by decide +kernel
theorem dX11_gatherLagsOf_67 : decode cX11_gatherLagsOf 67 = .ok (.aload_n 3, 1) := by decide +kernel
theorem dX11_gatherLagsOf_68 : decode cX11_gatherLagsOf 68 = .ok (.aload_n 1, 1) := by decide +kernel
theorem dX11_gatherLagsOf_69 : decode cX11_gatherLagsOf 69 = .ok (.getfield 197, 3) := by decide +kernel
theorem dX11_gatherLagsOf_72 : decode cX11_gatherLagsOf 72 = .ok (.iload 4, 2) := by decide +kernel
theorem dX11_gatherLagsOf_74 : decode cX11_gatherLagsOf 74 = .ok (.isub, 1) := by decide +kernel
theorem dX11_gatherLagsOf_75 : decode cX11_gatherLagsOf 75 = .ok (.invokevirtual 151, 3) := by decide +kernel
theorem dX11_gatherLagsOf_78 : decode cX11_gatherLagsOf 78 = .ok (.astore 5, 2) := by decide +kernel
theorem dX11_gatherLagsOf_80 : decode cX11_gatherLagsOf 80 = .ok (.aload 5, 2) := by decide +kernel
theorem dX11_gatherLagsOf_82 : decode cX11_gatherLagsOf 82 = .ok (.ifnull 75, 3) := by decide +kernel
theorem dX11_gatherLagsOf_85 : decode cX11_gatherLagsOf 85 = .ok (.aload 5, 2) := by decide +kernel
theorem dX11_gatherLagsOf_87 : decode cX11_gatherLagsOf 87 = .ok (.invokevirtual 419, 3) := by decide +kernel
theorem dX11_gatherLagsOf_90 : decode cX11_gatherLagsOf 90 = .ok (.ifCond .ne 67, 3) := by decide +kernel
theorem dX11_gatherLagsOf_93 : decode cX11_gatherLagsOf 93 = .ok (.aload 5, 2) := by decide +kernel
theorem dX11_gatherLagsOf_95 : decode cX11_gatherLagsOf 95 = .ok (.getfield 200, 3) := by decide +kernel
theorem dX11_gatherLagsOf_98 : decode cX11_gatherLagsOf 98 = .ok (.aload_n 1, 1) := by decide +kernel
theorem dX11_gatherLagsOf_99 : decode cX11_gatherLagsOf 99 = .ok (.getfield 200, 3) := by decide +kernel
theorem dX11_gatherLagsOf_102 : decode cX11_gatherLagsOf 102 = .ok (.if_icmp .ne 55, 3) := by decide +kernel
theorem dX11_gatherLagsOf_105 : decode cX11_gatherLagsOf 105 = .ok (.aload 5, 2) := by decide +kernel
theorem dX11_gatherLagsOf_107 : decode cX11_gatherLagsOf 107 = .ok (.getfield 206, 3) := by decide +kernel
theorem dX11_gatherLagsOf_110 : decode cX11_gatherLagsOf 110 = .ok (.bipush 99, 2) := by decide +kernel
theorem dX11_gatherLagsOf_112 : decode cX11_gatherLagsOf 112 = .ok (.invokestatic 111, 3) := by decide +kernel
theorem dX11_gatherLagsOf_115 : decode cX11_gatherLagsOf 115 = .ok (.ifCond .eq 42, 3) := by decide +kernel
theorem dX11_gatherLagsOf_118 : decode cX11_gatherLagsOf 118 = .ok (.aload_n 0, 1) := by decide +kernel
theorem dX11_gatherLagsOf_119 : decode cX11_gatherLagsOf 119 = .ok (.getfield 83, 3) := by decide +kernel
theorem dX11_gatherLagsOf_122 : decode cX11_gatherLagsOf 122 = .ok (.iload 4, 2) := by decide +kernel
theorem dX11_gatherLagsOf_124 : decode cX11_gatherLagsOf 124 = .ok (.dup2, 1) := by decide +kernel
theorem dX11_gatherLagsOf_125 : decode cX11_gatherLagsOf 125 = .ok (.iaload, 1) := by decide +kernel
theorem dX11_gatherLagsOf_126 : decode cX11_gatherLagsOf 126 = .ok (.aload_n 1, 1) := by decide +kernel
theorem dX11_gatherLagsOf_127 : decode cX11_gatherLagsOf 127 = .ok (.getfield 206, 3) := by decide +kernel
theorem dX11_gatherLagsOf_130 : decode cX11_gatherLagsOf 130 = .ok (.aload_n 0, 1) := by decide +kernel
theorem dX11_gatherLagsOf_131 : decode cX11_gatherLagsOf 131 = .ok (.getfield 77, 3) := by decide +kernel
theorem dX11_gatherLagsOf_134 : decode cX11_gatherLagsOf 134 = .ok (.aload 5, 2) := by decide +kernel
theorem dX11_gatherLagsOf_136 : decode cX11_gatherLagsOf 136 = .ok (.getfield 206, 3) := by decide +kernel
theorem dX11_gatherLagsOf_139 : decode cX11_gatherLagsOf 139 = .ok (.iaload, 1) := by decide +kernel
theorem dX11_gatherLagsOf_140 : decode cX11_gatherLagsOf 140 = .ok (.isub, 1) := by decide +kernel
theorem dX11_gatherLagsOf_141 : decode cX11_gatherLagsOf 141 = .ok (.invokestatic 388, 3) := by decide +kernel
theorem dX11_gatherLagsOf_144 : decode cX11_gatherLagsOf 144 = .ok (.iadd, 1) := by decide +kernel
theorem dX11_gatherLagsOf_145 : decode cX11_gatherLagsOf 145 = .ok (.iastore, 1) := by decide +kernel
theorem dX11_gatherLagsOf_146 : decode cX11_gatherLagsOf 146 = .ok (.aload_n 0, 1) := by decide +kernel
theorem dX11_gatherLagsOf_147 : decode cX11_gatherLagsOf 147 = .ok (.getfield 86, 3) := by decide +kernel
theorem dX11_gatherLagsOf_150 : decode cX11_gatherLagsOf 150 = .ok (.iload 4, 2) := by decide +kernel
theorem dX11_gatherLagsOf_152 : decode cX11_gatherLagsOf 152 = .ok (.dup2, 1) := by decide +kernel
theorem dX11_gatherLagsOf_153 : decode cX11_gatherLagsOf 153 = .ok (.iaload, 1) := by decide +kernel
theorem dX11_gatherLagsOf_154 : decode cX11_gatherLagsOf 154 = .ok (.iconst 1, 1) := by decide +kernel
theorem dX11_gatherLagsOf_155 : decode cX11_gatherLagsOf 155 = .ok (.iadd, 1) := by decide +kernel
theorem dX11_gatherLagsOf_156 : decode cX11_gatherLagsOf 156 = .ok (.iastore, 1) := by decide +kernel
theorem dX11_gatherLagsOf_157 : decode cX11_gatherLagsOf 157 = .ok (.iinc 4 1, 3) := by decide +kernel
theorem dX11_gatherLagsOf_160 : decode cX11_gatherLagsOf 160 = .ok (.goto (-104), 3) := by decide +kernel
theorem dX11_gatherLagsOf_163 : decode cX11_gatherLagsOf 163 = .ok (.iinc 2 1, 3) := by decide +kernel
theorem dX11_gatherLagsOf_166 : decode cX11_gatherLagsOf 166 = .ok (.goto (-133), 3) := by decide +kernel
theorem dX11_gatherLagsOf_169 : decode cX11_gatherLagsOf 169 = .ok (.return_, 1) := by decide +kernel
theorem dX11_bestLag_0 : decode cX11_bestLag 0 = .ok (.iconst (-1), 1) := by decide +kernel
theorem dX11_bestLag_1 : decode cX11_bestLag 1 = .ok (.istore_n 1, 1) := by decide +kernel
theorem dX11_bestLag_2 : decode cX11_bestLag 2 = .ok (.iconst 0, 1) := by decide +kernel
theorem dX11_bestLag_3 : decode cX11_bestLag 3 = .ok (.istore_n 2, 1) := by decide +kernel
theorem dX11_bestLag_4 : decode cX11_bestLag 4 = .ok (.iload_n 2, 1) := by decide +kernel
theorem dX11_bestLag_5 : decode cX11_bestLag 5 = .ok (.bipush 10, 2) := by decide +kernel
theorem dX11_bestLag_7 : decode cX11_bestLag 7 = .ok (.if_icmp .ge 54, 3) := by decide +kernel
theorem dX11_bestLag_10 : decode cX11_bestLag 10 = .ok (.aload_n 0, 1) := by decide +kernel
theorem dX11_bestLag_11 : decode cX11_bestLag 11 = .ok (.getfield 86, 3) := by decide +kernel
theorem dX11_bestLag_14 : decode cX11_bestLag 14 = .ok (.iload_n 2, 1) := by decide +kernel
theorem dX11_bestLag_15 : decode cX11_bestLag 15 = .ok (.iaload, 1) := by decide +kernel
theorem dX11_bestLag_16 : decode cX11_bestLag 16 = .ok (.ifCond .le 39, 3) := by decide +kernel
theorem dX11_bestLag_19 : decode cX11_bestLag 19 = .ok (.iload_n 1, 1) := by decide +kernel
theorem dX11_bestLag_20 : decode cX11_bestLag 20 = .ok (.iconst (-1), 1) := by decide +kernel
theorem dX11_bestLag_21 : decode cX11_bestLag 21 = .ok (.if_icmp .eq 32, 3) := by decide +kernel
theorem dX11_bestLag_24 : decode cX11_bestLag 24 = .ok (.aload_n 0, 1) := by decide +kernel
theorem dX11_bestLag_25 : decode cX11_bestLag 25 = .ok (.getfield 83, 3) := by decide +kernel
theorem dX11_bestLag_28 : decode cX11_bestLag 28 = .ok (.iload_n 2, 1) := by decide +kernel
theorem dX11_bestLag_29 : decode cX11_bestLag 29 = .ok (.iaload, 1) := by decide +kernel
theorem dX11_bestLag_30 : decode cX11_bestLag 30 = .ok (.aload_n 0, 1) := by decide +kernel
theorem dX11_bestLag_31 : decode cX11_bestLag 31 = .ok (.getfield 86, 3) := by decide +kernel
theorem dX11_bestLag_34 : decode cX11_bestLag 34 = .ok (.iload_n 1, 1) := by decide +kernel
theorem dX11_bestLag_35 : decode cX11_bestLag 35 = .ok (.iaload, 1) := by decide +kernel
theorem dX11_bestLag_36 : decode cX11_bestLag 36 = .ok (.imul, 1) := by decide +kernel
theorem dX11_bestLag_37 : decode cX11_bestLag 37 = .ok (.aload_n 0, 1) := by decide +kernel
theorem dX11_bestLag_38 : decode cX11_bestLag 38 = .ok (.getfield 83, 3) := by decide +kernel
theorem dX11_bestLag_41 : decode cX11_bestLag 41 = .ok (.iload_n 1, 1) := by decide +kernel
theorem dX11_bestLag_42 : decode cX11_bestLag 42 = .ok (.iaload, 1) := by decide +kernel
theorem dX11_bestLag_43 : decode cX11_bestLag 43 = .ok (.aload_n 0, 1) := by decide +kernel
theorem dX11_bestLag_44 : decode cX11_bestLag 44 = .ok (.getfield 86, 3) := by decide +kernel
theorem dX11_bestLag_47 : decode cX11_bestLag 47 = .ok (.iload_n 2, 1) := by decide +kernel
theorem dX11_bestLag_48 : decode cX11_bestLag 48 = .ok (.iaload, 1) := by decide +kernel
theorem dX11_bestLag_49 : decode cX11_bestLag 49 = .ok (.imul, 1) := by decide +kernel
theorem dX11_bestLag_50 : decode cX11_bestLag 50 = .ok (.if_icmp .ge 5, 3) := by decide +kernel
theorem dX11_bestLag_53 : decode cX11_bestLag 53 = .ok (.iload_n 2, 1) := by decide +kernel
theorem dX11_bestLag_54 : decode cX11_bestLag 54 = .ok (.istore_n 1, 1) := by decide +kernel
theorem dX11_bestLag_55 : decode cX11_bestLag 55 = .ok (.iinc 2 1, 3) := by decide +kernel
theorem dX11_bestLag_58 : decode cX11_bestLag 58 = .ok (.goto (-54), 3) := by decide +kernel
theorem dX11_bestLag_61 : decode cX11_bestLag 61 = .ok (.iload_n 1, 1) := by decide +kernel
theorem dX11_bestLag_62 : decode cX11_bestLag 62 = .ok (.ireturn, 1) := by decide +kernel
theorem dX11_follows_0 : decode cX11_follows 0 = .ok (.aload_n 0, 1) := by decide +kernel
theorem dX11_follows_1 : decode cX11_follows 1 = .ok (.getfield 190, 3) := by decide +kernel
theorem dX11_follows_4 : decode cX11_follows 4 = .ok (.aload_n 0, 1) := by decide +kernel
theorem dX11_follows_5 : decode cX11_follows 5 = .ok (.getfield 197, 3) := by decide +kernel
theorem dX11_follows_8 : decode cX11_follows 8 = .ok (.iconst 1, 1) := by decide +kernel
theorem dX11_follows_9 : decode cX11_follows 9 = .ok (.isub, 1) := by decide +kernel
theorem dX11_follows_10 : decode cX11_follows 10 = .ok (.invokevirtual 151, 3) := by decide +kernel
theorem dX11_follows_13 : decode cX11_follows 13 = .ok (.astore_n 1, 1) := by decide +kernel
theorem dX11_follows_14 : decode cX11_follows 14 = .ok (.aload_n 1, 1) := by decide +kernel
theorem dX11_follows_15 : decode cX11_follows 15 = .ok (.ifnull 32, 3) := by decide +kernel
theorem dX11_follows_18 : decode cX11_follows 18 = .ok (.aload_n 0, 1) := by decide +kernel
theorem dX11_follows_19 : decode cX11_follows 19 = .ok (.invokevirtual 419, 3) := by decide +kernel
theorem dX11_follows_22 : decode cX11_follows 22 = .ok (.ifCond .eq 25, 3) := by decide +kernel
theorem dX11_follows_25 : decode cX11_follows 25 = .ok (.aload_n 1, 1) := by decide +kernel
theorem dX11_follows_26 : decode cX11_follows 26 = .ok (.invokevirtual 419, 3) := by decide +kernel
theorem dX11_follows_29 : decode cX11_follows 29 = .ok (.ifCond .eq 18, 3) := by decide +kernel
theorem dX11_follows_32 : decode cX11_follows 32 = .ok (.aload_n 0, 1) := by decide +kernel
theorem dX11_follows_33 : decode cX11_follows 33 = .ok (.invokevirtual 215, 3) := by decide +kernel
theorem dX11_follows_36 : decode cX11_follows 36 = .ok (.aload_n 1, 1) := by decide +kernel
theorem dX11_follows_37 : decode cX11_follows 37 = .ok (.invokevirtual 215, 3) := by decide +kernel
theorem dX11_follows_40 : decode cX11_follows 40 = .ok (.if_icmp .ne 7, 3) := by decide +kernel
theorem dX11_follows_43 : decode cX11_follows 43 = .ok (.iconst 1, 1) := by decide +kernel
theorem dX11_follows_44 : decode cX11_follows 44 = .ok (.goto 4, 3) := by decide +kernel
theorem dX11_follows_47 : decode cX11_follows 47 = .ok (.iconst 0, 1) := by decide +kernel
theorem dX11_follows_48 : decode cX11_follows 48 = .ok (.ireturn, 1) := by decide +kernel
theorem dX11_repeats_0 : decode cX11_repeats 0 = .ok (.aload_n 0, 1) := by decide +kernel
theorem dX11_repeats_1 : decode cX11_repeats 1 = .ok (.getfield 190, 3) := by decide +kernel
theorem dX11_repeats_4 : decode cX11_repeats 4 = .ok (.aload_n 0, 1) := by decide +kernel
theorem dX11_repeats_5 : decode cX11_repeats 5 = .ok (.getfield 197, 3) := by decide +kernel
theorem dX11_repeats_8 : decode cX11_repeats 8 = .ok (.iconst 1, 1) := by decide +kernel
theorem dX11_repeats_9 : decode cX11_repeats 9 = .ok (.isub, 1) := by decide +kernel
theorem dX11_repeats_10 : decode cX11_repeats 10 = .ok (.invokevirtual 151, 3) := by decide +kernel
theorem dX11_repeats_13 : decode cX11_repeats 13 = .ok (.astore_n 1, 1) := by decide +kernel
theorem dX11_repeats_14 : decode cX11_repeats 14 = .ok (.aload_n 1, 1) := by decide +kernel
theorem dX11_repeats_15 : decode cX11_repeats 15 = .ok (.ifnull 25, 3) := by decide +kernel
theorem dX11_repeats_18 : decode cX11_repeats 18 = .ok (.aload_n 0, 1) := by decide +kernel
theorem dX11_repeats_19 : decode cX11_repeats 19 = .ok (.invokestatic 312, 3) := by decide +kernel
theorem dX11_repeats_22 : decode cX11_repeats 22 = .ok (.ifCond .eq 18, 3) := by decide +kernel
theorem dX11_repeats_25 : decode cX11_repeats 25 = .ok (.aload_n 0, 1) := by decide +kernel
theorem dX11_repeats_26 : decode cX11_repeats 26 = .ok (.getfield 206, 3) := by decide +kernel
theorem dX11_repeats_29 : decode cX11_repeats 29 = .ok (.aload_n 1, 1) := by decide +kernel
theorem dX11_repeats_30 : decode cX11_repeats 30 = .ok (.getfield 206, 3) := by decide +kernel
theorem dX11_repeats_33 : decode cX11_repeats 33 = .ok (.if_icmp .ne 7, 3) := by decide +kernel
theorem dX11_repeats_36 : decode cX11_repeats 36 = .ok (.iconst 1, 1) := by decide +kernel
theorem dX11_repeats_37 : decode cX11_repeats 37 = .ok (.goto 4, 3) := by decide +kernel
theorem dX11_repeats_40 : decode cX11_repeats 40 = .ok (.iconst 0, 1) := by decide +kernel
theorem dX11_repeats_41 : decode cX11_repeats 41 = .ok (.ireturn, 1) := by decide +kernel
theorem dX11_isCopied_0 : decode cX11_isCopied 0 = .ok (.aload_n 1, 1) := by decide +kernel
theorem dX11_isCopied_1 : decode cX11_isCopied 1 = .ok (.getfield 190, 3) := by decide +kernel
theorem dX11_isCopied_4 : decode cX11_isCopied 4 = .ok (.aload_n 1, 1) := by decide +kernel
theorem dX11_isCopied_5 : decode cX11_isCopied 5 = .ok (.getfield 197, 3) := by decide +kernel
theorem dX11_isCopied_8 : decode cX11_isCopied 8 = .ok (.iconst 1, 1) := by decide +kernel
theorem dX11_isCopied_9 : decode cX11_isCopied 9 = .ok (.isub, 1) := by decide +kernel
theorem dX11_isCopied_10 : decode cX11_isCopied 10 = .ok (.invokevirtual 151, 3) := by decide +kernel
theorem dX11_isCopied_13 : decode cX11_isCopied 13 = .ok (.astore_n 2, 1) := by decide +kernel
theorem dX11_isCopied_14 : decode cX11_isCopied 14 = .ok (.aload_n 2, 1) := by decide +kernel
theorem dX11_isCopied_15 : decode cX11_isCopied 15 = .ok (.ifnull 10, 3) := by decide +kernel
theorem dX11_isCopied_18 : decode cX11_isCopied 18 = .ok (.aload_n 1, 1) := by decide +kernel
theorem dX11_isCopied_19 : decode cX11_isCopied 19 = .ok (.invokestatic 315, 3) := by decide +kernel
theorem dX11_isCopied_22 : decode cX11_isCopied 22 = .ok (.ifCond .ne 5, 3) := by decide +kernel
theorem dX11_isCopied_25 : decode cX11_isCopied 25 = .ok (.iconst 0, 1) := by decide +kernel
theorem dX11_isCopied_26 : decode cX11_isCopied 26 = .ok (.ireturn, 1) := by decide +kernel
theorem dX11_isCopied_27 : decode cX11_isCopied 27 = .ok (.iconst 0, 1) := by decide +kernel
theorem dX11_isCopied_28 : decode cX11_isCopied 28 = .ok (.istore_n 3, 1) := by decide +kernel
theorem dX11_isCopied_29 : decode cX11_isCopied 29 = .ok (.iload_n 3, 1) := by decide +kernel
theorem dX11_isCopied_30 : decode cX11_isCopied 30 = .ok (.aload_n 0, 1) := by decide +kernel
theorem dX11_isCopied_31 : decode cX11_isCopied 31 = .ok (.getfield 10, 3) := by decide +kernel
theorem dX11_isCopied_34 : decode cX11_isCopied 34 = .ok (.getfield 119, 3) := by decide +kernel
theorem dX11_isCopied_37 : decode cX11_isCopied 37 = .ok (.if_icmp .ge 61, 3) := by decide +kernel
theorem dX11_isCopied_40 : decode cX11_isCopied 40 = .ok (.aload_n 0, 1) := by decide +kernel
theorem dX11_isCopied_41 : decode cX11_isCopied 41 = .ok (.getfield 10, 3) := by decide +kernel
theorem dX11_isCopied_44 : decode cX11_isCopied 44 = .ok (.aload_n 2, 1) := by decide +kernel
theorem dX11_isCopied_45 : decode cX11_isCopied 45 = .ok (.iload_n 3, 1) := by decide +kernel
theorem dX11_isCopied_46 : decode cX11_isCopied 46 = .ok (.invokevirtual 423, 3) := by decide +kernel
theorem dX11_isCopied_49 : decode cX11_isCopied 49 = .ok (.astore 4, 2) := by decide +kernel
theorem dX11_isCopied_51 : decode cX11_isCopied 51 = .ok (.aload_n 0, 1) := by decide +kernel
theorem dX11_isCopied_52 : decode cX11_isCopied 52 = .ok (.getfield 10, 3) := by decide +kernel
theorem dX11_isCopied_55 : decode cX11_isCopied 55 = .ok (.aload_n 1, 1) := by decide +kernel
theorem dX11_isCopied_56 : decode cX11_isCopied 56 = .ok (.iload_n 3, 1) := by decide +kernel
theorem dX11_isCopied_57 : decode cX11_isCopied 57 = .ok (.invokevirtual 423, 3) := by decide +kernel
theorem dX11_isCopied_60 : decode cX11_isCopied 60 = .ok (.astore 5, 2) := by decide +kernel
theorem dX11_isCopied_62 : decode cX11_isCopied 62 = .ok (.aload 4, 2) := by decide +kernel
theorem dX11_isCopied_64 : decode cX11_isCopied 64 = .ok (.ifnull 28, 3) := by decide +kernel
theorem dX11_isCopied_67 : decode cX11_isCopied 67 = .ok (.aload 5, 2) := by decide +kernel
theorem dX11_isCopied_69 : decode cX11_isCopied 69 = .ok (.ifnull 23, 3) := by decide +kernel
theorem dX11_isCopied_72 : decode cX11_isCopied 72 = .ok (.aload 5, 2) := by decide +kernel
theorem dX11_isCopied_74 : decode cX11_isCopied 74 = .ok (.getfield 206, 3) := by decide +kernel
theorem dX11_isCopied_77 : decode cX11_isCopied 77 = .ok (.aload 4, 2) := by decide +kernel
theorem dX11_isCopied_79 : decode cX11_isCopied 79 = .ok (.getfield 206, 3) := by decide +kernel
theorem dX11_isCopied_82 : decode cX11_isCopied 82 = .ok (.isub, 1) := by decide +kernel
theorem dX11_isCopied_83 : decode cX11_isCopied 83 = .ok (.invokestatic 388, 3) := by decide +kernel
theorem dX11_isCopied_86 : decode cX11_isCopied 86 = .ok (.iconst 2, 1) := by decide +kernel
theorem dX11_isCopied_87 : decode cX11_isCopied 87 = .ok (.if_icmp .lt 5, 3) := by decide +kernel
theorem dX11_isCopied_90 : decode cX11_isCopied 90 = .ok (.iconst 1, 1) := by decide +kernel
theorem dX11_isCopied_91 : decode cX11_isCopied 91 = .ok (.ireturn, 1) := by decide +kernel
theorem dX11_isCopied_92 : decode cX11_isCopied 92 = .ok (.iinc 3 1, 3) := by decide +kernel
theorem dX11_isCopied_95 : decode cX11_isCopied 95 = .ok (.goto (-66), 3) := by decide +kernel
theorem dX11_isCopied_98 : decode cX11_isCopied 98 = .ok (.iconst 0, 1) := by decide +kernel
theorem dX11_isCopied_99 : decode cX11_isCopied 99 = .ok (.ireturn, 1) := by decide +kernel
theorem dX11_firstBeside_0 : decode cX11_firstBeside 0 = .ok (.aconst_null, 1) := by decide +kernel
theorem dX11_firstBeside_1 : decode cX11_firstBeside 1 = .ok (.astore_n 2, 1) := by decide +kernel
theorem dX11_firstBeside_2 : decode cX11_firstBeside 2 = .ok (.iconst 0, 1) := by decide +kernel
theorem dX11_firstBeside_3 : decode cX11_firstBeside 3 = .ok (.istore_n 3, 1) := by decide +kernel
theorem dX11_firstBeside_4 : decode cX11_firstBeside 4 = .ok (.iload_n 3, 1) := by decide +kernel
theorem dX11_firstBeside_5 : decode cX11_firstBeside 5 = .ok (.aload_n 0, 1) := by decide +kernel
theorem dX11_firstBeside_6 : decode cX11_firstBeside 6 = .ok (.getfield 10, 3) := by decide +kernel
theorem dX11_firstBeside_9 : decode cX11_firstBeside 9 = .ok (.getfield 119, 3) := by decide +kernel
theorem dX11_firstBeside_12 : decode cX11_firstBeside 12 = .ok (.if_icmp .ge 44, 3) := by decide +kernel
theorem dX11_firstBeside_15 : decode cX11_firstBeside 15 = .ok (.aload_n 0, 1) := by decide +kernel
theorem dX11_firstBeside_16 : decode cX11_firstBeside 16 = .ok (.getfield 10, 3) := by decide +kernel
theorem dX11_firstBeside_19 : decode cX11_firstBeside 19 = .ok (.aload_n 1, 1) := by decide +kernel
theorem dX11_firstBeside_20 : decode cX11_firstBeside 20 = .ok (.iload_n 3, 1) := by decide +kernel
theorem dX11_firstBeside_21 : decode cX11_firstBeside 21 = .ok (.invokevirtual 423, 3) := by decide +kernel
theorem dX11_firstBeside_24 : decode cX11_firstBeside 24 = .ok (.astore 4, 2) := by decide +kernel
theorem dX11_firstBeside_26 : decode cX11_firstBeside 26 = .ok (.aload 4, 2) := by decide +kernel
theorem dX11_firstBeside_28 : decode cX11_firstBeside 28 = .ok (.ifnull 22, 3) := by decide +kernel
theorem dX11_firstBeside_31 : decode cX11_firstBeside 31 = .ok (.aload_n 2, 1) := by decide +kernel
theorem dX11_firstBeside_32 : decode cX11_firstBeside 32 = .ok (.ifnull 15, 3) := by decide +kernel
theorem dX11_firstBeside_35 : decode cX11_firstBeside 35 = .ok (.aload 4, 2) := by decide +kernel
theorem dX11_firstBeside_37 : decode cX11_firstBeside 37 = .ok (.getfield 426, 3) := by decide +kernel
theorem dX11_firstBeside_40 : decode cX11_firstBeside 40 = .ok (.aload_n 2, 1) := by decide +kernel
theorem dX11_firstBeside_41 : decode cX11_firstBeside 41 = .ok (.getfield 426, 3) := by decide +kernel
theorem dX11_firstBeside_44 : decode cX11_firstBeside 44 = .ok (.if_icmp .ge 6, 3) := by decide +kernel
theorem dX11_firstBeside_47 : decode cX11_firstBeside 47 = .ok (.aload 4, 2) := by decide +kernel
theorem dX11_firstBeside_49 : decode cX11_firstBeside 49 = .ok (.astore_n 2, 1) := by decide +kernel
theorem dX11_firstBeside_50 : decode cX11_firstBeside 50 = .ok (.iinc 3 1, 3) := by decide +kernel
theorem dX11_firstBeside_53 : decode cX11_firstBeside 53 = .ok (.goto (-49), 3) := by decide +kernel
theorem dX11_firstBeside_56 : decode cX11_firstBeside 56 = .ok (.aload_n 2, 1) := by decide +kernel
theorem dX11_firstBeside_57 : decode cX11_firstBeside 57 = .ok (.areturn, 1) := by decide +kernel
theorem dX11_leadOf_0 : decode cX11_leadOf 0 = .ok (.iconst 0, 1) := by decide +kernel
theorem dX11_leadOf_1 : decode cX11_leadOf 1 = .ok (.istore_n 3, 1) := by decide +kernel
theorem dX11_leadOf_2 : decode cX11_leadOf 2 = .ok (.iconst 0, 1) := by decide +kernel
theorem dX11_leadOf_3 : decode cX11_leadOf 3 = .ok (.istore 4, 2) := by decide +kernel
theorem dX11_leadOf_5 : decode cX11_leadOf 5 = .ok (.iconst 0, 1) := by decide +kernel
theorem dX11_leadOf_6 : decode cX11_leadOf 6 = .ok (.istore 5, 2) := by decide +kernel
theorem dX11_leadOf_8 : decode cX11_leadOf 8 = .ok (.iload 5, 2) := by decide +kernel
theorem dX11_leadOf_10 : decode cX11_leadOf 10 = .ok (.iload_n 2, 1) := by decide +kernel
theorem dX11_leadOf_11 : decode cX11_leadOf 11 = .ok (.if_icmp .ge 44, 3) := by decide +kernel
theorem dX11_leadOf_14 : decode cX11_leadOf 14 = .ok (.iload_n 1, 1) := by decide +kernel
theorem dX11_leadOf_15 : decode cX11_leadOf 15 = .ok (.iload 5, 2) := by decide +kernel
theorem dX11_leadOf_17 : decode cX11_leadOf 17 = .ok (.ishr, 1) := by decide +kernel
theorem dX11_leadOf_18 : decode cX11_leadOf 18 = .ok (.iconst 1, 1) := by decide +kernel
theorem dX11_leadOf_19 : decode cX11_leadOf 19 = .ok (.iand, 1) := by decide +kernel
theorem dX11_leadOf_20 : decode cX11_leadOf 20 = .ok (.iconst 1, 1) := by decide +kernel
theorem dX11_leadOf_21 : decode cX11_leadOf 21 = .ok (.if_icmp .ne 16, 3) := by decide +kernel
theorem dX11_leadOf_24 : decode cX11_leadOf 24 = .ok (.iload_n 3, 1) := by decide +kernel
theorem dX11_leadOf_25 : decode cX11_leadOf 25 = .ok (.aload_n 0, 1) := by decide +kernel
theorem dX11_leadOf_26 : decode cX11_leadOf 26 = .ok (.getfield 89, 3) := by decide +kernel
theorem dX11_leadOf_29 : decode cX11_leadOf 29 = .ok (.iload 5, 2) := by decide +kernel
theorem dX11_leadOf_31 : decode cX11_leadOf 31 = .ok (.iaload, 1) := by decide +kernel
theorem dX11_leadOf_32 : decode cX11_leadOf 32 = .ok (.iadd, 1) := by decide +kernel
theorem dX11_leadOf_33 : decode cX11_leadOf 33 = .ok (.istore_n 3, 1) := by decide +kernel
theorem dX11_leadOf_34 : decode cX11_leadOf 34 = .ok (.goto 15, 3) := by decide +kernel
theorem dX11_leadOf_37 : decode cX11_leadOf 37 = .ok (.iload 4, 2) := by decide +kernel
theorem dX11_leadOf_39 : decode cX11_leadOf 39 = .ok (.aload_n 0, 1) := by decide +kernel
theorem dX11_leadOf_40 : decode cX11_leadOf 40 = .ok (.getfield 89, 3) := by decide +kernel
theorem dX11_leadOf_43 : decode cX11_leadOf 43 = .ok (.iload 5, 2) := by decide +kernel
theorem dX11_leadOf_45 : decode cX11_leadOf 45 = .ok (.iaload, 1) := by decide +kernel
theorem dX11_leadOf_46 : decode cX11_leadOf 46 = .ok (.iadd, 1) := by decide +kernel
theorem dX11_leadOf_47 : decode cX11_leadOf 47 = .ok (.istore 4, 2) := by decide +kernel
theorem dX11_leadOf_49 : decode cX11_leadOf 49 = .ok (.iinc 5 1, 3) := by decide +kernel
theorem dX11_leadOf_52 : decode cX11_leadOf 52 = .ok (.goto (-44), 3) := by decide +kernel
theorem dX11_leadOf_55 : decode cX11_leadOf 55 = .ok (.iload_n 1, 1) := by decide +kernel
theorem dX11_leadOf_56 : decode cX11_leadOf 56 = .ok (.invokestatic 373, 3) := by decide +kernel
theorem dX11_leadOf_59 : decode cX11_leadOf 59 = .ok (.istore 5, 2) := by decide +kernel
theorem dX11_leadOf_61 : decode cX11_leadOf 61 = .ok (.iload_n 3, 1) := by decide +kernel
theorem dX11_leadOf_62 : decode cX11_leadOf 62 = .ok (.iload_n 2, 1) := by decide +kernel
theorem dX11_leadOf_63 : decode cX11_leadOf 63 = .ok (.iload 5, 2) := by decide +kernel
theorem dX11_leadOf_65 : decode cX11_leadOf 65 = .ok (.isub, 1) := by decide +kernel
theorem dX11_leadOf_66 : decode cX11_leadOf 66 = .ok (.imul, 1) := by decide +kernel
theorem dX11_leadOf_67 : decode cX11_leadOf 67 = .ok (.iload 4, 2) := by decide +kernel
theorem dX11_leadOf_69 : decode cX11_leadOf 69 = .ok (.iload 5, 2) := by decide +kernel
theorem dX11_leadOf_71 : decode cX11_leadOf 71 = .ok (.imul, 1) := by decide +kernel
theorem dX11_leadOf_72 : decode cX11_leadOf 72 = .ok (.isub, 1) := by decide +kernel
theorem dX11_leadOf_73 : decode cX11_leadOf 73 = .ok (.ireturn, 1) := by decide +kernel
theorem dX11_waysLeading_0 : decode cX11_waysLeading 0 = .ok (.iconst 0, 1) := by decide +kernel
theorem dX11_waysLeading_1 : decode cX11_waysLeading 1 = .ok (.istore 4, 2) := by decide +kernel
theorem dX11_waysLeading_3 : decode cX11_waysLeading 3 = .ok (.iconst 0, 1) := by decide +kernel
theorem dX11_waysLeading_4 : decode cX11_waysLeading 4 = .ok (.istore 5, 2) := by decide +kernel
theorem dX11_waysLeading_6 : decode cX11_waysLeading 6 = .ok (.iload 5, 2) := by decide +kernel
theorem dX11_waysLeading_8 : decode cX11_waysLeading 8 = .ok (.iconst 1, 1) := by decide +kernel
theorem dX11_waysLeading_9 : decode cX11_waysLeading 9 = .ok (.iload_n 2, 1) := by decide +kernel
theorem dX11_waysLeading_10 : decode cX11_waysLeading 10 = .ok (.ishl, 1) := by decide +kernel
theorem dX11_waysLeading_11 : decode cX11_waysLeading 11 = .ok (.if_icmp .ge 35, 3) := by decide +kernel
theorem dX11_waysLeading_14 : decode cX11_waysLeading 14 = .ok (.iload 5, 2) := by decide +kernel
theorem dX11_waysLeading_16 : decode cX11_waysLeading 16 = .ok (.invokestatic 373, 3) := by decide +kernel
theorem dX11_waysLeading_19 : decode cX11_waysLeading 19 = .ok (.iload_n 1, 1) := by decide +kernel
theorem dX11_waysLeading_20 : decode cX11_waysLeading 20 = .ok (.invokestatic 373, 3) := by decide +kernel
theorem dX11_waysLeading_23 : decode cX11_waysLeading 23 = .ok (.if_icmp .ne 17, 3) := by decide +kernel
theorem dX11_waysLeading_26 : decode cX11_waysLeading 26 = .ok (.aload_n 0, 1) := by decide +kernel
theorem dX11_waysLeading_27 : decode cX11_waysLeading 27 = .ok (.iload 5, 2) := by decide +kernel
theorem dX11_waysLeading_29 : decode cX11_waysLeading 29 = .ok (.iload_n 2, 1) := by decide +kernel
theorem dX11_waysLeading_30 : decode cX11_waysLeading 30 = .ok (.invokevirtual 326, 3) := by decide +kernel
theorem dX11_waysLeading_33 : decode cX11_waysLeading 33 = .ok (.iload_n 3, 1) := by decide +kernel
theorem dX11_waysLeading_34 : decode cX11_waysLeading 34 = .ok (.if_icmp .lt 6, 3) := by decide +kernel
theorem dX11_waysLeading_37 : decode cX11_waysLeading 37 = .ok (.iinc 4 1, 3) := by decide +kernel
theorem dX11_waysLeading_40 : decode cX11_waysLeading 40 = .ok (.iinc 5 1, 3) := by decide +kernel
theorem dX11_waysLeading_43 : decode cX11_waysLeading 43 = .ok (.goto (-37), 3) := by decide +kernel
theorem dX11_waysLeading_46 : decode cX11_waysLeading 46 = .ok (.iload 4, 2) := by decide +kernel
theorem dX11_waysLeading_48 : decode cX11_waysLeading 48 = .ok (.ireturn, 1) := by decide +kernel
theorem dX11_unlikeness_0 : decode cX11_unlikeness 0 = .ok (.iconst 0, 1) := by decide +kernel
theorem dX11_unlikeness_1 : decode cX11_unlikeness 1 = .ok (.istore_n 2, 1) := by decide +kernel
theorem dX11_unlikeness_2 : decode cX11_unlikeness 2 = .ok (.iload_n 2, 1) := by decide +kernel
theorem dX11_unlikeness_3 : decode cX11_unlikeness 3 = .ok (.aload_n 0, 1) := by decide +kernel
theorem dX11_unlikeness_4 : decode cX11_unlikeness 4 = .ok (.getfield 10, 3) := by decide +kernel
theorem dX11_unlikeness_7 : decode cX11_unlikeness 7 = .ok (.getfield 155, 3) := by decide +kernel
theorem dX11_unlikeness_10 : decode cX11_unlikeness 10 = .ok (.if_icmp .ge 80, 3) := by decide +kernel
theorem dX11_unlikeness_13 : decode cX11_unlikeness 13 = .ok (.aload_n 0, 1) := by decide +kernel
theorem dX11_unlikeness_14 : decode cX11_unlikeness 14 = .ok (.getfield 10, 3) := by decide +kernel
theorem dX11_unlikeness_17 : decode cX11_unlikeness 17 = .ok (.iload_n 2, 1) := by decide +kernel
theorem dX11_unlikeness_18 : decode cX11_unlikeness 18 = .ok (.invokevirtual 319, 3) := by decide +kernel
theorem dX11_unlikeness_21 : decode cX11_unlikeness 21 = .ok (.astore_n 3, 1) := by decide +kernel
theorem dX11_unlikeness_22 : decode cX11_unlikeness 22 = .ok (.aload_n 3, 1) := by decide +kernel
theorem dX11_unlikeness_23 : decode cX11_unlikeness 23 = .ok (.ifnull 34, 3) := by decide +kernel
theorem dX11_unlikeness_26 : decode cX11_unlikeness 26 = .ok (.aload_n 0, 1) := by decide +kernel
theorem dX11_unlikeness_27 : decode cX11_unlikeness 27 = .ok (.getfield 19, 3) := by decide +kernel
theorem dX11_unlikeness_30 : decode cX11_unlikeness 30 = .ok (.iload_n 1, 1) := by decide +kernel
theorem dX11_unlikeness_31 : decode cX11_unlikeness 31 = .ok (.aload_n 3, 1) := by decide +kernel
theorem dX11_unlikeness_32 : decode cX11_unlikeness 32 = .ok (.invokevirtual 413, 3) := by decide +kernel
theorem dX11_unlikeness_35 : decode cX11_unlikeness 35 = .ok (.aload_n 3, 1) := by decide +kernel
theorem dX11_unlikeness_36 : decode cX11_unlikeness 36 = .ok (.getfield 203, 3) := by decide +kernel
theorem dX11_unlikeness_39 : decode cX11_unlikeness 39 = .ok (.aload_n 3, 1) := by decide +kernel
theorem dX11_unlikeness_40 : decode cX11_unlikeness 40 = .ok (.invokevirtual 413, 3) := by decide +kernel
theorem dX11_unlikeness_43 : decode cX11_unlikeness 43 = .ok (.aload_n 3, 1) := by decide +kernel
theorem dX11_unlikeness_44 : decode cX11_unlikeness 44 = .ok (.getfield 206, 3) := by decide +kernel
