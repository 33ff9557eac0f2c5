theorem dX0_init_0 : decode cX0_init 0 = .ok (.aload_n 0, 1) := by decide +kernel
theorem dX0_init_1 : decode cX0_init 1 = .ok (.invokespecial 3, 3) := by decide +kernel
theorem dX0_init_4 : decode cX0_init 4 = .ok (.aload_n 0, 1) := by decide +kernel
theorem dX0_init_5 : decode cX0_init 5 = .ok (.bipush 12, 2) := by decide +kernel
theorem dX0_init_7 : decode cX0_init 7 = .ok (.anewarray 9, 3) := by decide +kernel
theorem dX0_init_10 : decode cX0_init 10 = .ok (.putfield 11, 3) := by decide +kernel
theorem dX0_init_13 : decode cX0_init 13 = .ok (.aload_n 0, 1) := by decide +kernel
theorem dX0_init_14 : decode cX0_init 14 = .ok (.sipush 300, 3) := by decide +kernel
theorem dX0_init_17 : decode cX0_init 17 = .ok (.anewarray 17, 3) := by decide +kernel
theorem dX0_init_20 : decode cX0_init 20 = .ok (.putfield 19, 3) := by decide +kernel
theorem dX0_init_23 : decode cX0_init 23 = .ok (.aload_n 0, 1) := by decide +kernel
theorem dX0_init_24 : decode cX0_init 24 = .ok (.iconst 0, 1) := by decide +kernel
theorem dX0_init_25 : decode cX0_init 25 = .ok (.putfield 23, 3) := by decide +kernel
theorem dX0_init_28 : decode cX0_init 28 = .ok (.aload_n 0, 1) := by decide +kernel
theorem dX0_init_29 : decode cX0_init 29 = .ok (.iconst 0, 1) := by decide +kernel
theorem dX0_init_30 : decode cX0_init 30 = .ok (.putfield 27, 3) := by decide +kernel
theorem dX0_init_33 : decode cX0_init 33 = .ok (.aload_n 0, 1) := by decide +kernel
theorem dX0_init_34 : decode cX0_init 34 = .ok (.iconst 0, 1) := by decide +kernel
theorem dX0_init_35 : decode cX0_init 35 = .ok (.putfield 30, 3) := by decide +kernel
theorem dX0_init_38 : decode cX0_init 38 = .ok (.aload_n 0, 1) := by decide +kernel
theorem dX0_init_39 : decode cX0_init 39 = .ok (.iconst 0, 1) := by decide +kernel
theorem dX0_init_40 : decode cX0_init 40 = .ok (.putfield 33, 3) := by decide +kernel
theorem dX0_init_43 : decode cX0_init 43 = .ok (.aload_n 0, 1) := by decide +kernel
theorem dX0_init_44 : decode cX0_init 44 = .ok (.iconst 0, 1) := by decide +kernel
theorem dX0_init_45 : decode cX0_init 45 = .ok (.putfield 36, 3) := by decide +kernel
theorem dX0_init_48 : decode cX0_init 48 = .ok (.aload_n 0, 1) := by decide +kernel
theorem dX0_init_49 : decode cX0_init 49 = .ok (.iconst 1, 1) := by decide +kernel
theorem dX0_init_50 : decode cX0_init 50 = .ok (.putfield 39, 3) := by decide +kernel
theorem dX0_init_53 : decode cX0_init 53 = .ok (.aload_n 0, 1) := by decide +kernel
theorem dX0_init_54 : decode cX0_init 54 = .ok (.iconst 1, 1) := by decide +kernel
theorem dX0_init_55 : decode cX0_init 55 = .ok (.putfield 42, 3) := by decide +kernel
theorem dX0_init_58 : decode cX0_init 58 = .ok (.return_, 1) := by decide +kernel
theorem dX0_hasOfficer_0 : decode cX0_hasOfficer 0 = .ok (.iload_n 1, 1) := by decide +kernel
theorem dX0_hasOfficer_1 : decode cX0_hasOfficer 1 = .ok (.aload_n 0, 1) := by decide +kernel
theorem dX0_hasOfficer_2 : decode cX0_hasOfficer 2 = .ok (.getfield 23, 3) := by decide +kernel
theorem dX0_hasOfficer_5 : decode cX0_hasOfficer 5 = .ok (.iconst 1, 1) := by decide +kernel
theorem dX0_hasOfficer_6 : decode cX0_hasOfficer 6 = .ok (.isub, 1) := by decide +kernel
theorem dX0_hasOfficer_7 : decode cX0_hasOfficer 7 = .ok (.invokestatic 45, 3) := by decide +kernel
theorem dX0_hasOfficer_10 : decode cX0_hasOfficer 10 = .ok (.ireturn, 1) := by decide +kernel
theorem dX0_isTrusted_0 : decode cX0_isTrusted 0 = .ok (.aload_n 0, 1) := by decide +kernel
theorem dX0_isTrusted_1 : decode cX0_isTrusted 1 = .ok (.iload_n 1, 1) := by decide +kernel
theorem dX0_isTrusted_2 : decode cX0_isTrusted 2 = .ok (.invokevirtual 49, 3) := by decide +kernel
theorem dX0_isTrusted_5 : decode cX0_isTrusted 5 = .ok (.ifCond .eq 18, 3) := by decide +kernel
theorem dX0_isTrusted_8 : decode cX0_isTrusted 8 = .ok (.aload_n 0, 1) := by decide +kernel
theorem dX0_isTrusted_9 : decode cX0_isTrusted 9 = .ok (.getfield 27, 3) := by decide +kernel
theorem dX0_isTrusted_12 : decode cX0_isTrusted 12 = .ok (.iload_n 1, 1) := by decide +kernel
theorem dX0_isTrusted_13 : decode cX0_isTrusted 13 = .ok (.ishr, 1) := by decide +kernel
theorem dX0_isTrusted_14 : decode cX0_isTrusted 14 = .ok (.iconst 1, 1) := by decide +kernel
theorem dX0_isTrusted_15 : decode cX0_isTrusted 15 = .ok (.iand, 1) := by decide +kernel
theorem dX0_isTrusted_16 : decode cX0_isTrusted 16 = .ok (.ifCond .ne 7, 3) := by decide +kernel
theorem dX0_isTrusted_19 : decode cX0_isTrusted 19 = .ok (.iconst 1, 1) := by decide +kernel
theorem dX0_isTrusted_20 : decode cX0_isTrusted 20 = .ok (.goto 4, 3) := by decide +kernel
theorem dX0_isTrusted_23 : decode cX0_isTrusted 23 = .ok (.iconst 0, 1) := by decide +kernel
theorem dX0_isTrusted_24 : decode cX0_isTrusted 24 = .ok (.ireturn, 1) := by decide +kernel
theorem dX0_setTrusted_0 : decode cX0_setTrusted 0 = .ok (.aload_n 0, 1) := by decide +kernel
theorem dX0_setTrusted_1 : decode cX0_setTrusted 1 = .ok (.iload_n 2, 1) := by decide +kernel
theorem dX0_setTrusted_2 : decode cX0_setTrusted 2 = .ok (.ifCond .eq 16, 3) := by decide +kernel
theorem dX0_setTrusted_5 : decode cX0_setTrusted 5 = .ok (.aload_n 0, 1) := by decide +kernel
theorem dX0_setTrusted_6 : decode cX0_setTrusted 6 = .ok (.getfield 27, 3) := by decide +kernel
theorem dX0_setTrusted_9 : decode cX0_setTrusted 9 = .ok (.iconst 1, 1) := by decide +kernel
theorem dX0_setTrusted_10 : decode cX0_setTrusted 10 = .ok (.iload_n 1, 1) := by decide +kernel
theorem dX0_setTrusted_11 : decode cX0_setTrusted 11 = .ok (.ishl, 1) := by decide +kernel
theorem dX0_setTrusted_12 : decode cX0_setTrusted 12 = .ok (.iconst (-1), 1) := by decide +kernel
theorem dX0_setTrusted_13 : decode cX0_setTrusted 13 = .ok (.ixor, 1) := by decide +kernel
theorem dX0_setTrusted_14 : decode cX0_setTrusted 14 = .ok (.iand, 1) := by decide +kernel
theorem dX0_setTrusted_15 : decode cX0_setTrusted 15 = .ok (.goto 11, 3) := by decide +kernel
theorem dX0_setTrusted_18 : decode cX0_setTrusted 18 = .ok (.aload_n 0, 1) := by decide +kernel
theorem dX0_setTrusted_19 : decode cX0_setTrusted 19 = .ok (.getfield 27, 3) := by decide +kernel
theorem dX0_setTrusted_22 : decode cX0_setTrusted 22 = .ok (.iconst 1, 1) := by decide +kernel
theorem dX0_setTrusted_23 : decode cX0_setTrusted 23 = .ok (.iload_n 1, 1) := by decide +kernel
theorem dX0_setTrusted_24 : decode cX0_setTrusted 24 = .ok (.ishl, 1) := by decide +kernel
theorem dX0_setTrusted_25 : decode cX0_setTrusted 25 = .ok (.ior, 1) := by decide +kernel
theorem dX0_setTrusted_26 : decode cX0_setTrusted 26 = .ok (.putfield 27, 3) := by decide +kernel
theorem dX0_setTrusted_29 : decode cX0_setTrusted 29 = .ok (.return_, 1) := by decide +kernel
theorem dX0_launch_0 : decode cX0_launch 0 = .ok (.aload_n 0, 1) := by decide +kernel
theorem dX0_launch_1 : decode cX0_launch 1 = .ok (.getfield 30, 3) := by decide +kernel
theorem dX0_launch_4 : decode cX0_launch 4 = .ok (.bipush 12, 2) := by decide +kernel
theorem dX0_launch_6 : decode cX0_launch 6 = .ok (.if_icmp .lt 5, 3) := by decide +kernel
theorem dX0_launch_9 : decode cX0_launch 9 = .ok (.iconst (-1), 1) := by decide +kernel
theorem dX0_launch_10 : decode cX0_launch 10 = .ok (.ireturn, 1) := by decide +kernel
theorem dX0_launch_11 : decode cX0_launch 11 = .ok (.aload_n 0, 1) := by decide +kernel
theorem dX0_launch_12 : decode cX0_launch 12 = .ok (.getfield 11, 3) := by decide +kernel
theorem dX0_launch_15 : decode cX0_launch 15 = .ok (.aload_n 0, 1) := by decide +kernel
theorem dX0_launch_16 : decode cX0_launch 16 = .ok (.getfield 30, 3) := by decide +kernel
theorem dX0_launch_19 : decode cX0_launch 19 = .ok (.new 9, 3) := by decide +kernel
theorem dX0_launch_22 : decode cX0_launch 22 = .ok (.dup, 1) := by decide +kernel
theorem dX0_launch_23 : decode cX0_launch 23 = .ok (.aload_n 0, 1) := by decide +kernel
theorem dX0_launch_24 : decode cX0_launch 24 = .ok (.getfield 30, 3) := by decide +kernel
theorem dX0_launch_27 : decode cX0_launch 27 = .ok (.iload_n 1, 1) := by decide +kernel
theorem dX0_launch_28 : decode cX0_launch 28 = .ok (.iload_n 2, 1) := by decide +kernel
theorem dX0_launch_29 : decode cX0_launch 29 = .ok (.invokespecial 53, 3) := by decide +kernel
theorem dX0_launch_32 : decode cX0_launch 32 = .ok (.aastore, 1) := by decide +kernel
theorem dX0_launch_33 : decode cX0_launch 33 = .ok (.aload_n 0, 1) := by decide +kernel
theorem dX0_launch_34 : decode cX0_launch 34 = .ok (.dup, 1) := by decide +kernel
theorem dX0_launch_35 : decode cX0_launch 35 = .ok (.getfield 30, 3) := by decide +kernel
theorem dX0_launch_38 : decode cX0_launch 38 = .ok (.iconst 1, 1) := by decide +kernel
theorem dX0_launch_39 : decode cX0_launch 39 = .ok (.iadd, 1) := by decide +kernel
theorem dX0_launch_40 : decode cX0_launch 40 = .ok (.putfield 30, 3) := by decide +kernel
theorem dX0_launch_43 : decode cX0_launch 43 = .ok (.aload_n 0, 1) := by decide +kernel
theorem dX0_launch_44 : decode cX0_launch 44 = .ok (.getfield 30, 3) := by decide +kernel
theorem dX0_launch_47 : decode cX0_launch 47 = .ok (.iconst 1, 1) := by decide +kernel
theorem dX0_launch_48 : decode cX0_launch 48 = .ok (.isub, 1) := by decide +kernel
theorem dX0_launch_49 : decode cX0_launch 49 = .ok (.ireturn, 1) := by decide +kernel
theorem dX0_add_0 : decode cX0_add 0 = .ok (.aload_n 0, 1) := by decide +kernel
theorem dX0_add_1 : decode cX0_add 1 = .ok (.getfield 33, 3) := by decide +kernel
theorem dX0_add_4 : decode cX0_add 4 = .ok (.sipush 300, 3) := by decide +kernel
theorem dX0_add_7 : decode cX0_add 7 = .ok (.if_icmp .lt 5, 3) := by decide +kernel
theorem dX0_add_10 : decode cX0_add 10 = .ok (.iconst (-1), 1) := by decide +kernel
theorem dX0_add_11 : decode cX0_add 11 = .ok (.ireturn, 1) := by decide +kernel
theorem dX0_add_12 : decode cX0_add 12 = .ok (.aload_n 1, 1) := by decide +kernel
theorem dX0_add_13 : decode cX0_add 13 = .ok (.aload_n 0, 1) := by decide +kernel
theorem dX0_add_14 : decode cX0_add 14 = .ok (.getfield 33, 3) := by decide +kernel
theorem dX0_add_17 : decode cX0_add 17 = .ok (.putfield 56, 3) := by decide +kernel
theorem dX0_add_20 : decode cX0_add 20 = .ok (.aload_n 0, 1) := by decide +kernel
theorem dX0_add_21 : decode cX0_add 21 = .ok (.getfield 19, 3) := by decide +kernel
theorem dX0_add_24 : decode cX0_add 24 = .ok (.aload_n 0, 1) := by decide +kernel
theorem dX0_add_25 : decode cX0_add 25 = .ok (.getfield 33, 3) := by decide +kernel
theorem dX0_add_28 : decode cX0_add 28 = .ok (.aload_n 1, 1) := by decide +kernel
theorem dX0_add_29 : decode cX0_add 29 = .ok (.aastore, 1) := by decide +kernel
theorem dX0_add_30 : decode cX0_add 30 = .ok (.aload_n 1, 1) := by decide +kernel
theorem dX0_add_31 : decode cX0_add 31 = .ok (.getfield 59, 3) := by decide +kernel
theorem dX0_add_34 : decode cX0_add 34 = .ok (.aload_n 1, 1) := by decide +kernel
theorem dX0_add_35 : decode cX0_add 35 = .ok (.getfield 63, 3) := by decide +kernel
theorem dX0_add_38 : decode cX0_add 38 = .ok (.aload_n 1, 1) := by decide +kernel
theorem dX0_add_39 : decode cX0_add 39 = .ok (.invokevirtual 66, 3) := by decide +kernel
theorem dX0_add_42 : decode cX0_add 42 = .ok (.aload_n 0, 1) := by decide +kernel
theorem dX0_add_43 : decode cX0_add 43 = .ok (.dup, 1) := by decide +kernel
theorem dX0_add_44 : decode cX0_add 44 = .ok (.getfield 33, 3) := by decide +kernel
theorem dX0_add_47 : decode cX0_add 47 = .ok (.iconst 1, 1) := by decide +kernel
theorem dX0_add_48 : decode cX0_add 48 = .ok (.iadd, 1) := by decide +kernel
theorem dX0_add_49 : decode cX0_add 49 = .ok (.putfield 33, 3) := by decide +kernel
theorem dX0_add_52 : decode cX0_add 52 = .ok (.aload_n 0, 1) := by decide +kernel
theorem dX0_add_53 : decode cX0_add 53 = .ok (.getfield 33, 3) := by decide +kernel
theorem dX0_add_56 : decode cX0_add 56 = .ok (.iconst 1, 1) := by decide +kernel
theorem dX0_add_57 : decode cX0_add 57 = .ok (.isub, 1) := by decide +kernel
theorem dX0_add_58 : decode cX0_add 58 = .ok (.ireturn, 1) := by decide +kernel
theorem dX0_forgetFrom_0 : decode cX0_forgetFrom 0 = .ok (.iconst 0, 1) := by decide +kernel
theorem dX0_forgetFrom_1 : decode cX0_forgetFrom 1 = .ok (.iload_n 1, 1) := by decide +kernel
theorem dX0_forgetFrom_2 : decode cX0_forgetFrom 2 = .ok (.invokestatic 70, 3) := by decide +kernel
theorem dX0_forgetFrom_5 : decode cX0_forgetFrom 5 = .ok (.istore_n 2, 1) := by decide +kernel
theorem dX0_forgetFrom_6 : decode cX0_forgetFrom 6 = .ok (.iload_n 2, 1) := by decide +kernel
theorem dX0_forgetFrom_7 : decode cX0_forgetFrom 7 = .ok (.aload_n 0, 1) := by decide +kernel
theorem dX0_forgetFrom_8 : decode cX0_forgetFrom 8 = .ok (.getfield 33, 3) := by decide +kernel
theorem dX0_forgetFrom_11 : decode cX0_forgetFrom 11 = .ok (.if_icmp .ge 39, 3) := by decide +kernel
theorem dX0_forgetFrom_14 : decode cX0_forgetFrom 14 = .ok (.aload_n 0, 1) := by decide +kernel
theorem dX0_forgetFrom_15 : decode cX0_forgetFrom 15 = .ok (.getfield 19, 3) := by decide +kernel
theorem dX0_forgetFrom_18 : decode cX0_forgetFrom 18 = .ok (.iload_n 2, 1) := by decide +kernel
theorem dX0_forgetFrom_19 : decode cX0_forgetFrom 19 = .ok (.aaload, 1) := by decide +kernel
theorem dX0_forgetFrom_20 : decode cX0_forgetFrom 20 = .ok (.astore_n 3, 1) := by decide +kernel
theorem dX0_forgetFrom_21 : decode cX0_forgetFrom 21 = .ok (.aload_n 3, 1) := by decide +kernel
theorem dX0_forgetFrom_22 : decode cX0_forgetFrom 22 = .ok (.ifnull 15, 3) := by decide +kernel
theorem dX0_forgetFrom_25 : decode cX0_forgetFrom 25 = .ok (.aload_n 3, 1) := by decide +kernel
theorem dX0_forgetFrom_26 : decode cX0_forgetFrom 26 = .ok (.getfield 59, 3) := by decide +kernel
theorem dX0_forgetFrom_29 : decode cX0_forgetFrom 29 = .ok (.aload_n 3, 1) := by decide +kernel
theorem dX0_forgetFrom_30 : decode cX0_forgetFrom 30 = .ok (.getfield 63, 3) := by decide +kernel
theorem dX0_forgetFrom_33 : decode cX0_forgetFrom 33 = .ok (.aconst_null, 1) := by decide +kernel
theorem dX0_forgetFrom_34 : decode cX0_forgetFrom 34 = .ok (.invokevirtual 66, 3) := by decide +kernel
theorem dX0_forgetFrom_37 : decode cX0_forgetFrom 37 = .ok (.aload_n 0, 1) := by decide +kernel
theorem dX0_forgetFrom_38 : decode cX0_forgetFrom 38 = .ok (.getfield 19, 3) := by decide +kernel
theorem dX0_forgetFrom_41 : decode cX0_forgetFrom 41 = .ok (.iload_n 2, 1) := by decide +kernel
theorem dX0_forgetFrom_42 : decode cX0_forgetFrom 42 = .ok (.aconst_null, 1) := by decide +kernel
theorem dX0_forgetFrom_43 : decode cX0_forgetFrom 43 = .ok (.aastore, 1) := by decide +kernel
theorem dX0_forgetFrom_44 : decode cX0_forgetFrom 44 = .ok (.iinc 2 1, 3) := by decide +kernel
theorem dX0_forgetFrom_47 : decode cX0_forgetFrom 47 = .ok (.goto (-41), 3) := by decide +kernel
theorem dX0_forgetFrom_50 : decode cX0_forgetFrom 50 = .ok (.aload_n 0, 1) := by decide +kernel
theorem dX0_forgetFrom_51 : decode cX0_forgetFrom 51 = .ok (.aload_n 0, 1) := by decide +kernel
theorem dX0_forgetFrom_52 : decode cX0_forgetFrom 52 = .ok (.getfield 33, 3) := by decide +kernel
theorem dX0_forgetFrom_55 : decode cX0_forgetFrom 55 = .ok (.iload_n 1, 1) := by decide +kernel
theorem dX0_forgetFrom_56 : decode cX0_forgetFrom 56 = .ok (.invokestatic 76, 3) := by decide +kernel
theorem dX0_forgetFrom_59 : decode cX0_forgetFrom 59 = .ok (.putfield 33, 3) := by decide +kernel
theorem dX0_forgetFrom_62 : decode cX0_forgetFrom 62 = .ok (.return_, 1) := by decide +kernel
theorem dX0_shipAt_0 : decode cX0_shipAt 0 = .ok (.iload_n 1, 1) := by decide +kernel
theorem dX0_shipAt_1 : decode cX0_shipAt 1 = .ok (.aload_n 0, 1) := by decide +kernel
theorem dX0_shipAt_2 : decode cX0_shipAt 2 = .ok (.getfield 30, 3) := by decide +kernel
theorem dX0_shipAt_5 : decode cX0_shipAt 5 = .ok (.iconst 1, 1) := by decide +kernel
theorem dX0_shipAt_6 : decode cX0_shipAt 6 = .ok (.isub, 1) := by decide +kernel
theorem dX0_shipAt_7 : decode cX0_shipAt 7 = .ok (.invokestatic 45, 3) := by decide +kernel
theorem dX0_shipAt_10 : decode cX0_shipAt 10 = .ok (.ifCond .eq 12, 3) := by decide +kernel
theorem dX0_shipAt_13 : decode cX0_shipAt 13 = .ok (.aload_n 0, 1) := by decide +kernel
theorem dX0_shipAt_14 : decode cX0_shipAt 14 = .ok (.getfield 11, 3) := by decide +kernel
theorem dX0_shipAt_17 : decode cX0_shipAt 17 = .ok (.iload_n 1, 1) := by decide +kernel
theorem dX0_shipAt_18 : decode cX0_shipAt 18 = .ok (.aaload, 1) := by decide +kernel
theorem dX0_shipAt_19 : decode cX0_shipAt 19 = .ok (.goto 4, 3) := by decide +kernel
theorem dX0_shipAt_22 : decode cX0_shipAt 22 = .ok (.aconst_null, 1) := by decide +kernel
theorem dX0_shipAt_23 : decode cX0_shipAt 23 = .ok (.areturn, 1) := by decide +kernel
theorem dX0_readingAt_0 : decode cX0_readingAt 0 = .ok (.iload_n 1, 1) := by decide +kernel
theorem dX0_readingAt_1 : decode cX0_readingAt 1 = .ok (.aload_n 0, 1) := by decide +kernel
theorem dX0_readingAt_2 : decode cX0_readingAt 2 = .ok (.getfield 33, 3) := by decide +kernel
theorem dX0_readingAt_5 : decode cX0_readingAt 5 = .ok (.iconst 1, 1) := by decide +kernel
theorem dX0_readingAt_6 : decode cX0_readingAt 6 = .ok (.isub, 1) := by decide +kernel
theorem dX0_readingAt_7 : decode cX0_readingAt 7 = .ok (.invokestatic 45, 3) := by decide +kernel
theorem dX0_readingAt_10 : decode cX0_readingAt 10 = .ok (.ifCond .eq 12, 3) := by decide +kernel
theorem dX0_readingAt_13 : decode cX0_readingAt 13 = .ok (.aload_n 0, 1) := by decide +kernel
theorem dX0_readingAt_14 : decode cX0_readingAt 14 = .ok (.getfield 19, 3) := by decide +kernel
theorem dX0_readingAt_17 : decode cX0_readingAt 17 = .ok (.iload_n 1, 1) := by decide +kernel
theorem dX0_readingAt_18 : decode cX0_readingAt 18 = .ok (.aaload, 1) := by decide +kernel
theorem dX0_readingAt_19 : decode cX0_readingAt 19 = .ok (.goto 4, 3) := by decide +kernel
theorem dX0_readingAt_22 : decode cX0_readingAt 22 = .ok (.aconst_null, 1) := by decide +kernel
theorem dX0_readingAt_23 : decode cX0_readingAt 23 = .ok (.areturn, 1) := by decide +kernel
theorem dX0_mansAt_0 : decode cX0_mansAt 0 = .ok (.aload_n 0, 1) := by decide +kernel
theorem dX0_mansAt_1 : decode cX0_mansAt 1 = .ok (.iload_n 1, 1) := by decide +kernel
theorem dX0_mansAt_2 : decode cX0_mansAt 2 = .ok (.invokevirtual 79, 3) := by decide +kernel
theorem dX0_mansAt_5 : decode cX0_mansAt 5 = .ok (.astore_n 2, 1) := by decide +kernel
theorem dX0_mansAt_6 : decode cX0_mansAt 6 = .ok (.aload_n 2, 1) := by decide +kernel
theorem dX0_mansAt_7 : decode cX0_mansAt 7 = .ok (.ifnull 14, 3) := by decide +kernel
theorem dX0_mansAt_10 : decode cX0_mansAt 10 = .ok (.aload_n 2, 1) := by decide +kernel
theorem dX0_mansAt_11 : decode cX0_mansAt 11 = .ok (.invokevirtual 83, 3) := by decide +kernel
theorem dX0_mansAt_14 : decode cX0_mansAt 14 = .ok (.ifCond .eq 7, 3) := by decide +kernel
theorem dX0_mansAt_17 : decode cX0_mansAt 17 = .ok (.aload_n 2, 1) := by decide +kernel
theorem dX0_mansAt_18 : decode cX0_mansAt 18 = .ok (.goto 4, 3) := by decide +kernel
theorem dX0_mansAt_21 : decode cX0_mansAt 21 = .ok (.aconst_null, 1) := by decide +kernel
theorem dX0_mansAt_22 : decode cX0_mansAt 22 = .ok (.areturn, 1) := by decide +kernel
theorem dX0_trustedMansAt_0 : decode cX0_trustedMansAt 0 = .ok (.aload_n 0, 1) := by decide +kernel
theorem dX0_trustedMansAt_1 : decode cX0_trustedMansAt 1 = .ok (.iload_n 1, 1) := by decide +kernel
theorem dX0_trustedMansAt_2 : decode cX0_trustedMansAt 2 = .ok (.invokevirtual 87, 3) := by decide +kernel
theorem dX0_trustedMansAt_5 : decode cX0_trustedMansAt 5 = .ok (.astore_n 2, 1) := by decide +kernel
theorem dX0_trustedMansAt_6 : decode cX0_trustedMansAt 6 = .ok (.aload_n 2, 1) := by decide +kernel
theorem dX0_trustedMansAt_7 : decode cX0_trustedMansAt 7 = .ok (.ifnull 18, 3) := by decide +kernel
theorem dX0_trustedMansAt_10 : decode cX0_trustedMansAt 10 = .ok (.aload_n 0, 1) := by decide +kernel
theorem dX0_trustedMansAt_11 : decode cX0_trustedMansAt 11 = .ok (.aload_n 2, 1) := by decide +kernel
theorem dX0_trustedMansAt_12 : decode cX0_trustedMansAt 12 = .ok (.invokevirtual 90, 3) := by decide +kernel
theorem dX0_trustedMansAt_15 : decode cX0_trustedMansAt 15 = .ok (.invokevirtual 94, 3) := by decide +kernel
theorem dX0_trustedMansAt_18 : decode cX0_trustedMansAt 18 = .ok (.ifCond .eq 7, 3) := by decide +kernel
theorem dX0_trustedMansAt_21 : decode cX0_trustedMansAt 21 = .ok (.aload_n 2, 1) := by decide +kernel
theorem dX0_trustedMansAt_22 : decode cX0_trustedMansAt 22 = .ok (.goto 4, 3) := by decide +kernel
theorem dX0_trustedMansAt_25 : decode cX0_trustedMansAt 25 = .ok (.aconst_null, 1) := by decide +kernel
theorem dX0_trustedMansAt_26 : decode cX0_trustedMansAt 26 = .ok (.areturn, 1) := by decide +kernel
theorem dX0_beside_0 : decode cX0_beside 0 = .ok (.aload_n 0, 1) := by decide +kernel
theorem dX0_beside_1 : decode cX0_beside 1 = .ok (.iload_n 2, 1) := by decide +kernel
theorem dX0_beside_2 : decode cX0_beside 2 = .ok (.invokevirtual 97, 3) := by decide +kernel
theorem dX0_beside_5 : decode cX0_beside 5 = .ok (.astore_n 3, 1) := by decide +kernel
theorem dX0_beside_6 : decode cX0_beside 6 = .ok (.aload_n 1, 1) := by decide +kernel
theorem dX0_beside_7 : decode cX0_beside 7 = .ok (.ifnull 18, 3) := by decide +kernel
theorem dX0_beside_10 : decode cX0_beside 10 = .ok (.aload_n 3, 1) := by decide +kernel
theorem dX0_beside_11 : decode cX0_beside 11 = .ok (.ifnull 14, 3) := by decide +kernel
theorem dX0_beside_14 : decode cX0_beside 14 = .ok (.aload_n 1, 1) := by decide +kernel
theorem dX0_beside_15 : decode cX0_beside 15 = .ok (.getfield 59, 3) := by decide +kernel
theorem dX0_beside_18 : decode cX0_beside 18 = .ok (.getfield 101, 3) := by decide +kernel
theorem dX0_beside_21 : decode cX0_beside 21 = .ok (.iload_n 2, 1) := by decide +kernel
theorem dX0_beside_22 : decode cX0_beside 22 = .ok (.if_icmp .ne 5, 3) := by decide +kernel
theorem dX0_beside_25 : decode cX0_beside 25 = .ok (.aconst_null, 1) := by decide +kernel
theorem dX0_beside_26 : decode cX0_beside 26 = .ok (.areturn, 1) := by decide +kernel
theorem dX0_beside_27 : decode cX0_beside 27 = .ok (.aload_n 3, 1) := by decide +kernel
theorem dX0_beside_28 : decode cX0_beside 28 = .ok (.aload_n 1, 1) := by decide +kernel
theorem dX0_beside_29 : decode cX0_beside 29 = .ok (.getfield 63, 3) := by decide +kernel
theorem dX0_beside_32 : decode cX0_beside 32 = .ok (.invokevirtual 102, 3) := by decide +kernel
theorem dX0_beside_35 : decode cX0_beside 35 = .ok (.astore 4, 2) := by decide +kernel
theorem dX0_beside_37 : decode cX0_beside 37 = .ok (.aload 4, 2) := by decide +kernel
theorem dX0_beside_39 : decode cX0_beside 39 = .ok (.ifnull 27, 3) := by decide +kernel
theorem dX0_beside_42 : decode cX0_beside 42 = .ok (.aload_n 1, 1) := by decide +kernel
theorem dX0_beside_43 : decode cX0_beside 43 = .ok (.getfield 105, 3) := by decide +kernel
theorem dX0_beside_46 : decode cX0_beside 46 = .ok (.aload 4, 2) := by decide +kernel
theorem dX0_beside_48 : decode cX0_beside 48 = .ok (.getfield 105, 3) := by decide +kernel
theorem dX0_beside_51 : decode cX0_beside 51 = .ok (.invokestatic 108, 3) := by decide +kernel
theorem dX0_beside_54 : decode cX0_beside 54 = .ok (.aload_n 0, 1) := by decide +kernel
theorem dX0_beside_55 : decode cX0_beside 55 = .ok (.getfield 39, 3) := by decide +kernel
theorem dX0_beside_58 : decode cX0_beside 58 = .ok (.if_icmp .gt 8, 3) := by decide +kernel
theorem dX0_beside_61 : decode cX0_beside 61 = .ok (.aload 4, 2) := by decide +kernel
theorem dX0_beside_63 : decode cX0_beside 63 = .ok (.goto 4, 3) := by decide +kernel
theorem dX0_beside_66 : decode cX0_beside 66 = .ok (.aconst_null, 1) := by decide +kernel
theorem dX0_beside_67 : decode cX0_beside 67 = .ok (.areturn, 1) := by decide +kernel
theorem dX0_mansBeside_0 : decode cX0_mansBeside 0 = .ok (.aload_n 0, 1) := by decide +kernel
theorem dX0_mansBeside_1 : decode cX0_mansBeside 1 = .ok (.aload_n 1, 1) := by decide +kernel
theorem dX0_mansBeside_2 : decode cX0_mansBeside 2 = .ok (.iload_n 2, 1) := by decide +kernel
theorem dX0_mansBeside_3 : decode cX0_mansBeside 3 = .ok (.invokevirtual 111, 3) := by decide +kernel
theorem dX0_mansBeside_6 : decode cX0_mansBeside 6 = .ok (.astore_n 3, 1) := by decide +kernel
theorem dX0_mansBeside_7 : decode cX0_mansBeside 7 = .ok (.aload_n 3, 1) := by decide +kernel
theorem dX0_mansBeside_8 : decode cX0_mansBeside 8 = .ok (.ifnull 14, 3) := by decide +kernel
theorem dX0_mansBeside_11 : decode cX0_mansBeside 11 = .ok (.aload_n 3, 1) := by decide +kernel
theorem dX0_mansBeside_12 : decode cX0_mansBeside 12 = .ok (.invokevirtual 83, 3) := by decide +kernel
theorem dX0_mansBeside_15 : decode cX0_mansBeside 15 = .ok (.ifCond .eq 7, 3) := by decide +kernel
theorem dX0_mansBeside_18 : decode cX0_mansBeside 18 = .ok (.aload_n 3, 1) := by decide +kernel
theorem dX0_mansBeside_19 : decode cX0_mansBeside 19 = .ok (.goto 4, 3) := by decide +kernel
theorem dX0_mansBeside_22 : decode cX0_mansBeside 22 = .ok (.aconst_null, 1) := by decide +kernel
theorem dX0_mansBeside_23 : decode cX0_mansBeside 23 = .ok (.areturn, 1) := by decide +kernel
theorem dX0_cupBeside_0 : decode cX0_cupBeside 0 = .ok (.aload_n 0, 1) := by decide +kernel
theorem dX0_cupBeside_1 : decode cX0_cupBeside 1 = .ok (.aload_n 1, 1) := by decide +kernel
theorem dX0_cupBeside_2 : decode cX0_cupBeside 2 = .ok (.iload_n 2, 1) := by decide +kernel
theorem dX0_cupBeside_3 : decode cX0_cupBeside 3 = .ok (.invokevirtual 111, 3) := by decide +kernel
theorem dX0_cupBeside_6 : decode cX0_cupBeside 6 = .ok (.astore_n 3, 1) := by decide +kernel
theorem dX0_cupBeside_7 : decode cX0_cupBeside 7 = .ok (.aload_n 3, 1) := by decide +kernel
theorem dX0_cupBeside_8 : decode cX0_cupBeside 8 = .ok (.ifnull 14, 3) := by decide +kernel
theorem dX0_cupBeside_11 : decode cX0_cupBeside 11 = .ok (.aload_n 3, 1) := by decide +kernel
theorem dX0_cupBeside_12 : decode cX0_cupBeside 12 = .ok (.invokevirtual 83, 3) := by decide +kernel
theorem dX0_cupBeside_15 : decode cX0_cupBeside 15 = .ok (.ifCond .ne 7, 3) := by decide +kernel
theorem dX0_cupBeside_18 : decode cX0_cupBeside 18 = .ok (.aload_n 3, 1) := by decide +kernel
theorem dX0_cupBeside_19 : decode cX0_cupBeside 19 = .ok (.goto 4, 3) := by decide +kernel
theorem dX0_cupBeside_22 : decode cX0_cupBeside 22 = .ok (.aconst_null, 1) := by decide +kernel
theorem dX0_cupBeside_23 : decode cX0_cupBeside 23 = .ok (.areturn, 1) := by decide +kernel
theorem dX1_init_0 : decode cX1_init 0 = .ok (.aload_n 0, 1) := by decide +kernel
theorem dX1_init_1 : decode cX1_init 1 = .ok (.invokespecial 3, 3) := by decide +kernel
theorem dX1_init_4 : decode cX1_init 4 = .ok (.aload_n 0, 1) := by decide +kernel
theorem dX1_init_5 : decode cX1_init 5 = .ok (.iconst 0, 1) := by decide +kernel
theorem dX1_init_6 : decode cX1_init 6 = .ok (.putfield 9, 3) := by decide +kernel
theorem dX1_init_9 : decode cX1_init 9 = .ok (.aload_n 0, 1) := by decide +kernel
theorem dX1_init_10 : decode cX1_init 10 = .ok (.iconst 0, 1) := by decide +kernel
theorem dX1_init_11 : decode cX1_init 11 = .ok (.putfield 15, 3) := by decide +kernel
theorem dX1_init_14 : decode cX1_init 14 = .ok (.return_, 1) := by decide +kernel
theorem dX1_faultOf_0 : decode cX1_faultOf 0 = .ok (.aload_n 0, 1) := by decide +kernel
theorem dX1_faultOf_1 : decode cX1_faultOf 1 = .ok (.iload_n 3, 1) := by decide +kernel
theorem dX1_faultOf_2 : decode cX1_faultOf 2 = .ok (.putfield 9, 3) := by decide +kernel
theorem dX1_faultOf_5 : decode cX1_faultOf 5 = .ok (.aload_n 0, 1) := by decide +kernel
theorem dX1_faultOf_6 : decode cX1_faultOf 6 = .ok (.iconst 0, 1) := by decide +kernel
theorem dX1_faultOf_7 : decode cX1_faultOf 7 = .ok (.putfield 15, 3) := by decide +kernel
theorem dX1_faultOf_10 : decode cX1_faultOf 10 = .ok (.aload_n 2, 1) := by decide +kernel
theorem dX1_faultOf_11 : decode cX1_faultOf 11 = .ok (.invokevirtual 19, 3) := by decide +kernel
theorem dX1_faultOf_14 : decode cX1_faultOf 14 = .ok (.iconst 1, 1) := by decide +kernel
theorem dX1_faultOf_15 : decode cX1_faultOf 15 = .ok (.istore 4, 2) := by decide +kernel
theorem dX1_faultOf_17 : decode cX1_faultOf 17 = .ok (.iconst 0, 1) := by decide +kernel
theorem dX1_faultOf_18 : decode cX1_faultOf 18 = .ok (.istore 5, 2) := by decide +kernel
theorem dX1_faultOf_20 : decode cX1_faultOf 20 = .ok (.iload 5, 2) := by decide +kernel
theorem dX1_faultOf_22 : decode cX1_faultOf 22 = .ok (.bipush 40, 2) := by decide +kernel
theorem dX1_faultOf_24 : decode cX1_faultOf 24 = .ok (.if_icmp .ge 49, 3) := by decide +kernel
theorem dX1_faultOf_27 : decode cX1_faultOf 27 = .ok (.iload 4, 2) := by decide +kernel
theorem dX1_faultOf_29 : decode cX1_faultOf 29 = .ok (.ifCond .eq 44, 3) := by decide +kernel
theorem dX1_faultOf_32 : decode cX1_faultOf 32 = .ok (.aload_n 0, 1) := by decide +kernel
theorem dX1_faultOf_33 : decode cX1_faultOf 33 = .ok (.getfield 15, 3) := by decide +kernel
theorem dX1_faultOf_36 : decode cX1_faultOf 36 = .ok (.aload_n 1, 1) := by decide +kernel
theorem dX1_faultOf_37 : decode cX1_faultOf 37 = .ok (.getfield 24, 3) := by decide +kernel
theorem dX1_faultOf_40 : decode cX1_faultOf 40 = .ok (.if_icmp .ge 33, 3) := by decide +kernel
theorem dX1_faultOf_43 : decode cX1_faultOf 43 = .ok (.aload_n 0, 1) := by decide +kernel
theorem dX1_faultOf_44 : decode cX1_faultOf 44 = .ok (.getfield 9, 3) := by decide +kernel
theorem dX1_faultOf_47 : decode cX1_faultOf 47 = .ok (.ifCond .eq 12, 3) := by decide +kernel
theorem dX1_faultOf_50 : decode cX1_faultOf 50 = .ok (.aload_n 0, 1) := by decide +kernel
theorem dX1_faultOf_51 : decode cX1_faultOf 51 = .ok (.aload_n 1, 1) := by decide +kernel
theorem dX1_faultOf_52 : decode cX1_faultOf 52 = .ok (.aload_n 2, 1) := by decide +kernel
theorem dX1_faultOf_53 : decode cX1_faultOf 53 = .ok (.invokevirtual 29, 3) := by decide +kernel
theorem dX1_faultOf_56 : decode cX1_faultOf 56 = .ok (.goto 9, 3) := by decide +kernel
theorem dX1_faultOf_59 : decode cX1_faultOf 59 = .ok (.aload_n 0, 1) := by decide +kernel
theorem dX1_faultOf_60 : decode cX1_faultOf 60 = .ok (.aload_n 1, 1) := by decide +kernel
theorem dX1_faultOf_61 : decode cX1_faultOf 61 = .ok (.aload_n 2, 1) := by decide +kernel
theorem dX1_faultOf_62 : decode cX1_faultOf 62 = .ok (.invokevirtual 33, 3) := by decide +kernel
theorem dX1_faultOf_65 : decode cX1_faultOf 65 = .ok (.istore 4, 2) := by decide +kernel
theorem dX1_faultOf_67 : decode cX1_faultOf 67 = .ok (.iinc 5 1, 3) := by decide +kernel
theorem dX1_faultOf_70 : decode cX1_faultOf 70 = .ok (.goto (-50), 3) := by decide +kernel
theorem dX1_faultOf_73 : decode cX1_faultOf 73 = .ok (.iload 4, 2) := by decide +kernel
theorem dX1_faultOf_75 : decode cX1_faultOf 75 = .ok (.ifCond .eq 18, 3) := by decide +kernel
theorem dX1_faultOf_78 : decode cX1_faultOf 78 = .ok (.aload_n 0, 1) := by decide +kernel
theorem dX1_faultOf_79 : decode cX1_faultOf 79 = .ok (.getfield 15, 3) := by decide +kernel
theorem dX1_faultOf_82 : decode cX1_faultOf 82 = .ok (.aload_n 1, 1) := by decide +kernel
theorem dX1_faultOf_83 : decode cX1_faultOf 83 = .ok (.getfield 24, 3) := by decide +kernel
theorem dX1_faultOf_86 : decode cX1_faultOf 86 = .ok (.if_icmp .lt 7, 3) := by decide +kernel
theorem dX1_faultOf_89 : decode cX1_faultOf 89 = .ok (.iconst (-1), 1) := by decide +kernel
theorem dX1_faultOf_90 : decode cX1_faultOf 90 = .ok (.goto 11, 3) := by decide +kernel
theorem dX1_faultOf_93 : decode cX1_faultOf 93 = .ok (.aload_n 1, 1) := by decide +kernel
theorem dX1_faultOf_94 : decode cX1_faultOf 94 = .ok (.aload_n 0, 1) := by decide +kernel
theorem dX1_faultOf_95 : decode cX1_faultOf 95 = .ok (.getfield 15, 3) := by decide +kernel
theorem dX1_faultOf_98 : decode cX1_faultOf 98 = .ok (.invokevirtual 36, 3) := by decide +kernel
theorem dX1_faultOf_101 : decode cX1_faultOf 101 = .ok (.ireturn, 1) := by decide +kernel
theorem dX1_takesSort_0 : decode cX1_takesSort 0 = .ok (.aload_n 1, 1) := by decide +kernel
theorem dX1_takesSort_1 : decode cX1_takesSort 1 = .ok (.aload_n 0, 1) := by decide +kernel
theorem dX1_takesSort_2 : decode cX1_takesSort 2 = .ok (.getfield 15, 3) := by decide +kernel
theorem dX1_takesSort_5 : decode cX1_takesSort 5 = .ok (.invokevirtual 40, 3) := by decide +kernel
theorem dX1_takesSort_8 : decode cX1_takesSort 8 = .ok (.sipush 200, 3) := by decide +kernel
theorem dX1_takesSort_11 : decode cX1_takesSort 11 = .ok (.isub, 1) := by decide +kernel
theorem dX1_takesSort_12 : decode cX1_takesSort 12 = .ok (.istore_n 3, 1) := by decide +kernel
theorem dX1_takesSort_13 : decode cX1_takesSort 13 = .ok (.iload_n 3, 1) := by decide +kernel
theorem dX1_takesSort_14 : decode cX1_takesSort 14 = .ok (.ifCond .lt 8, 3) := by decide +kernel
theorem dX1_takesSort_17 : decode cX1_takesSort 17 = .ok (.iload_n 3, 1) := by decide +kernel
theorem dX1_takesSort_18 : decode cX1_takesSort 18 = .ok (.iconst 2, 1) := by decide +kernel
theorem dX1_takesSort_19 : decode cX1_takesSort 19 = .ok (.if_icmp .le 5, 3) := by decide +kernel
theorem dX1_takesSort_22 : decode cX1_takesSort 22 = .ok (.iconst 0, 1) := by decide +kernel
theorem dX1_takesSort_23 : decode cX1_takesSort 23 = .ok (.ireturn, 1) := by decide +kernel
theorem dX1_takesSort_24 : decode cX1_takesSort 24 = .ok (.aload_n 0, 1) := by decide +kernel
theorem dX1_takesSort_25 : decode cX1_takesSort 25 = .ok (.dup, 1) := by decide +kernel
theorem dX1_takesSort_26 : decode cX1_takesSort 26 = .ok (.getfield 15, 3) := by decide +kernel
theorem dX1_takesSort_29 : decode cX1_takesSort 29 = .ok (.iconst 1, 1) := by decide +kernel
theorem dX1_takesSort_30 : decode cX1_takesSort 30 = .ok (.iadd, 1) := by decide +kernel
theorem dX1_takesSort_31 : decode cX1_takesSort 31 = .ok (.putfield 15, 3) := by decide +kernel
theorem dX1_takesSort_34 : decode cX1_takesSort 34 = .ok (.aload_n 0, 1) := by decide +kernel
theorem dX1_takesSort_35 : decode cX1_takesSort 35 = .ok (.aload_n 1, 1) := by decide +kernel
theorem dX1_takesSort_36 : decode cX1_takesSort 36 = .ok (.bipush 12, 2) := by decide +kernel
theorem dX1_takesSort_38 : decode cX1_takesSort 38 = .ok (.invokevirtual 43, 3) := by decide +kernel
theorem dX1_takesSort_41 : decode cX1_takesSort 41 = .ok (.istore 4, 2) := by decide +kernel
theorem dX1_takesSort_43 : decode cX1_takesSort 43 = .ok (.iload 4, 2) := by decide +kernel
theorem dX1_takesSort_45 : decode cX1_takesSort 45 = .ok (.iconst (-1), 1) := by decide +kernel
theorem dX1_takesSort_46 : decode cX1_takesSort 46 = .ok (.if_icmp .eq 14, 3) := by decide +kernel
theorem dX1_takesSort_49 : decode cX1_takesSort 49 = .ok (.aload_n 0, 1) := by decide +kernel
theorem dX1_takesSort_50 : decode cX1_takesSort 50 = .ok (.aload_n 1, 1) := by decide +kernel
theorem dX1_takesSort_51 : decode cX1_takesSort 51 = .ok (.sipush 220, 3) := by decide +kernel
theorem dX1_takesSort_54 : decode cX1_takesSort 54 = .ok (.invokevirtual 47, 3) := by decide +kernel
theorem dX1_takesSort_57 : decode cX1_takesSort 57 = .ok (.ifCond .ne 5, 3) := by decide +kernel
theorem dX1_takesSort_60 : decode cX1_takesSort 60 = .ok (.iconst 0, 1) := by decide +kernel
theorem dX1_takesSort_61 : decode cX1_takesSort 61 = .ok (.ireturn, 1) := by decide +kernel
theorem dX1_takesSort_62 : decode cX1_takesSort 62 = .ok (.aload_n 0, 1) := by decide +kernel
theorem dX1_takesSort_63 : decode cX1_takesSort 63 = .ok (.aload_n 1, 1) := by decide +kernel
theorem dX1_takesSort_64 : decode cX1_takesSort 64 = .ok (.bipush 99, 2) := by decide +kernel
theorem dX1_takesSort_66 : decode cX1_takesSort 66 = .ok (.invokevirtual 43, 3) := by decide +kernel
theorem dX1_takesSort_69 : decode cX1_takesSort 69 = .ok (.istore 5, 2) := by decide +kernel
theorem dX1_takesSort_71 : decode cX1_takesSort 71 = .ok (.iload 5, 2) := by decide +kernel
theorem dX1_takesSort_73 : decode cX1_takesSort 73 = .ok (.iconst (-1), 1) := by decide +kernel
theorem dX1_takesSort_74 : decode cX1_takesSort 74 = .ok (.if_icmp .eq 12, 3) := by decide +kernel
theorem dX1_takesSort_77 : decode cX1_takesSort 77 = .ok (.aload_n 0, 1) := by decide +kernel
theorem dX1_takesSort_78 : decode cX1_takesSort 78 = .ok (.aload_n 1, 1) := by decide +kernel
theorem dX1_takesSort_79 : decode cX1_takesSort 79 = .ok (.aload_n 2, 1) := by decide +kernel
theorem dX1_takesSort_80 : decode cX1_takesSort 80 = .ok (.invokevirtual 51, 3) := by decide +kernel
theorem dX1_takesSort_83 : decode cX1_takesSort 83 = .ok (.ifCond .ne 5, 3) := by decide +kernel
theorem dX1_takesSort_86 : decode cX1_takesSort 86 = .ok (.iconst 0, 1) := by decide +kernel
theorem dX1_takesSort_87 : decode cX1_takesSort 87 = .ok (.ireturn, 1) := by decide +kernel
theorem dX1_takesSort_88 : decode cX1_takesSort 88 = .ok (.aload_n 2, 1) := by decide +kernel
theorem dX1_takesSort_89 : decode cX1_takesSort 89 = .ok (.iload_n 3, 1) := by decide +kernel
theorem dX1_takesSort_90 : decode cX1_takesSort 90 = .ok (.iload 4, 2) := by decide +kernel
theorem dX1_takesSort_92 : decode cX1_takesSort 92 = .ok (.iload 5, 2) := by decide +kernel
theorem dX1_takesSort_94 : decode cX1_takesSort 94 = .ok (.invokevirtual 54, 3) := by decide +kernel
theorem dX1_takesSort_97 : decode cX1_takesSort 97 = .ok (.iconst 1, 1) := by decide +kernel
theorem dX1_takesSort_98 : decode cX1_takesSort 98 = .ok (.ireturn, 1) := by decide +kernel
theorem dX1_takesHabit_0 : decode cX1_takesHabit 0 = .ok (.aload_n 0, 1) := by decide +kernel
theorem dX1_takesHabit_1 : decode cX1_takesHabit 1 = .ok (.aload_n 1, 1) := by decide +kernel
theorem dX1_takesHabit_2 : decode cX1_takesHabit 2 = .ok (.sipush 223, 3) := by decide +kernel
theorem dX1_takesHabit_5 : decode cX1_takesHabit 5 = .ok (.invokevirtual 47, 3) := by decide +kernel
theorem dX1_takesHabit_8 : decode cX1_takesHabit 8 = .ok (.ifCond .eq 10, 3) := by decide +kernel
theorem dX1_takesHabit_11 : decode cX1_takesHabit 11 = .ok (.aload_n 0, 1) := by decide +kernel
theorem dX1_takesHabit_12 : decode cX1_takesHabit 12 = .ok (.aload_n 1, 1) := by decide +kernel
theorem dX1_takesHabit_13 : decode cX1_takesHabit 13 = .ok (.aload_n 2, 1) := by decide +kernel
theorem dX1_takesHabit_14 : decode cX1_takesHabit 14 = .ok (.invokevirtual 58, 3) := by decide +kernel
theorem dX1_takesHabit_17 : decode cX1_takesHabit 17 = .ok (.ireturn, 1) := by decide +kernel
theorem dX1_takesHabit_18 : decode cX1_takesHabit 18 = .ok (.aload_n 0, 1) := by decide +kernel
theorem dX1_takesHabit_19 : decode cX1_takesHabit 19 = .ok (.aload_n 1, 1) := by decide +kernel
theorem dX1_takesHabit_20 : decode cX1_takesHabit 20 = .ok (.sipush 222, 3) := by decide +kernel
theorem dX1_takesHabit_23 : decode cX1_takesHabit 23 = .ok (.invokevirtual 47, 3) := by decide +kernel
theorem dX1_takesHabit_26 : decode cX1_takesHabit 26 = .ok (.ifCond .ne 5, 3) := by decide +kernel
theorem dX1_takesHabit_29 : decode cX1_takesHabit 29 = .ok (.iconst 0, 1) := by decide +kernel
theorem dX1_takesHabit_30 : decode cX1_takesHabit 30 = .ok (.ireturn, 1) := by decide +kernel
theorem dX1_takesHabit_31 : decode cX1_takesHabit 31 = .ok (.aload_n 0, 1) := by decide +kernel
theorem dX1_takesHabit_32 : decode cX1_takesHabit 32 = .ok (.aload_n 1, 1) := by decide +kernel
theorem dX1_takesHabit_33 : decode cX1_takesHabit 33 = .ok (.sipush 225, 3) := by decide +kernel
theorem dX1_takesHabit_36 : decode cX1_takesHabit 36 = .ok (.invokevirtual 47, 3) := by decide +kernel
theorem dX1_takesHabit_39 : decode cX1_takesHabit 39 = .ok (.istore_n 3, 1) := by decide +kernel
theorem dX1_takesHabit_40 : decode cX1_takesHabit 40 = .ok (.iload_n 3, 1) := by decide +kernel
theorem dX1_takesHabit_41 : decode cX1_takesHabit 41 = .ok (.ifCond .ne 16, 3) := by decide +kernel
theorem dX1_takesHabit_44 : decode cX1_takesHabit 44 = .ok (.aload_n 0, 1) := by decide +kernel
theorem dX1_takesHabit_45 : decode cX1_takesHabit 45 = .ok (.aload_n 1, 1) := by decide +kernel
theorem dX1_takesHabit_46 : decode cX1_takesHabit 46 = .ok (.sipush 226, 3) := by decide +kernel
theorem dX1_takesHabit_49 : decode cX1_takesHabit 49 = .ok (.invokevirtual 47, 3) := by decide +kernel
theorem dX1_takesHabit_52 : decode cX1_takesHabit 52 = .ok (.ifCond .ne 5, 3) := by decide +kernel
theorem dX1_takesHabit_55 : decode cX1_takesHabit 55 = .ok (.iconst 0, 1) := by decide +kernel
theorem dX1_takesHabit_56 : decode cX1_takesHabit 56 = .ok (.ireturn, 1) := by decide +kernel
theorem dX1_takesHabit_57 : decode cX1_takesHabit 57 = .ok (.aload_n 0, 1) := by decide +kernel
theorem dX1_takesHabit_58 : decode cX1_takesHabit 58 = .ok (.aload_n 1, 1) := by decide +kernel
theorem dX1_takesHabit_59 : decode cX1_takesHabit 59 = .ok (.bipush 12, 2) := by decide +kernel
theorem dX1_takesHabit_61 : decode cX1_takesHabit 61 = .ok (.invokevirtual 43, 3) := by decide +kernel
theorem dX1_takesHabit_64 : decode cX1_takesHabit 64 = .ok (.istore 4, 2) := by decide +kernel
theorem dX1_takesHabit_66 : decode cX1_takesHabit 66 = .ok (.iload 4, 2) := by decide +kernel
theorem dX1_takesHabit_68 : decode cX1_takesHabit 68 = .ok (.iconst (-1), 1) := by decide +kernel
theorem dX1_takesHabit_69 : decode cX1_takesHabit 69 = .ok (.if_icmp .eq 12, 3) := by decide +kernel
theorem dX1_takesHabit_72 : decode cX1_takesHabit 72 = .ok (.aload_n 0, 1) := by decide +kernel
theorem dX1_takesHabit_73 : decode cX1_takesHabit 73 = .ok (.aload_n 1, 1) := by decide +kernel
theorem dX1_takesHabit_74 : decode cX1_takesHabit 74 = .ok (.aload_n 2, 1) := by decide +kernel
theorem dX1_takesHabit_75 : decode cX1_takesHabit 75 = .ok (.invokevirtual 51, 3) := by decide +kernel
theorem dX1_takesHabit_78 : decode cX1_takesHabit 78 = .ok (.ifCond .ne 5, 3) := by decide +kernel
theorem dX1_takesHabit_81 : decode cX1_takesHabit 81 = .ok (.iconst 0, 1) := by decide +kernel
theorem dX1_takesHabit_82 : decode cX1_takesHabit 82 = .ok (.ireturn, 1) := by decide +kernel
theorem dX1_takesHabit_83 : decode cX1_takesHabit 83 = .ok (.aload_n 2, 1) := by decide +kernel
theorem dX1_takesHabit_84 : decode cX1_takesHabit 84 = .ok (.iload_n 3, 1) := by decide +kernel
theorem dX1_takesHabit_85 : decode cX1_takesHabit 85 = .ok (.ifCond .eq 7, 3) := by decide +kernel
theorem dX1_takesHabit_88 : decode cX1_takesHabit 88 = .ok (.iconst 0, 1) := by decide +kernel
theorem dX1_takesHabit_89 : decode cX1_takesHabit 89 = .ok (.goto 4, 3) := by decide +kernel
theorem dX1_takesHabit_92 : decode cX1_takesHabit 92 = .ok (.iconst 1, 1) := by decide +kernel
theorem dX1_takesHabit_93 : decode cX1_takesHabit 93 = .ok (.iload 4, 2) := by decide +kernel
theorem dX1_takesHabit_95 : decode cX1_takesHabit 95 = .ok (.iconst 0, 1) := by decide +kernel
theorem dX1_takesHabit_96 : decode cX1_takesHabit 96 = .ok (.invokevirtual 54, 3) := by decide +kernel
theorem dX1_takesHabit_99 : decode cX1_takesHabit 99 = .ok (.iconst 1, 1) := by decide +kernel
theorem dX1_takesHabit_100 : decode cX1_takesHabit 100 = .ok (.ireturn, 1) := by decide +kernel
theorem dX1_takesWrite_0 : decode cX1_takesWrite 0 = .ok (.aload_n 0, 1) := by decide +kernel
theorem dX1_takesWrite_1 : decode cX1_takesWrite 1 = .ok (.aload_n 1, 1) := by decide +kernel
theorem dX1_takesWrite_2 : decode cX1_takesWrite 2 = .ok (.bipush 12, 2) := by decide +kernel
theorem dX1_takesWrite_4 : decode cX1_takesWrite 4 = .ok (.invokevirtual 43, 3) := by decide +kernel
theorem dX1_takesWrite_7 : decode cX1_takesWrite 7 = .ok (.istore_n 3, 1) := by decide +kernel
theorem dX1_takesWrite_8 : decode cX1_takesWrite 8 = .ok (.iload_n 3, 1) := by decide +kernel
theorem dX1_takesWrite_9 : decode cX1_takesWrite 9 = .ok (.iconst (-1), 1) := by decide +kernel
theorem dX1_takesWrite_10 : decode cX1_takesWrite 10 = .ok (.if_icmp .eq 14, 3) := by decide +kernel
theorem dX1_takesWrite_13 : decode cX1_takesWrite 13 = .ok (.aload_n 0, 1) := by decide +kernel
theorem dX1_takesWrite_14 : decode cX1_takesWrite 14 = .ok (.aload_n 1, 1) := by decide +kernel
theorem dX1_takesWrite_15 : decode cX1_takesWrite 15 = .ok (.sipush 224, 3) := by decide +kernel
theorem dX1_takesWrite_18 : decode cX1_takesWrite 18 = .ok (.invokevirtual 47, 3) := by decide +kernel
theorem dX1_takesWrite_21 : decode cX1_takesWrite 21 = .ok (.ifCond .ne 5, 3) := by decide +kernel
theorem dX1_takesWrite_24 : decode cX1_takesWrite 24 = .ok (.iconst 0, 1) := by decide +kernel
theorem dX1_takesWrite_25 : decode cX1_takesWrite 25 = .ok (.ireturn, 1) := by decide +kernel
theorem dX1_takesWrite_26 : decode cX1_takesWrite 26 = .ok (.aload_n 0, 1) := by decide +kernel
theorem dX1_takesWrite_27 : decode cX1_takesWrite 27 = .ok (.aload_n 1, 1) := by decide +kernel
theorem dX1_takesWrite_28 : decode cX1_takesWrite 28 = .ok (.bipush 12, 2) := by decide +kernel
theorem dX1_takesWrite_30 : decode cX1_takesWrite 30 = .ok (.invokevirtual 43, 3) := by decide +kernel
theorem dX1_takesWrite_33 : decode cX1_takesWrite 33 = .ok (.istore 4, 2) := by decide +kernel
theorem dX1_takesWrite_35 : decode cX1_takesWrite 35 = .ok (.iload 4, 2) := by decide +kernel
theorem dX1_takesWrite_37 : decode cX1_takesWrite 37 = .ok (.iconst (-1), 1) := by decide +kernel
theorem dX1_takesWrite_38 : decode cX1_takesWrite 38 = .ok (.if_icmp .eq 13, 3) := by decide +kernel
theorem dX1_takesWrite_41 : decode cX1_takesWrite 41 = .ok (.aload_n 0, 1) := by decide +kernel
theorem dX1_takesWrite_42 : decode cX1_takesWrite 42 = .ok (.aload_n 1, 1) := by decide +kernel
theorem dX1_takesWrite_43 : decode cX1_takesWrite 43 = .ok (.bipush 59, 2) := by decide +kernel
theorem dX1_takesWrite_45 : decode cX1_takesWrite 45 = .ok (.invokevirtual 47, 3) := by decide +kernel
theorem dX1_takesWrite_48 : decode cX1_takesWrite 48 = .ok (.ifCond .ne 5, 3) := by decide +kernel
theorem dX1_takesWrite_51 : decode cX1_takesWrite 51 = .ok (.iconst 0, 1) := by decide +kernel
theorem dX1_takesWrite_52 : decode cX1_takesWrite 52 = .ok (.ireturn, 1) := by decide +kernel
theorem dX1_takesWrite_53 : decode cX1_takesWrite 53 = .ok (.aload_n 2, 1) := by decide +kernel
theorem dX1_takesWrite_54 : decode cX1_takesWrite 54 = .ok (.iconst 2, 1) := by decide +kernel
theorem dX1_takesWrite_55 : decode cX1_takesWrite 55 = .ok (.iload_n 3, 1) := by decide +kernel
theorem dX1_takesWrite_56 : decode cX1_takesWrite 56 = .ok (.iload 4, 2) := by decide +kernel
theorem dX1_takesWrite_58 : decode cX1_takesWrite 58 = .ok (.invokevirtual 54, 3) := by decide +kernel
theorem dX1_takesWrite_61 : decode cX1_takesWrite 61 = .ok (.iconst 1, 1) := by decide +kernel
theorem dX1_takesWrite_62 : decode cX1_takesWrite 62 = .ok (.ireturn, 1) := by decide +kernel
theorem dX1_takesCondition_0 : decode cX1_takesCondition 0 = .ok (.aload_n 0, 1) := by decide +kernel
theorem dX1_takesCondition_1 : decode cX1_takesCondition 1 = .ok (.aload_n 1, 1) := by decide +kernel
theorem dX1_takesCondition_2 : decode cX1_takesCondition 2 = .ok (.sipush 221, 3) := by decide +kernel
theorem dX1_takesCondition_5 : decode cX1_takesCondition 5 = .ok (.invokevirtual 47, 3) := by decide +kernel
theorem dX1_takesCondition_8 : decode cX1_takesCondition 8 = .ok (.ifCond .eq 15, 3) := by decide +kernel
theorem dX1_takesCondition_11 : decode cX1_takesCondition 11 = .ok (.aload_n 0, 1) := by decide +kernel
theorem dX1_takesCondition_12 : decode cX1_takesCondition 12 = .ok (.aload_n 1, 1) := by decide +kernel
theorem dX1_takesCondition_13 : decode cX1_takesCondition 13 = .ok (.aload_n 2, 1) := by decide +kernel
theorem dX1_takesCondition_14 : decode cX1_takesCondition 14 = .ok (.iconst 0, 1) := by decide +kernel
theorem dX1_takesCondition_15 : decode cX1_takesCondition 15 = .ok (.invokevirtual 61, 3) := by decide +kernel
theorem dX1_takesCondition_18 : decode cX1_takesCondition 18 = .ok (.ifCond .ne 5, 3) := by decide +kernel
theorem dX1_takesCondition_21 : decode cX1_takesCondition 21 = .ok (.iconst 0, 1) := by decide +kernel
theorem dX1_takesCondition_22 : decode cX1_takesCondition 22 = .ok (.ireturn, 1) := by decide +kernel
theorem dX1_takesCondition_23 : decode cX1_takesCondition 23 = .ok (.aload_n 0, 1) := by decide +kernel
theorem dX1_takesCondition_24 : decode cX1_takesCondition 24 = .ok (.aload_n 1, 1) := by decide +kernel
theorem dX1_takesCondition_25 : decode cX1_takesCondition 25 = .ok (.bipush 59, 2) := by decide +kernel
theorem dX1_takesCondition_27 : decode cX1_takesCondition 27 = .ok (.invokevirtual 47, 3) := by decide +kernel
theorem dX1_takesCondition_30 : decode cX1_takesCondition 30 = .ok (.ireturn, 1) := by decide +kernel
theorem dX1_takesAny_0 : decode cX1_takesAny 0 = .ok (.aload_n 0, 1) := by decide +kernel
theorem dX1_takesAny_1 : decode cX1_takesAny 1 = .ok (.aload_n 1, 1) := by decide +kernel
theorem dX1_takesAny_2 : decode cX1_takesAny 2 = .ok (.aload_n 2, 1) := by decide +kernel
theorem dX1_takesAny_3 : decode cX1_takesAny 3 = .ok (.iload_n 3, 1) := by decide +kernel
theorem dX1_takesAny_4 : decode cX1_takesAny 4 = .ok (.invokevirtual 65, 3) := by decide +kernel
theorem dX1_takesAny_7 : decode cX1_takesAny 7 = .ok (.ifCond .ne 5, 3) := by decide +kernel
theorem dX1_takesAny_10 : decode cX1_takesAny 10 = .ok (.iconst 0, 1) := by decide +kernel
theorem dX1_takesAny_11 : decode cX1_takesAny 11 = .ok (.ireturn, 1) := by decide +kernel
theorem dX1_takesAny_12 : decode cX1_takesAny 12 = .ok (.iconst 0, 1) := by decide +kernel
theorem dX1_takesAny_13 : decode cX1_takesAny 13 = .ok (.istore 4, 2) := by decide +kernel
theorem dX1_takesAny_15 : decode cX1_takesAny 15 = .ok (.iload 4, 2) := by decide +kernel
theorem dX1_takesAny_17 : decode cX1_takesAny 17 = .ok (.aload_n 1, 1) := by decide +kernel
theorem dX1_takesAny_18 : decode cX1_takesAny 18 = .ok (.getfield 24, 3) := by decide +kernel
theorem dX1_takesAny_21 : decode cX1_takesAny 21 = .ok (.if_icmp .ge 38, 3) := by decide +kernel
theorem dX1_takesAny_24 : decode cX1_takesAny 24 = .ok (.aload_n 0, 1) := by decide +kernel
theorem dX1_takesAny_25 : decode cX1_takesAny 25 = .ok (.aload_n 1, 1) := by decide +kernel
theorem dX1_takesAny_26 : decode cX1_takesAny 26 = .ok (.sipush 228, 3) := by decide +kernel
theorem dX1_takesAny_29 : decode cX1_takesAny 29 = .ok (.invokevirtual 47, 3) := by decide +kernel
theorem dX1_takesAny_32 : decode cX1_takesAny 32 = .ok (.ifCond .eq 27, 3) := by decide +kernel
theorem dX1_takesAny_35 : decode cX1_takesAny 35 = .ok (.aload_n 0, 1) := by decide +kernel
theorem dX1_takesAny_36 : decode cX1_takesAny 36 = .ok (.aload_n 1, 1) := by decide +kernel
theorem dX1_takesAny_37 : decode cX1_takesAny 37 = .ok (.aload_n 2, 1) := by decide +kernel
theorem dX1_takesAny_38 : decode cX1_takesAny 38 = .ok (.iload_n 3, 1) := by decide +kernel
theorem dX1_takesAny_39 : decode cX1_takesAny 39 = .ok (.invokevirtual 65, 3) := by decide +kernel
theorem dX1_takesAny_42 : decode cX1_takesAny 42 = .ok (.ifCond .ne 5, 3) := by decide +kernel
theorem dX1_takesAny_45 : decode cX1_takesAny 45 = .ok (.iconst 0, 1) := by decide +kernel
theorem dX1_takesAny_46 : decode cX1_takesAny 46 = .ok (.ireturn, 1) := by decide +kernel
theorem dX1_takesAny_47 : decode cX1_takesAny 47 = .ok (.aload_n 2, 1) := by decide +kernel
theorem dX1_takesAny_48 : decode cX1_takesAny 48 = .ok (.bipush (-3), 2) := by decide +kernel
theorem dX1_takesAny_50 : decode cX1_takesAny 50 = .ok (.invokevirtual 68, 3) := by decide +kernel
theorem dX1_takesAny_53 : decode cX1_takesAny 53 = .ok (.iinc 4 1, 3) := by decide +kernel
theorem dX1_takesAny_56 : decode cX1_takesAny 56 = .ok (.goto (-41), 3) := by decide +kernel
theorem dX1_takesAny_59 : decode cX1_takesAny 59 = .ok (.iconst 1, 1) := by decide +kernel
theorem dX1_takesAny_60 : decode cX1_takesAny 60 = .ok (.ireturn, 1) := by decide +kernel
theorem dX1_takesAll_0 : decode cX1_takesAll 0 = .ok (.aload_n 0, 1) := by decide +kernel
theorem dX1_takesAll_1 : decode cX1_takesAll 1 = .ok (.aload_n 1, 1) := by decide +kernel
theorem dX1_takesAll_2 : decode cX1_takesAll 2 = .ok (.aload_n 2, 1) := by decide +kernel
theorem dX1_takesAll_3 : decode cX1_takesAll 3 = .ok (.iload_n 3, 1) := by decide +kernel
theorem dX1_takesAll_4 : decode cX1_takesAll 4 = .ok (.invokevirtual 72, 3) := by decide +kernel
theorem dX1_takesAll_7 : decode cX1_takesAll 7 = .ok (.ifCond .ne 5, 3) := by decide +kernel
theorem dX1_takesAll_10 : decode cX1_takesAll 10 = .ok (.iconst 0, 1) := by decide +kernel
theorem dX1_takesAll_11 : decode cX1_takesAll 11 = .ok (.ireturn, 1) := by decide +kernel
theorem dX1_takesAll_12 : decode cX1_takesAll 12 = .ok (.iconst 0, 1) := by decide +kernel
theorem dX1_takesAll_13 : decode cX1_takesAll 13 = .ok (.istore 4, 2) := by decide +kernel
theorem dX1_takesAll_15 : decode cX1_takesAll 15 = .ok (.iload 4, 2) := by decide +kernel
theorem dX1_takesAll_17 : decode cX1_takesAll 17 = .ok (.aload_n 1, 1) := by decide +kernel
theorem dX1_takesAll_18 : decode cX1_takesAll 18 = .ok (.getfield 24, 3) := by decide +kernel
theorem dX1_takesAll_21 : decode cX1_takesAll 21 = .ok (.if_icmp .ge 38, 3) := by decide +kernel
theorem dX1_takesAll_24 : decode cX1_takesAll 24 = .ok (.aload_n 0, 1) := by decide +kernel
theorem dX1_takesAll_25 : decode cX1_takesAll 25 = .ok (.aload_n 1, 1) := by decide +kernel
theorem dX1_takesAll_26 : decode cX1_takesAll 26 = .ok (.sipush 227, 3) := by decide +kernel
theorem dX1_takesAll_29 : decode cX1_takesAll 29 = .ok (.invokevirtual 47, 3) := by decide +kernel
theorem dX1_takesAll_32 : decode cX1_takesAll 32 = .ok (.ifCond .eq 27, 3) := by decide +kernel
theorem dX1_takesAll_35 : decode cX1_takesAll 35 = .ok (.aload_n 0, 1) := by decide +kernel
theorem dX1_takesAll_36 : decode cX1_takesAll 36 = .ok (.aload_n 1, 1) := by decide +kernel
theorem dX1_takesAll_37 : decode cX1_takesAll 37 = .ok (.aload_n 2, 1) := by decide +kernel
theorem dX1_takesAll_38 : decode cX1_takesAll 38 = .ok (.iload_n 3, 1) := by decide +kernel
theorem dX1_takesAll_39 : decode cX1_takesAll 39 = .ok (.invokevirtual 72, 3) := by decide +kernel
theorem dX1_takesAll_42 : decode cX1_takesAll 42 = .ok (.ifCond .ne 5, 3) := by decide +kernel
theorem dX1_takesAll_45 : decode cX1_takesAll 45 = .ok (.iconst 0, 1) := by decide +kernel
theorem dX1_takesAll_46 : decode cX1_takesAll 46 = .ok (.ireturn, 1) := by decide +kernel
theorem dX1_takesAll_47 : decode cX1_takesAll 47 = .ok (.aload_n 2, 1) := by decide +kernel
theorem dX1_takesAll_48 : decode cX1_takesAll 48 = .ok (.bipush (-2), 2) := by decide +kernel
theorem dX1_takesAll_50 : decode cX1_takesAll 50 = .ok (.invokevirtual 68, 3) := by decide +kernel
theorem dX1_takesAll_53 : decode cX1_takesAll 53 = .ok (.iinc 4 1, 3) := by decide +kernel
theorem dX1_takesAll_56 : decode cX1_takesAll 56 = .ok (.goto (-41), 3) := by decide +kernel
theorem dX1_takesAll_59 : decode cX1_takesAll 59 = .ok (.iconst 1, 1) := by decide +kernel
theorem dX1_takesAll_60 : decode cX1_takesAll 60 = .ok (.ireturn, 1) := by decide +kernel
theorem dX1_takesOne_0 : decode cX1_takesOne 0 = .ok (.iload_n 3, 1) := by decide +kernel
theorem dX1_takesOne_1 : decode cX1_takesOne 1 = .ok (.istore 4, 2) := by decide +kernel
theorem dX1_takesOne_3 : decode cX1_takesOne 3 = .ok (.iload 4, 2) := by decide +kernel
theorem dX1_takesOne_5 : decode cX1_takesOne 5 = .ok (.bipush 9, 2) := by decide +kernel
theorem dX1_takesOne_7 : decode cX1_takesOne 7 = .ok (.if_icmp .ge 20, 3) := by decide +kernel
theorem dX1_takesOne_10 : decode cX1_takesOne 10 = .ok (.aload_n 0, 1) := by decide +kernel
theorem dX1_takesOne_11 : decode cX1_takesOne 11 = .ok (.aload_n 1, 1) := by decide +kernel
theorem dX1_takesOne_12 : decode cX1_takesOne 12 = .ok (.sipush 229, 3) := by decide +kernel
theorem dX1_takesOne_15 : decode cX1_takesOne 15 = .ok (.invokevirtual 47, 3) := by decide +kernel
theorem dX1_takesOne_18 : decode cX1_takesOne 18 = .ok (.ifCond .eq 9, 3) := by decide +kernel
theorem dX1_takesOne_21 : decode cX1_takesOne 21 = .ok (.iinc 4 1, 3) := by decide +kernel
theorem dX1_takesOne_24 : decode cX1_takesOne 24 = .ok (.goto (-21), 3) := by decide +kernel
theorem dX1_takesOne_27 : decode cX1_takesOne 27 = .ok (.iload 4, 2) := by decide +kernel
theorem dX1_takesOne_29 : decode cX1_takesOne 29 = .ok (.bipush 9, 2) := by decide +kernel
theorem dX1_takesOne_31 : decode cX1_takesOne 31 = .ok (.if_icmp .ge 44, 3) := by decide +kernel
theorem dX1_takesOne_34 : decode cX1_takesOne 34 = .ok (.aload_n 0, 1) := by decide +kernel
theorem dX1_takesOne_35 : decode cX1_takesOne 35 = .ok (.aload_n 1, 1) := by decide +kernel
theorem dX1_takesOne_36 : decode cX1_takesOne 36 = .ok (.bipush 40, 2) := by decide +kernel
theorem dX1_takesOne_38 : decode cX1_takesOne 38 = .ok (.invokevirtual 47, 3) := by decide +kernel
theorem dX1_takesOne_41 : decode cX1_takesOne 41 = .ok (.ifCond .eq 34, 3) := by decide +kernel
theorem dX1_takesOne_44 : decode cX1_takesOne 44 = .ok (.aload_n 0, 1) := by decide +kernel
theorem dX1_takesOne_45 : decode cX1_takesOne 45 = .ok (.aload_n 1, 1) := by decide +kernel
theorem dX1_takesOne_46 : decode cX1_takesOne 46 = .ok (.aload_n 2, 1) := by decide +kernel
theorem dX1_takesOne_47 : decode cX1_takesOne 47 = .ok (.iload 4, 2) := by decide +kernel
theorem dX1_takesOne_49 : decode cX1_takesOne 49 = .ok (.iconst 1, 1) := by decide +kernel
theorem dX1_takesOne_50 : decode cX1_takesOne 50 = .ok (.iadd, 1) := by decide +kernel
theorem dX1_takesOne_51 : decode cX1_takesOne 51 = .ok (.invokevirtual 61, 3) := by decide +kernel
theorem dX1_takesOne_54 : decode cX1_takesOne 54 = .ok (.ifCond .eq 17, 3) := by decide +kernel
theorem dX1_takesOne_57 : decode cX1_takesOne 57 = .ok (.aload_n 0, 1) := by decide +kernel
theorem dX1_takesOne_58 : decode cX1_takesOne 58 = .ok (.aload_n 1, 1) := by decide +kernel
theorem dX1_takesOne_59 : decode cX1_takesOne 59 = .ok (.bipush 41, 2) := by decide +kernel
theorem dX1_takesOne_61 : decode cX1_takesOne 61 = .ok (.invokevirtual 47, 3) := by decide +kernel
theorem dX1_takesOne_64 : decode cX1_takesOne 64 = .ok (.ifCond .eq 7, 3) := by decide +kernel
theorem dX1_takesOne_67 : decode cX1_takesOne 67 = .ok (.iconst 1, 1) := by decide +kernel
theorem dX1_takesOne_68 : decode cX1_takesOne 68 = .ok (.goto 13, 3) := by decide +kernel
theorem dX1_takesOne_71 : decode cX1_takesOne 71 = .ok (.iconst 0, 1) := by decide +kernel
theorem dX1_takesOne_72 : decode cX1_takesOne 72 = .ok (.goto 9, 3) := by decide +kernel
theorem dX1_takesOne_75 : decode cX1_takesOne 75 = .ok (.aload_n 0, 1) := by decide +kernel
theorem dX1_takesOne_76 : decode cX1_takesOne 76 = .ok (.aload_n 1, 1) := by decide +kernel
theorem dX1_takesOne_77 : decode cX1_takesOne 77 = .ok (.aload_n 2, 1) := by decide +kernel
theorem dX1_takesOne_78 : decode cX1_takesOne 78 = .ok (.invokevirtual 75, 3) := by decide +kernel
theorem dX1_takesOne_81 : decode cX1_takesOne 81 = .ok (.istore 5, 2) := by decide +kernel
theorem dX1_takesOne_83 : decode cX1_takesOne 83 = .ok (.iload 5, 2) := by decide +kernel
theorem dX1_takesOne_85 : decode cX1_takesOne 85 = .ok (.ifCond .eq 18, 3) := by decide +kernel
theorem dX1_takesOne_88 : decode cX1_takesOne 88 = .ok (.iload 4, 2) := by decide +kernel
theorem dX1_takesOne_90 : decode cX1_takesOne 90 = .ok (.iload_n 3, 1) := by decide +kernel
theorem dX1_takesOne_91 : decode cX1_takesOne 91 = .ok (.isub, 1) := by decide +kernel
theorem dX1_takesOne_92 : decode cX1_takesOne 92 = .ok (.iconst 2, 1) := by decide +kernel
theorem dX1_takesOne_93 : decode cX1_takesOne 93 = .ok (.irem, 1) := by decide +kernel
theorem dX1_takesOne_94 : decode cX1_takesOne 94 = .ok (.iconst 1, 1) := by decide +kernel
theorem dX1_takesOne_95 : decode cX1_takesOne 95 = .ok (.if_icmp .ne 8, 3) := by decide +kernel
theorem dX1_takesOne_98 : decode cX1_takesOne 98 = .ok (.aload_n 2, 1) := by decide +kernel
theorem dX1_takesOne_99 : decode cX1_takesOne 99 = .ok (.iconst (-1), 1) := by decide +kernel
theorem dX1_takesOne_100 : decode cX1_takesOne 100 = .ok (.invokevirtual 68, 3) := by decide +kernel
theorem dX1_takesOne_103 : decode cX1_takesOne 103 = .ok (.iload 5, 2) := by decide +kernel
theorem dX1_takesOne_105 : decode cX1_takesOne 105 = .ok (.ireturn, 1) := by decide +kernel
theorem dX1_takesComparison_0 : decode cX1_takesComparison 0 = .ok (.aload_n 1, 1) := by decide +kernel
theorem dX1_takesComparison_1 : decode cX1_takesComparison 1 = .ok (.aload_n 0, 1) := by decide +kernel
theorem dX1_takesComparison_2 : decode cX1_takesComparison 2 = .ok (.getfield 15, 3) := by decide +kernel
theorem dX1_takesComparison_5 : decode cX1_takesComparison 5 = .ok (.invokevirtual 40, 3) := by decide +kernel
theorem dX1_takesComparison_8 : decode cX1_takesComparison 8 = .ok (.sipush 210, 3) := by decide +kernel
theorem dX1_takesComparison_11 : decode cX1_takesComparison 11 = .ok (.isub, 1) := by decide +kernel
theorem dX1_takesComparison_12 : decode cX1_takesComparison 12 = .ok (.istore_n 3, 1) := by decide +kernel
theorem dX1_takesComparison_13 : decode cX1_takesComparison 13 = .ok (.aload_n 0, 1) := by decide +kernel
theorem dX1_takesComparison_14 : decode cX1_takesComparison 14 = .ok (.getfield 9, 3) := by decide +kernel
theorem dX1_takesComparison_17 : decode cX1_takesComparison 17 = .ok (.ifCond .eq 25, 3) := by decide +kernel
theorem dX1_takesComparison_20 : decode cX1_takesComparison 20 = .ok (.iload_n 3, 1) := by decide +kernel
theorem dX1_takesComparison_21 : decode cX1_takesComparison 21 = .ok (.ifCond .eq 13, 3) := by decide +kernel
theorem dX1_takesComparison_24 : decode cX1_takesComparison 24 = .ok (.iload_n 3, 1) := by decide +kernel
theorem dX1_takesComparison_25 : decode cX1_takesComparison 25 = .ok (.iconst 1, 1) := by decide +kernel
theorem dX1_takesComparison_26 : decode cX1_takesComparison 26 = .ok (.if_icmp .eq 8, 3) := by decide +kernel
theorem dX1_takesComparison_29 : decode cX1_takesComparison 29 = .ok (.iload_n 3, 1) := by decide +kernel
theorem dX1_takesComparison_30 : decode cX1_takesComparison 30 = .ok (.iconst 2, 1) := by decide +kernel
theorem dX1_takesComparison_31 : decode cX1_takesComparison 31 = .ok (.if_icmp .ne 7, 3) := by decide +kernel
theorem dX1_takesComparison_34 : decode cX1_takesComparison 34 = .ok (.iconst 1, 1) := by decide +kernel
theorem dX1_takesComparison_35 : decode cX1_takesComparison 35 = .ok (.goto 31, 3) := by decide +kernel
theorem dX1_takesComparison_38 : decode cX1_takesComparison 38 = .ok (.iconst 0, 1) := by decide +kernel
theorem dX1_takesComparison_39 : decode cX1_takesComparison 39 = .ok (.goto 27, 3) := by decide +kernel
theorem dX1_takesComparison_42 : decode cX1_takesComparison 42 = .ok (.iload_n 3, 1) := by decide +kernel
theorem dX1_takesComparison_43 : decode cX1_takesComparison 43 = .ok (.iconst 3, 1) := by decide +kernel
theorem dX1_takesComparison_44 : decode cX1_takesComparison 44 = .ok (.if_icmp .eq 17, 3) := by decide +kernel
theorem dX1_takesComparison_47 : decode cX1_takesComparison 47 = .ok (.iload_n 3, 1) := by decide +kernel
theorem dX1_takesComparison_48 : decode cX1_takesComparison 48 = .ok (.ifCond .eq 13, 3) := by decide +kernel
theorem dX1_takesComparison_51 : decode cX1_takesComparison 51 = .ok (.iload_n 3, 1) := by decide +kernel
theorem dX1_takesComparison_52 : decode cX1_takesComparison 52 = .ok (.iconst 2, 1) := by decide +kernel
theorem dX1_takesComparison_53 : decode cX1_takesComparison 53 = .ok (.if_icmp .eq 8, 3) := by decide +kernel
theorem dX1_takesComparison_56 : decode cX1_takesComparison 56 = .ok (.iload_n 3, 1) := by decide +kernel
theorem dX1_takesComparison_57 : decode cX1_takesComparison 57 = .ok (.iconst 4, 1) := by decide +kernel
theorem dX1_takesComparison_58 : decode cX1_takesComparison 58 = .ok (.if_icmp .ne 7, 3) := by decide +kernel
theorem dX1_takesComparison_61 : decode cX1_takesComparison 61 = .ok (.iconst 1, 1) := by decide +kernel
theorem dX1_takesComparison_62 : decode cX1_takesComparison 62 = .ok (.goto 4, 3) := by decide +kernel
theorem dX1_takesComparison_65 : decode cX1_takesComparison 65 = .ok (.iconst 0, 1) := by decide +kernel
theorem dX1_takesComparison_66 : decode cX1_takesComparison 66 = .ok (.istore 4, 2) := by decide +kernel
theorem dX1_takesComparison_68 : decode cX1_takesComparison 68 = .ok (.iload 4, 2) := by decide +kernel
theorem dX1_takesComparison_70 : decode cX1_takesComparison 70 = .ok (.ifCond .ne 5, 3) := by decide +kernel
theorem dX1_takesComparison_73 : decode cX1_takesComparison 73 = .ok (.iconst 0, 1) := by decide +kernel
theorem dX1_takesComparison_74 : decode cX1_takesComparison 74 = .ok (.ireturn, 1) := by decide +kernel
theorem dX1_takesComparison_75 : decode cX1_takesComparison 75 = .ok (.aload_n 0, 1) := by decide +kernel
theorem dX1_takesComparison_76 : decode cX1_takesComparison 76 = .ok (.dup, 1) := by decide +kernel
theorem dX1_takesComparison_77 : decode cX1_takesComparison 77 = .ok (.getfield 15, 3) := by decide +kernel
theorem dX1_takesComparison_80 : decode cX1_takesComparison 80 = .ok (.iconst 1, 1) := by decide +kernel
theorem dX1_takesComparison_81 : decode cX1_takesComparison 81 = .ok (.iadd, 1) := by decide +kernel
theorem dX1_takesComparison_82 : decode cX1_takesComparison 82 = .ok (.putfield 15, 3) := by decide +kernel
theorem dX1_takesComparison_85 : decode cX1_takesComparison 85 = .ok (.aload_n 1, 1) := by decide +kernel
theorem dX1_takesComparison_86 : decode cX1_takesComparison 86 = .ok (.aload_n 0, 1) := by decide +kernel
theorem dX1_takesComparison_87 : decode cX1_takesComparison 87 = .ok (.getfield 15, 3) := by decide +kernel
theorem dX1_takesComparison_90 : decode cX1_takesComparison 90 = .ok (.invokevirtual 40, 3) := by decide +kernel
theorem dX1_takesComparison_93 : decode cX1_takesComparison 93 = .ok (.istore 5, 2) := by decide +kernel
theorem dX1_takesComparison_95 : decode cX1_takesComparison 95 = .ok (.aload_n 0, 1) := by decide +kernel
theorem dX1_takesComparison_96 : decode cX1_takesComparison 96 = .ok (.aload_n 1, 1) := by decide +kernel
theorem dX1_takesComparison_97 : decode cX1_takesComparison 97 = .ok (.bipush 60, 2) := by decide +kernel
theorem dX1_takesComparison_99 : decode cX1_takesComparison 99 = .ok (.invokevirtual 47, 3) := by decide +kernel
theorem dX1_takesComparison_102 : decode cX1_takesComparison 102 = .ok (.ifCond .ne 25, 3) := by decide +kernel
theorem dX1_takesComparison_105 : decode cX1_takesComparison 105 = .ok (.aload_n 0, 1) := by decide +kernel
theorem dX1_takesComparison_106 : decode cX1_takesComparison 106 = .ok (.aload_n 1, 1) := by decide +kernel
theorem dX1_takesComparison_107 : decode cX1_takesComparison 107 = .ok (.bipush 62, 2) := by decide +kernel
theorem dX1_takesComparison_109 : decode cX1_takesComparison 109 = .ok (.invokevirtual 47, 3) := by decide +kernel
theorem dX1_takesComparison_112 : decode cX1_takesComparison 112 = .ok (.ifCond .ne 15, 3) := by decide +kernel
theorem dX1_takesComparison_115 : decode cX1_takesComparison 115 = .ok (.aload_n 0, 1) := by decide +kernel
theorem dX1_takesComparison_116 : decode cX1_takesComparison 116 = .ok (.aload_n 1, 1) := by decide +kernel
theorem dX1_takesComparison_117 : decode cX1_takesComparison 117 = .ok (.bipush 61, 2) := by decide +kernel
theorem dX1_takesComparison_119 : decode cX1_takesComparison 119 = .ok (.invokevirtual 47, 3) := by decide +kernel
theorem dX1_takesComparison_122 : decode cX1_takesComparison 122 = .ok (.ifCond .ne 5, 3) := by decide +kernel
theorem dX1_takesComparison_125 : decode cX1_takesComparison 125 = .ok (.iconst 0, 1) := by decide +kernel
theorem dX1_takesComparison_126 : decode cX1_takesComparison 126 = .ok (.ireturn, 1) := by decide +kernel
theorem dX1_takesComparison_127 : decode cX1_takesComparison 127 = .ok (.aload_n 1, 1) := by decide +kernel
theorem dX1_takesComparison_128 : decode cX1_takesComparison 128 = .ok (.aload_n 0, 1) := by decide +kernel
theorem dX1_takesComparison_129 : decode cX1_takesComparison 129 = .ok (.getfield 15, 3) := by decide +kernel
theorem dX1_takesComparison_132 : decode cX1_takesComparison 132 = .ok (.invokevirtual 78, 3) := by decide +kernel
theorem dX1_takesComparison_135 : decode cX1_takesComparison 135 = .ok (.iconst 4, 1) := by decide +kernel
theorem dX1_takesComparison_136 : decode cX1_takesComparison 136 = .ok (.if_icmp .le 7, 3) := by decide +kernel
theorem dX1_takesComparison_139 : decode cX1_takesComparison 139 = .ok (.iconst (-1), 1) := by decide +kernel
theorem dX1_takesComparison_140 : decode cX1_takesComparison 140 = .ok (.goto 11, 3) := by decide +kernel
theorem dX1_takesComparison_143 : decode cX1_takesComparison 143 = .ok (.aload_n 0, 1) := by decide +kernel
theorem dX1_takesComparison_144 : decode cX1_takesComparison 144 = .ok (.aload_n 1, 1) := by decide +kernel
theorem dX1_takesComparison_145 : decode cX1_takesComparison 145 = .ok (.sipush 9999, 3) := by decide +kernel
theorem dX1_takesComparison_148 : decode cX1_takesComparison 148 = .ok (.invokevirtual 43, 3) := by decide +kernel
theorem dX1_takesComparison_151 : decode cX1_takesComparison 151 = .ok (.istore 6, 2) := by decide +kernel
theorem dX1_takesComparison_153 : decode cX1_takesComparison 153 = .ok (.iload 6, 2) := by decide +kernel
theorem dX1_takesComparison_155 : decode cX1_takesComparison 155 = .ok (.iconst (-1), 1) := by decide +kernel
theorem dX1_takesComparison_156 : decode cX1_takesComparison 156 = .ok (.if_icmp .ne 5, 3) := by decide +kernel
theorem dX1_takesComparison_159 : decode cX1_takesComparison 159 = .ok (.iconst 0, 1) := by decide +kernel
theorem dX1_takesComparison_160 : decode cX1_takesComparison 160 = .ok (.ireturn, 1) := by decide +kernel
theorem dX1_takesComparison_161 : decode cX1_takesComparison 161 = .ok (.aload_n 2, 1) := by decide +kernel
theorem dX1_takesComparison_162 : decode cX1_takesComparison 162 = .ok (.iload_n 3, 1) := by decide +kernel
theorem dX1_takesComparison_163 : decode cX1_takesComparison 163 = .ok (.iload 5, 2) := by decide +kernel
theorem dX1_takesComparison_165 : decode cX1_takesComparison 165 = .ok (.iload 6, 2) := by decide +kernel
theorem dX1_takesComparison_167 : decode cX1_takesComparison 167 = .ok (.invokestatic 81, 3) := by decide +kernel
theorem dX1_takesComparison_170 : decode cX1_takesComparison 170 = .ok (.invokevirtual 68, 3) := by decide +kernel
theorem dX1_takesComparison_173 : decode cX1_takesComparison 173 = .ok (.iconst 1, 1) := by decide +kernel
theorem dX1_takesComparison_174 : decode cX1_takesComparison 174 = .ok (.ireturn, 1) := by decide +kernel
theorem dX1_takes_0 : decode cX1_takes 0 = .ok (.aload_n 0, 1) := by decide +kernel
theorem dX1_takes_1 : decode cX1_takes 1 = .ok (.getfield 15, 3) := by decide +kernel
theorem dX1_takes_4 : decode cX1_takes 4 = .ok (.aload_n 1, 1) := by decide +kernel
theorem dX1_takes_5 : decode cX1_takes 5 = .ok (.getfield 24, 3) := by decide +kernel
theorem dX1_takes_8 : decode cX1_takes 8 = .ok (.if_icmp .ge 20, 3) := by decide +kernel
theorem dX1_takes_11 : decode cX1_takes 11 = .ok (.aload_n 1, 1) := by decide +kernel
theorem dX1_takes_12 : decode cX1_takes 12 = .ok (.getfield 85, 3) := by decide +kernel
theorem dX1_takes_15 : decode cX1_takes 15 = .ok (.aload_n 0, 1) := by decide +kernel
theorem dX1_takes_16 : decode cX1_takes 16 = .ok (.getfield 15, 3) := by decide +kernel
theorem dX1_takes_19 : decode cX1_takes 19 = .ok (.iaload, 1) := by decide +kernel
theorem dX1_takes_20 : decode cX1_takes 20 = .ok (.iload_n 2, 1) := by decide +kernel
theorem dX1_takes_21 : decode cX1_takes 21 = .ok (.if_icmp .ne 7, 3) := by decide +kernel
theorem dX1_takes_24 : decode cX1_takes 24 = .ok (.iconst 1, 1) := by decide +kernel
theorem dX1_takes_25 : decode cX1_takes 25 = .ok (.goto 4, 3) := by decide +kernel
theorem dX1_takes_28 : decode cX1_takes 28 = .ok (.iconst 0, 1) := by decide +kernel
theorem dX1_takes_29 : decode cX1_takes 29 = .ok (.istore_n 3, 1) := by decide +kernel
theorem dX1_takes_30 : decode cX1_takes 30 = .ok (.aload_n 0, 1) := by decide +kernel
theorem dX1_takes_31 : decode cX1_takes 31 = .ok (.dup, 1) := by decide +kernel
theorem dX1_takes_32 : decode cX1_takes 32 = .ok (.getfield 15, 3) := by decide +kernel
theorem dX1_takes_35 : decode cX1_takes 35 = .ok (.iload_n 3, 1) := by decide +kernel
theorem dX1_takes_36 : decode cX1_takes 36 = .ok (.ifCond .eq 7, 3) := by decide +kernel
theorem dX1_takes_39 : decode cX1_takes 39 = .ok (.iconst 1, 1) := by decide +kernel
theorem dX1_takes_40 : decode cX1_takes 40 = .ok (.goto 4, 3) := by decide +kernel
theorem dX1_takes_43 : decode cX1_takes 43 = .ok (.iconst 0, 1) := by decide +kernel
theorem dX1_takes_44 : decode cX1_takes 44 = .ok (.iadd, 1) := by decide +kernel
theorem dX1_takes_45 : decode cX1_takes 45 = .ok (.putfield 15, 3) := by decide +kernel
theorem dX1_takes_48 : decode cX1_takes 48 = .ok (.iload_n 3, 1) := by decide +kernel
theorem dX1_takes_49 : decode cX1_takes 49 = .ok (.ireturn, 1) := by decide +kernel
theorem dX1_numberUpTo_0 : decode cX1_numberUpTo 0 = .ok (.aload_n 0, 1) := by decide +kernel
theorem dX1_numberUpTo_1 : decode cX1_numberUpTo 1 = .ok (.getfield 15, 3) := by decide +kernel
theorem dX1_numberUpTo_4 : decode cX1_numberUpTo 4 = .ok (.aload_n 1, 1) := by decide +kernel
theorem dX1_numberUpTo_5 : decode cX1_numberUpTo 5 = .ok (.getfield 24, 3) := by decide +kernel
theorem dX1_numberUpTo_8 : decode cX1_numberUpTo 8 = .ok (.if_icmp .ge 29, 3) := by decide +kernel
theorem dX1_numberUpTo_11 : decode cX1_numberUpTo 11 = .ok (.aload_n 1, 1) := by decide +kernel
theorem dX1_numberUpTo_12 : decode cX1_numberUpTo 12 = .ok (.getfield 85, 3) := by decide +kernel
theorem dX1_numberUpTo_15 : decode cX1_numberUpTo 15 = .ok (.aload_n 0, 1) := by decide +kernel
theorem dX1_numberUpTo_16 : decode cX1_numberUpTo 16 = .ok (.getfield 15, 3) := by decide +kernel
theorem dX1_numberUpTo_19 : decode cX1_numberUpTo 19 = .ok (.iaload, 1) := by decide +kernel
theorem dX1_numberUpTo_20 : decode cX1_numberUpTo 20 = .ok (.iconst 2, 1) := by decide +kernel
theorem dX1_numberUpTo_21 : decode cX1_numberUpTo 21 = .ok (.if_icmp .ne 16, 3) := by decide +kernel
theorem dX1_numberUpTo_24 : decode cX1_numberUpTo 24 = .ok (.aload_n 1, 1) := by decide +kernel
theorem dX1_numberUpTo_25 : decode cX1_numberUpTo 25 = .ok (.getfield 89, 3) := by decide +kernel
theorem dX1_numberUpTo_28 : decode cX1_numberUpTo 28 = .ok (.aload_n 0, 1) := by decide +kernel
theorem dX1_numberUpTo_29 : decode cX1_numberUpTo 29 = .ok (.getfield 15, 3) := by decide +kernel
theorem dX1_numberUpTo_32 : decode cX1_numberUpTo 32 = .ok (.iaload, 1) := by decide +kernel
theorem dX1_numberUpTo_33 : decode cX1_numberUpTo 33 = .ok (.iload_n 2, 1) := by decide +kernel
theorem dX1_numberUpTo_34 : decode cX1_numberUpTo 34 = .ok (.if_icmp .le 5, 3) := by decide +kernel
theorem dX1_numberUpTo_37 : decode cX1_numberUpTo 37 = .ok (.iconst (-1), 1) := by decide +kernel
theorem dX1_numberUpTo_38 : decode cX1_numberUpTo 38 = .ok (.ireturn, 1) := by decide +kernel
theorem dX1_numberUpTo_39 : decode cX1_numberUpTo 39 = .ok (.aload_n 0, 1) := by decide +kernel
theorem dX1_numberUpTo_40 : decode cX1_numberUpTo 40 = .ok (.dup, 1) := by decide +kernel
theorem dX1_numberUpTo_41 : decode cX1_numberUpTo 41 = .ok (.getfield 15, 3) := by decide +kernel
theorem dX1_numberUpTo_44 : decode cX1_numberUpTo 44 = .ok (.iconst 1, 1) := by decide +kernel
theorem dX1_numberUpTo_45 : decode cX1_numberUpTo 45 = .ok (.iadd, 1) := by decide +kernel
theorem dX1_numberUpTo_46 : decode cX1_numberUpTo 46 = .ok (.putfield 15, 3) := by decide +kernel
theorem dX1_numberUpTo_49 : decode cX1_numberUpTo 49 = .ok (.aload_n 1, 1) := by decide +kernel
theorem dX1_numberUpTo_50 : decode cX1_numberUpTo 50 = .ok (.getfield 89, 3) := by decide +kernel
theorem dX1_numberUpTo_53 : decode cX1_numberUpTo 53 = .ok (.aload_n 0, 1) := by decide +kernel
theorem dX1_numberUpTo_54 : decode cX1_numberUpTo 54 = .ok (.getfield 15, 3) := by decide +kernel
theorem dX1_numberUpTo_57 : decode cX1_numberUpTo 57 = .ok (.iconst 1, 1) := by decide +kernel
theorem dX1_numberUpTo_58 : decode cX1_numberUpTo 58 = .ok (.isub, 1) := by decide +kernel
theorem dX1_numberUpTo_59 : decode cX1_numberUpTo 59 = .ok (.iaload, 1) := by decide +kernel
theorem dX1_numberUpTo_60 : decode cX1_numberUpTo 60 = .ok (.ireturn, 1) := by decide +kernel
theorem dX2_init_0 : decode cX2_init 0 = .ok (.aload_n 0, 1) := by decide +kernel
theorem dX2_init_1 : decode cX2_init 1 = .ok (.invokespecial 1, 3) := by decide +kernel
theorem dX2_init_4 : decode cX2_init 4 = .ok (.aload_n 0, 1) := by decide +kernel
theorem dX2_init_5 : decode cX2_init 5 = .ok (.aload_n 1, 1) := by decide +kernel
theorem dX2_init_6 : decode cX2_init 6 = .ok (.getfield 7, 3) := by decide +kernel
theorem dX2_init_9 : decode cX2_init 9 = .ok (.putfield 13, 3) := by decide +kernel
theorem dX2_init_12 : decode cX2_init 12 = .ok (.aload_n 0, 1) := by decide +kernel
theorem dX2_init_13 : decode cX2_init 13 = .ok (.aload_n 1, 1) := by decide +kernel
theorem dX2_init_14 : decode cX2_init 14 = .ok (.getfield 16, 3) := by decide +kernel
theorem dX2_init_17 : decode cX2_init 17 = .ok (.putfield 19, 3) := by decide +kernel
theorem dX2_init_20 : decode cX2_init 20 = .ok (.aload_n 0, 1) := by decide +kernel
theorem dX2_init_21 : decode cX2_init 21 = .ok (.aload_n 1, 1) := by decide +kernel
theorem dX2_init_22 : decode cX2_init 22 = .ok (.getfield 20, 3) := by decide +kernel
theorem dX2_init_25 : decode cX2_init 25 = .ok (.putfield 23, 3) := by decide +kernel
theorem dX2_init_28 : decode cX2_init 28 = .ok (.aload_n 0, 1) := by decide +kernel
theorem dX2_init_29 : decode cX2_init 29 = .ok (.aload_n 1, 1) := by decide +kernel
theorem dX2_init_30 : decode cX2_init 30 = .ok (.getfield 24, 3) := by decide +kernel
theorem dX2_init_33 : decode cX2_init 33 = .ok (.putfield 27, 3) := by decide +kernel
theorem dX2_init_36 : decode cX2_init 36 = .ok (.return_, 1) := by decide +kernel
theorem dX3_init_0 : decode cX3_init 0 = .ok (.aload_n 0, 1) := by decide +kernel
theorem dX3_init_1 : decode cX3_init 1 = .ok (.invokespecial 3, 3) := by decide +kernel
theorem dX3_init_4 : decode cX3_init 4 = .ok (.aload_n 0, 1) := by decide +kernel
theorem dX3_init_5 : decode cX3_init 5 = .ok (.sipush 289, 3) := by decide +kernel
theorem dX3_init_8 : decode cX3_init 8 = .ok (.newarray .int, 2) := by decide +kernel
theorem dX3_init_10 : decode cX3_init 10 = .ok (.putfield 11, 3) := by decide +kernel
theorem dX3_init_13 : decode cX3_init 13 = .ok (.return_, 1) := by decide +kernel
theorem dX3_solve_0 : decode cX3_solve 0 = .ok (.iconst 0, 1) := by decide +kernel
theorem dX3_solve_1 : decode cX3_solve 1 = .ok (.istore_n 3, 1) := by decide +kernel
theorem dX3_solve_2 : decode cX3_solve 2 = .ok (.iload_n 3, 1) := by decide +kernel
theorem dX3_solve_3 : decode cX3_solve 3 = .ok (.aload_n 0, 1) := by decide +kernel
theorem dX3_solve_4 : decode cX3_solve 4 = .ok (.getfield 11, 3) := by decide +kernel
theorem dX3_solve_7 : decode cX3_solve 7 = .ok (.arraylength, 1) := by decide +kernel
theorem dX3_solve_8 : decode cX3_solve 8 = .ok (.if_icmp .ge 17, 3) := by decide +kernel
theorem dX3_solve_11 : decode cX3_solve 11 = .ok (.aload_n 0, 1) := by decide +kernel
theorem dX3_solve_12 : decode cX3_solve 12 = .ok (.getfield 11, 3) := by decide +kernel
theorem dX3_solve_15 : decode cX3_solve 15 = .ok (.iload_n 3, 1) := by decide +kernel
theorem dX3_solve_16 : decode cX3_solve 16 = .ok (.ldc 15, 2) := by decide +kernel
theorem dX3_solve_18 : decode cX3_solve 18 = .ok (.iastore, 1) := by decide +kernel
theorem dX3_solve_19 : decode cX3_solve 19 = .ok (.iinc 3 1, 3) := by decide +kernel
theorem dX3_solve_22 : decode cX3_solve 22 = .ok (.goto (-20), 3) := by decide +kernel
theorem dX3_solve_25 : decode cX3_solve 25 = .ok (.iconst 0, 1) := by decide +kernel
theorem dX3_solve_26 : decode cX3_solve 26 = .ok (.istore_n 3, 1) := by decide +kernel
theorem dX3_solve_27 : decode cX3_solve 27 = .ok (.iload_n 3, 1) := by decide +kernel
theorem dX3_solve_28 : decode cX3_solve 28 = .ok (.bipush 17, 2) := by decide +kernel
theorem dX3_solve_30 : decode cX3_solve 30 = .ok (.if_icmp .ge 21, 3) := by decide +kernel
theorem dX3_solve_33 : decode cX3_solve 33 = .ok (.aload_n 0, 1) := by decide +kernel
theorem dX3_solve_34 : decode cX3_solve 34 = .ok (.getfield 11, 3) := by decide +kernel
theorem dX3_solve_37 : decode cX3_solve 37 = .ok (.iload_n 3, 1) := by decide +kernel
theorem dX3_solve_38 : decode cX3_solve 38 = .ok (.bipush 17, 2) := by decide +kernel
theorem dX3_solve_40 : decode cX3_solve 40 = .ok (.imul, 1) := by decide +kernel
theorem dX3_solve_41 : decode cX3_solve 41 = .ok (.iload_n 3, 1) := by decide +kernel
theorem dX3_solve_42 : decode cX3_solve 42 = .ok (.iadd, 1) := by decide +kernel
theorem dX3_solve_43 : decode cX3_solve 43 = .ok (.iconst 0, 1) := by decide +kernel
theorem dX3_solve_44 : decode cX3_solve 44 = .ok (.iastore, 1) := by decide +kernel
theorem dX3_solve_45 : decode cX3_solve 45 = .ok (.iinc 3 1, 3) := by decide +kernel
theorem dX3_solve_48 : decode cX3_solve 48 = .ok (.goto (-21), 3) := by decide +kernel
theorem dX3_solve_51 : decode cX3_solve 51 = .ok (.iconst 0, 1) := by decide +kernel
theorem dX3_solve_52 : decode cX3_solve 52 = .ok (.istore_n 3, 1) := by decide +kernel
theorem dX3_solve_53 : decode cX3_solve 53 = .ok (.iload_n 3, 1) := by decide +kernel
theorem dX3_solve_54 : decode cX3_solve 54 = .ok (.aload_n 1, 1) := by decide +kernel
theorem dX3_solve_55 : decode cX3_solve 55 = .ok (.getfield 16, 3) := by decide +kernel
theorem dX3_solve_58 : decode cX3_solve 58 = .ok (.if_icmp .ge 70, 3) := by decide +kernel
theorem dX3_solve_61 : decode cX3_solve 61 = .ok (.aload_n 1, 1) := by decide +kernel
theorem dX3_solve_62 : decode cX3_solve 62 = .ok (.iload_n 3, 1) := by decide +kernel
theorem dX3_solve_63 : decode cX3_solve 63 = .ok (.invokevirtual 22, 3) := by decide +kernel
theorem dX3_solve_66 : decode cX3_solve 66 = .ok (.astore 4, 2) := by decide +kernel
theorem dX3_solve_68 : decode cX3_solve 68 = .ok (.iconst 0, 1) := by decide +kernel
theorem dX3_solve_69 : decode cX3_solve 69 = .ok (.istore 5, 2) := by decide +kernel
theorem dX3_solve_71 : decode cX3_solve 71 = .ok (.iload 5, 2) := by decide +kernel
theorem dX3_solve_73 : decode cX3_solve 73 = .ok (.aload_n 1, 1) := by decide +kernel
theorem dX3_solve_74 : decode cX3_solve 74 = .ok (.getfield 26, 3) := by decide +kernel
theorem dX3_solve_77 : decode cX3_solve 77 = .ok (.if_icmp .ge 45, 3) := by decide +kernel
theorem dX3_solve_80 : decode cX3_solve 80 = .ok (.aload 4, 2) := by decide +kernel
theorem dX3_solve_82 : decode cX3_solve 82 = .ok (.ifnull 40, 3) := by decide +kernel
theorem dX3_solve_85 : decode cX3_solve 85 = .ok (.aload_n 0, 1) := by decide +kernel
theorem dX3_solve_86 : decode cX3_solve 86 = .ok (.aload 4, 2) := by decide +kernel
theorem dX3_solve_88 : decode cX3_solve 88 = .ok (.aload_n 1, 1) := by decide +kernel
theorem dX3_solve_89 : decode cX3_solve 89 = .ok (.aload 4, 2) := by decide +kernel
theorem dX3_solve_91 : decode cX3_solve 91 = .ok (.iload 5, 2) := by decide +kernel
theorem dX3_solve_93 : decode cX3_solve 93 = .ok (.invokevirtual 29, 3) := by decide +kernel
theorem dX3_solve_96 : decode cX3_solve 96 = .ok (.aload_n 1, 1) := by decide +kernel
theorem dX3_solve_97 : decode cX3_solve 97 = .ok (.invokevirtual 33, 3) := by decide +kernel
theorem dX3_solve_100 : decode cX3_solve 100 = .ok (.aload_n 0, 1) := by decide +kernel
theorem dX3_solve_101 : decode cX3_solve 101 = .ok (.aload 4, 2) := by decide +kernel
theorem dX3_solve_103 : decode cX3_solve 103 = .ok (.aload_n 1, 1) := by decide +kernel
theorem dX3_solve_104 : decode cX3_solve 104 = .ok (.aload 4, 2) := by decide +kernel
theorem dX3_solve_106 : decode cX3_solve 106 = .ok (.iload 5, 2) := by decide +kernel
theorem dX3_solve_108 : decode cX3_solve 108 = .ok (.invokevirtual 37, 3) := by decide +kernel
theorem dX3_solve_111 : decode cX3_solve 111 = .ok (.aload_n 1, 1) := by decide +kernel
theorem dX3_solve_112 : decode cX3_solve 112 = .ok (.aload_n 2, 1) := by decide +kernel
theorem dX3_solve_113 : decode cX3_solve 113 = .ok (.invokevirtual 40, 3) := by decide +kernel
theorem dX3_solve_116 : decode cX3_solve 116 = .ok (.iinc 5 1, 3) := by decide +kernel
theorem dX3_solve_119 : decode cX3_solve 119 = .ok (.goto (-48), 3) := by decide +kernel
theorem dX3_solve_122 : decode cX3_solve 122 = .ok (.iinc 3 1, 3) := by decide +kernel
theorem dX3_solve_125 : decode cX3_solve 125 = .ok (.goto (-72), 3) := by decide +kernel
theorem dX3_solve_128 : decode cX3_solve 128 = .ok (.aload_n 0, 1) := by decide +kernel
theorem dX3_solve_129 : decode cX3_solve 129 = .ok (.invokevirtual 44, 3) := by decide +kernel
theorem dX3_solve_132 : decode cX3_solve 132 = .ok (.ireturn, 1) := by decide +kernel
theorem dX3_hear_0 : decode cX3_hear 0 = .ok (.aload_n 2, 1) := by decide +kernel
theorem dX3_hear_1 : decode cX3_hear 1 = .ok (.ifnull 50, 3) := by decide +kernel
theorem dX3_hear_4 : decode cX3_hear 4 = .ok (.aload_n 3, 1) := by decide +kernel
theorem dX3_hear_5 : decode cX3_hear 5 = .ok (.aload_n 2, 1) := by decide +kernel
theorem dX3_hear_6 : decode cX3_hear 6 = .ok (.invokevirtual 48, 3) := by decide +kernel
theorem dX3_hear_9 : decode cX3_hear 9 = .ok (.invokevirtual 54, 3) := by decide +kernel
theorem dX3_hear_12 : decode cX3_hear 12 = .ok (.ifCond .eq 39, 3) := by decide +kernel
theorem dX3_hear_15 : decode cX3_hear 15 = .ok (.aload_n 2, 1) := by decide +kernel
theorem dX3_hear_16 : decode cX3_hear 16 = .ok (.invokevirtual 48, 3) := by decide +kernel
theorem dX3_hear_19 : decode cX3_hear 19 = .ok (.aload_n 1, 1) := by decide +kernel
theorem dX3_hear_20 : decode cX3_hear 20 = .ok (.invokevirtual 48, 3) := by decide +kernel
theorem dX3_hear_23 : decode cX3_hear 23 = .ok (.if_icmp .eq 28, 3) := by decide +kernel
theorem dX3_hear_26 : decode cX3_hear 26 = .ok (.aload_n 0, 1) := by decide +kernel
theorem dX3_hear_27 : decode cX3_hear 27 = .ok (.aload_n 1, 1) := by decide +kernel
theorem dX3_hear_28 : decode cX3_hear 28 = .ok (.invokevirtual 48, 3) := by decide +kernel
theorem dX3_hear_31 : decode cX3_hear 31 = .ok (.aload_n 2, 1) := by decide +kernel
theorem dX3_hear_32 : decode cX3_hear 32 = .ok (.invokevirtual 48, 3) := by decide +kernel
theorem dX3_hear_35 : decode cX3_hear 35 = .ok (.aload_n 1, 1) := by decide +kernel
theorem dX3_hear_36 : decode cX3_hear 36 = .ok (.getfield 58, 3) := by decide +kernel
theorem dX3_hear_39 : decode cX3_hear 39 = .ok (.aload_n 2, 1) := by decide +kernel
theorem dX3_hear_40 : decode cX3_hear 40 = .ok (.getfield 58, 3) := by decide +kernel
theorem dX3_hear_43 : decode cX3_hear 43 = .ok (.isub, 1) := by decide +kernel
theorem dX3_hear_44 : decode cX3_hear 44 = .ok (.aload_n 3, 1) := by decide +kernel
theorem dX3_hear_45 : decode cX3_hear 45 = .ok (.getfield 61, 3) := by decide +kernel
theorem dX3_hear_48 : decode cX3_hear 48 = .ok (.invokevirtual 64, 3) := by decide +kernel
theorem dX3_hear_51 : decode cX3_hear 51 = .ok (.return_, 1) := by decide +kernel
theorem dX3_hearCup_0 : decode cX3_hearCup 0 = .ok (.aload_n 2, 1) := by decide +kernel
theorem dX3_hearCup_1 : decode cX3_hearCup 1 = .ok (.ifnull 56, 3) := by decide +kernel
theorem dX3_hearCup_4 : decode cX3_hearCup 4 = .ok (.aload 4, 2) := by decide +kernel
theorem dX3_hearCup_6 : decode cX3_hearCup 6 = .ok (.aload 4, 2) := by decide +kernel
theorem dX3_hearCup_8 : decode cX3_hearCup 8 = .ok (.aload_n 1, 1) := by decide +kernel
theorem dX3_hearCup_9 : decode cX3_hearCup 9 = .ok (.invokevirtual 68, 3) := by decide +kernel
theorem dX3_hearCup_12 : decode cX3_hearCup 12 = .ok (.invokevirtual 71, 3) := by decide +kernel
theorem dX3_hearCup_15 : decode cX3_hearCup 15 = .ok (.aload_n 1, 1) := by decide +kernel
theorem dX3_hearCup_16 : decode cX3_hearCup 16 = .ok (.getfield 77, 3) := by decide +kernel
theorem dX3_hearCup_19 : decode cX3_hearCup 19 = .ok (.aload_n 2, 1) := by decide +kernel
theorem dX3_hearCup_20 : decode cX3_hearCup 20 = .ok (.getfield 58, 3) := by decide +kernel
theorem dX3_hearCup_23 : decode cX3_hearCup 23 = .ok (.aload_n 1, 1) := by decide +kernel
theorem dX3_hearCup_24 : decode cX3_hearCup 24 = .ok (.invokevirtual 80, 3) := by decide +kernel
theorem dX3_hearCup_27 : decode cX3_hearCup 27 = .ok (.aload_n 1, 1) := by decide +kernel
theorem dX3_hearCup_28 : decode cX3_hearCup 28 = .ok (.invokevirtual 68, 3) := by decide +kernel
theorem dX3_hearCup_31 : decode cX3_hearCup 31 = .ok (.invokevirtual 83, 3) := by decide +kernel
theorem dX3_hearCup_34 : decode cX3_hearCup 34 = .ok (.istore 5, 2) := by decide +kernel
theorem dX3_hearCup_36 : decode cX3_hearCup 36 = .ok (.aload_n 0, 1) := by decide +kernel
theorem dX3_hearCup_37 : decode cX3_hearCup 37 = .ok (.aload_n 1, 1) := by decide +kernel
theorem dX3_hearCup_38 : decode cX3_hearCup 38 = .ok (.invokevirtual 48, 3) := by decide +kernel
theorem dX3_hearCup_41 : decode cX3_hearCup 41 = .ok (.bipush 16, 2) := by decide +kernel
theorem dX3_hearCup_43 : decode cX3_hearCup 43 = .ok (.aload_n 1, 1) := by decide +kernel
theorem dX3_hearCup_44 : decode cX3_hearCup 44 = .ok (.getfield 58, 3) := by decide +kernel
theorem dX3_hearCup_47 : decode cX3_hearCup 47 = .ok (.iload 5, 2) := by decide +kernel
theorem dX3_hearCup_49 : decode cX3_hearCup 49 = .ok (.isub, 1) := by decide +kernel
theorem dX3_hearCup_50 : decode cX3_hearCup 50 = .ok (.aload_n 3, 1) := by decide +kernel
theorem dX3_hearCup_51 : decode cX3_hearCup 51 = .ok (.getfield 61, 3) := by decide +kernel
theorem dX3_hearCup_54 : decode cX3_hearCup 54 = .ok (.invokevirtual 64, 3) := by decide +kernel
theorem dX3_hearCup_57 : decode cX3_hearCup 57 = .ok (.return_, 1) := by decide +kernel
theorem dX3_hold_0 : decode cX3_hold 0 = .ok (.iload_n 1, 1) := by decide +kernel
theorem dX3_hold_1 : decode cX3_hold 1 = .ok (.bipush 16, 2) := by decide +kernel
theorem dX3_hold_3 : decode cX3_hold 3 = .ok (.invokestatic 87, 3) := by decide +kernel
theorem dX3_hold_6 : decode cX3_hold 6 = .ok (.ifCond .eq 70, 3) := by decide +kernel
theorem dX3_hold_9 : decode cX3_hold 9 = .ok (.iload_n 2, 1) := by decide +kernel
theorem dX3_hold_10 : decode cX3_hold 10 = .ok (.bipush 16, 2) := by decide +kernel
theorem dX3_hold_12 : decode cX3_hold 12 = .ok (.invokestatic 87, 3) := by decide +kernel
theorem dX3_hold_15 : decode cX3_hold 15 = .ok (.ifCond .eq 61, 3) := by decide +kernel
theorem dX3_hold_18 : decode cX3_hold 18 = .ok (.iload_n 1, 1) := by decide +kernel
theorem dX3_hold_19 : decode cX3_hold 19 = .ok (.bipush 17, 2) := by decide +kernel
theorem dX3_hold_21 : decode cX3_hold 21 = .ok (.imul, 1) := by decide +kernel
theorem dX3_hold_22 : decode cX3_hold 22 = .ok (.iload_n 2, 1) := by decide +kernel
theorem dX3_hold_23 : decode cX3_hold 23 = .ok (.iadd, 1) := by decide +kernel
theorem dX3_hold_24 : decode cX3_hold 24 = .ok (.istore 5, 2) := by decide +kernel
theorem dX3_hold_26 : decode cX3_hold 26 = .ok (.iload_n 2, 1) := by decide +kernel
theorem dX3_hold_27 : decode cX3_hold 27 = .ok (.bipush 17, 2) := by decide +kernel
theorem dX3_hold_29 : decode cX3_hold 29 = .ok (.imul, 1) := by decide +kernel
theorem dX3_hold_30 : decode cX3_hold 30 = .ok (.iload_n 1, 1) := by decide +kernel
theorem dX3_hold_31 : decode cX3_hold 31 = .ok (.iadd, 1) := by decide +kernel
theorem dX3_hold_32 : decode cX3_hold 32 = .ok (.istore 6, 2) := by decide +kernel
theorem dX3_hold_34 : decode cX3_hold 34 = .ok (.aload_n 0, 1) := by decide +kernel
theorem dX3_hold_35 : decode cX3_hold 35 = .ok (.getfield 11, 3) := by decide +kernel
theorem dX3_hold_38 : decode cX3_hold 38 = .ok (.iload 5, 2) := by decide +kernel
theorem dX3_hold_40 : decode cX3_hold 40 = .ok (.aload_n 0, 1) := by decide +kernel
theorem dX3_hold_41 : decode cX3_hold 41 = .ok (.getfield 11, 3) := by decide +kernel
theorem dX3_hold_44 : decode cX3_hold 44 = .ok (.iload 5, 2) := by decide +kernel
theorem dX3_hold_46 : decode cX3_hold 46 = .ok (.iaload, 1) := by decide +kernel
theorem dX3_hold_47 : decode cX3_hold 47 = .ok (.iload_n 3, 1) := by decide +kernel
theorem dX3_hold_48 : decode cX3_hold 48 = .ok (.iload 4, 2) := by decide +kernel
theorem dX3_hold_50 : decode cX3_hold 50 = .ok (.iadd, 1) := by decide +kernel
theorem dX3_hold_51 : decode cX3_hold 51 = .ok (.invokestatic 91, 3) := by decide +kernel
theorem dX3_hold_54 : decode cX3_hold 54 = .ok (.iastore, 1) := by decide +kernel
theorem dX3_hold_55 : decode cX3_hold 55 = .ok (.aload_n 0, 1) := by decide +kernel
theorem dX3_hold_56 : decode cX3_hold 56 = .ok (.getfield 11, 3) := by decide +kernel
theorem dX3_hold_59 : decode cX3_hold 59 = .ok (.iload 6, 2) := by decide +kernel
theorem dX3_hold_61 : decode cX3_hold 61 = .ok (.aload_n 0, 1) := by decide +kernel
theorem dX3_hold_62 : decode cX3_hold 62 = .ok (.getfield 11, 3) := by decide +kernel
theorem dX3_hold_65 : decode cX3_hold 65 = .ok (.iload 6, 2) := by decide +kernel
theorem dX3_hold_67 : decode cX3_hold 67 = .ok (.iaload, 1) := by decide +kernel
theorem dX3_hold_68 : decode cX3_hold 68 = .ok (.iload 4, 2) := by decide +kernel
theorem dX3_hold_70 : decode cX3_hold 70 = .ok (.iload_n 3, 1) := by decide +kernel
theorem dX3_hold_71 : decode cX3_hold 71 = .ok (.isub, 1) := by decide +kernel
theorem dX3_hold_72 : decode cX3_hold 72 = .ok (.invokestatic 91, 3) := by decide +kernel
theorem dX3_hold_75 : decode cX3_hold 75 = .ok (.iastore, 1) := by decide +kernel
theorem dX3_hold_76 : decode cX3_hold 76 = .ok (.return_, 1) := by decide +kernel
theorem dX3_closes_0 : decode cX3_closes 0 = .ok (.iconst 0, 1) := by decide +kernel
theorem dX3_closes_1 : decode cX3_closes 1 = .ok (.istore_n 1, 1) := by decide +kernel
theorem dX3_closes_2 : decode cX3_closes 2 = .ok (.iload_n 1, 1) := by decide +kernel
theorem dX3_closes_3 : decode cX3_closes 3 = .ok (.bipush 17, 2) := by decide +kernel
theorem dX3_closes_5 : decode cX3_closes 5 = .ok (.if_icmp .ge 74, 3) := by decide +kernel
theorem dX3_closes_8 : decode cX3_closes 8 = .ok (.iconst 0, 1) := by decide +kernel
theorem dX3_closes_9 : decode cX3_closes 9 = .ok (.istore_n 2, 1) := by decide +kernel
theorem dX3_closes_10 : decode cX3_closes 10 = .ok (.iload_n 2, 1) := by decide +kernel
theorem dX3_closes_11 : decode cX3_closes 11 = .ok (.bipush 17, 2) := by decide +kernel
theorem dX3_closes_13 : decode cX3_closes 13 = .ok (.if_icmp .ge 30, 3) := by decide +kernel
theorem dX3_closes_16 : decode cX3_closes 16 = .ok (.iconst 0, 1) := by decide +kernel
theorem dX3_closes_17 : decode cX3_closes 17 = .ok (.istore_n 3, 1) := by decide +kernel
theorem dX3_closes_18 : decode cX3_closes 18 = .ok (.iload_n 3, 1) := by decide +kernel
theorem dX3_closes_19 : decode cX3_closes 19 = .ok (.bipush 17, 2) := by decide +kernel
theorem dX3_closes_21 : decode cX3_closes 21 = .ok (.if_icmp .ge 16, 3) := by decide +kernel
theorem dX3_closes_24 : decode cX3_closes 24 = .ok (.aload_n 0, 1) := by decide +kernel
theorem dX3_closes_25 : decode cX3_closes 25 = .ok (.iload_n 2, 1) := by decide +kernel
theorem dX3_closes_26 : decode cX3_closes 26 = .ok (.iload_n 1, 1) := by decide +kernel
theorem dX3_closes_27 : decode cX3_closes 27 = .ok (.iload_n 3, 1) := by decide +kernel
theorem dX3_closes_28 : decode cX3_closes 28 = .ok (.invokevirtual 97, 3) := by decide +kernel
theorem dX3_closes_31 : decode cX3_closes 31 = .ok (.iinc 3 1, 3) := by decide +kernel
theorem dX3_closes_34 : decode cX3_closes 34 = .ok (.goto (-16), 3) := by decide +kernel
theorem dX3_closes_37 : decode cX3_closes 37 = .ok (.iinc 2 1, 3) := by decide +kernel
theorem dX3_closes_40 : decode cX3_closes 40 = .ok (.goto (-30), 3) := by decide +kernel
theorem dX3_closes_43 : decode cX3_closes 43 = .ok (.iconst 0, 1) := by decide +kernel
theorem dX3_closes_44 : decode cX3_closes 44 = .ok (.istore_n 2, 1) := by decide +kernel
theorem dX3_closes_45 : decode cX3_closes 45 = .ok (.iload_n 2, 1) := by decide +kernel
theorem dX3_closes_46 : decode cX3_closes 46 = .ok (.bipush 17, 2) := by decide +kernel
theorem dX3_closes_48 : decode cX3_closes 48 = .ok (.if_icmp .ge 25, 3) := by decide +kernel
theorem dX3_closes_51 : decode cX3_closes 51 = .ok (.aload_n 0, 1) := by decide +kernel
theorem dX3_closes_52 : decode cX3_closes 52 = .ok (.getfield 11, 3) := by decide +kernel
theorem dX3_closes_55 : decode cX3_closes 55 = .ok (.iload_n 2, 1) := by decide +kernel
theorem dX3_closes_56 : decode cX3_closes 56 = .ok (.bipush 17, 2) := by decide +kernel
theorem dX3_closes_58 : decode cX3_closes 58 = .ok (.imul, 1) := by decide +kernel
theorem dX3_closes_59 : decode cX3_closes 59 = .ok (.iload_n 2, 1) := by decide +kernel
theorem dX3_closes_60 : decode cX3_closes 60 = .ok (.iadd, 1) := by decide +kernel
theorem dX3_closes_61 : decode cX3_closes 61 = .ok (.iaload, 1) := by decide +kernel
theorem dX3_closes_62 : decode cX3_closes 62 = .ok (.ifCond .ge 5, 3) := by decide +kernel
theorem dX3_closes_65 : decode cX3_closes 65 = .ok (.iconst 0, 1) := by decide +kernel
theorem dX3_closes_66 : decode cX3_closes 66 = .ok (.ireturn, 1) := by decide +kernel
theorem dX3_closes_67 : decode cX3_closes 67 = .ok (.iinc 2 1, 3) := by decide +kernel
theorem dX3_closes_70 : decode cX3_closes 70 = .ok (.goto (-25), 3) := by decide +kernel
theorem dX3_closes_73 : decode cX3_closes 73 = .ok (.iinc 1 1, 3) := by decide +kernel
theorem dX3_closes_76 : decode cX3_closes 76 = .ok (.goto (-74), 3) := by decide +kernel
theorem dX3_closes_79 : decode cX3_closes 79 = .ok (.iconst 1, 1) := by decide +kernel
theorem dX3_closes_80 : decode cX3_closes 80 = .ok (.ireturn, 1) := by decide +kernel
theorem dX3_join_0 : decode cX3_join 0 = .ok (.aload_n 0, 1) := by decide +kernel
theorem dX3_join_1 : decode cX3_join 1 = .ok (.getfield 11, 3) := by decide +kernel
theorem dX3_join_4 : decode cX3_join 4 = .ok (.iload_n 1, 1) := by decide +kernel
theorem dX3_join_5 : decode cX3_join 5 = .ok (.bipush 17, 2) := by decide +kernel
theorem dX3_join_7 : decode cX3_join 7 = .ok (.imul, 1) := by decide +kernel
theorem dX3_join_8 : decode cX3_join 8 = .ok (.iload_n 2, 1) := by decide +kernel
theorem dX3_join_9 : decode cX3_join 9 = .ok (.iadd, 1) := by decide +kernel
theorem dX3_join_10 : decode cX3_join 10 = .ok (.iaload, 1) := by decide +kernel
theorem dX3_join_11 : decode cX3_join 11 = .ok (.istore 4, 2) := by decide +kernel
theorem dX3_join_13 : decode cX3_join 13 = .ok (.aload_n 0, 1) := by decide +kernel
theorem dX3_join_14 : decode cX3_join 14 = .ok (.getfield 11, 3) := by decide +kernel
theorem dX3_join_17 : decode cX3_join 17 = .ok (.iload_n 2, 1) := by decide +kernel
theorem dX3_join_18 : decode cX3_join 18 = .ok (.bipush 17, 2) := by decide +kernel
theorem dX3_join_20 : decode cX3_join 20 = .ok (.imul, 1) := by decide +kernel
theorem dX3_join_21 : decode cX3_join 21 = .ok (.iload_n 3, 1) := by decide +kernel
theorem dX3_join_22 : decode cX3_join 22 = .ok (.iadd, 1) := by decide +kernel
theorem dX3_join_23 : decode cX3_join 23 = .ok (.iaload, 1) := by decide +kernel
theorem dX3_join_24 : decode cX3_join 24 = .ok (.istore 5, 2) := by decide +kernel
theorem dX3_join_26 : decode cX3_join 26 = .ok (.iload 4, 2) := by decide +kernel
theorem dX3_join_28 : decode cX3_join 28 = .ok (.ldc 15, 2) := by decide +kernel
theorem dX3_join_30 : decode cX3_join 30 = .ok (.if_icmp .ge 40, 3) := by decide +kernel
theorem dX3_join_33 : decode cX3_join 33 = .ok (.iload 5, 2) := by decide +kernel
theorem dX3_join_35 : decode cX3_join 35 = .ok (.ldc 15, 2) := by decide +kernel
theorem dX3_join_37 : decode cX3_join 37 = .ok (.if_icmp .ge 33, 3) := by decide +kernel
theorem dX3_join_40 : decode cX3_join 40 = .ok (.iload_n 1, 1) := by decide +kernel
theorem dX3_join_41 : decode cX3_join 41 = .ok (.bipush 17, 2) := by decide +kernel
theorem dX3_join_43 : decode cX3_join 43 = .ok (.imul, 1) := by decide +kernel
theorem dX3_join_44 : decode cX3_join 44 = .ok (.iload_n 3, 1) := by decide +kernel
theorem dX3_join_45 : decode cX3_join 45 = .ok (.iadd, 1) := by decide +kernel
theorem dX3_join_46 : decode cX3_join 46 = .ok (.istore 6, 2) := by decide +kernel
theorem dX3_join_48 : decode cX3_join 48 = .ok (.aload_n 0, 1) := by decide +kernel
theorem dX3_join_49 : decode cX3_join 49 = .ok (.getfield 11, 3) := by decide +kernel
theorem dX3_join_52 : decode cX3_join 52 = .ok (.iload 6, 2) := by decide +kernel
theorem dX3_join_54 : decode cX3_join 54 = .ok (.aload_n 0, 1) := by decide +kernel
theorem dX3_join_55 : decode cX3_join 55 = .ok (.getfield 11, 3) := by decide +kernel
theorem dX3_join_58 : decode cX3_join 58 = .ok (.iload 6, 2) := by decide +kernel
theorem dX3_join_60 : decode cX3_join 60 = .ok (.iaload, 1) := by decide +kernel
theorem dX3_join_61 : decode cX3_join 61 = .ok (.iload 4, 2) := by decide +kernel
theorem dX3_join_63 : decode cX3_join 63 = .ok (.iload 5, 2) := by decide +kernel
theorem dX3_join_65 : decode cX3_join 65 = .ok (.iadd, 1) := by decide +kernel
theorem dX3_join_66 : decode cX3_join 66 = .ok (.invokestatic 91, 3) := by decide +kernel
theorem dX3_join_69 : decode cX3_join 69 = .ok (.iastore, 1) := by decide +kernel
theorem dX3_join_70 : decode cX3_join 70 = .ok (.return_, 1) := by decide +kernel
theorem dX3_least_0 : decode cX3_least 0 = .ok (.iload_n 1, 1) := by decide +kernel
theorem dX3_least_1 : decode cX3_least 1 = .ok (.bipush 15, 2) := by decide +kernel
theorem dX3_least_3 : decode cX3_least 3 = .ok (.invokestatic 87, 3) := by decide +kernel
theorem dX3_least_6 : decode cX3_least 6 = .ok (.ifCond .eq 16, 3) := by decide +kernel
theorem dX3_least_9 : decode cX3_least 9 = .ok (.aload_n 0, 1) := by decide +kernel
theorem dX3_least_10 : decode cX3_least 10 = .ok (.getfield 11, 3) := by decide +kernel
theorem dX3_least_13 : decode cX3_least 13 = .ok (.sipush 272, 3) := by decide +kernel
theorem dX3_least_16 : decode cX3_least 16 = .ok (.iload_n 1, 1) := by decide +kernel
theorem dX3_least_17 : decode cX3_least 17 = .ok (.iadd, 1) := by decide +kernel
theorem dX3_least_18 : decode cX3_least 18 = .ok (.iaload, 1) := by decide +kernel
theorem dX3_least_19 : decode cX3_least 19 = .ok (.goto 5, 3) := by decide +kernel
theorem dX3_least_22 : decode cX3_least 22 = .ok (.ldc 15, 2) := by decide +kernel
theorem dX3_least_24 : decode cX3_least 24 = .ok (.istore_n 2, 1) := by decide +kernel
theorem dX3_least_25 : decode cX3_least 25 = .ok (.iload_n 2, 1) := by decide +kernel
theorem dX3_least_26 : decode cX3_least 26 = .ok (.ldc 15, 2) := by decide +kernel
theorem dX3_least_28 : decode cX3_least 28 = .ok (.if_icmp .ge 8, 3) := by decide +kernel
theorem dX3_least_31 : decode cX3_least 31 = .ok (.iload_n 2, 1) := by decide +kernel
theorem dX3_least_32 : decode cX3_least 32 = .ok (.ineg, 1) := by decide +kernel
theorem dX3_least_33 : decode cX3_least 33 = .ok (.goto 6, 3) := by decide +kernel
theorem dX3_least_36 : decode cX3_least 36 = .ok (.sipush (-1000), 3) := by decide +kernel
theorem dX3_least_39 : decode cX3_least 39 = .ok (.ireturn, 1) := by decide +kernel
theorem dX3_greatest_0 : decode cX3_greatest 0 = .ok (.iload_n 1, 1) := by decide +kernel
theorem dX3_greatest_1 : decode cX3_greatest 1 = .ok (.bipush 15, 2) := by decide +kernel
theorem dX3_greatest_3 : decode cX3_greatest 3 = .ok (.invokestatic 87, 3) := by decide +kernel
theorem dX3_greatest_6 : decode cX3_greatest 6 = .ok (.ifCond .eq 18, 3) := by decide +kernel
theorem dX3_greatest_9 : decode cX3_greatest 9 = .ok (.aload_n 0, 1) := by decide +kernel
theorem dX3_greatest_10 : decode cX3_greatest 10 = .ok (.getfield 11, 3) := by decide +kernel
theorem dX3_greatest_13 : decode cX3_greatest 13 = .ok (.iload_n 1, 1) := by decide +kernel
theorem dX3_greatest_14 : decode cX3_greatest 14 = .ok (.bipush 17, 2) := by decide +kernel
theorem dX3_greatest_16 : decode cX3_greatest 16 = .ok (.imul, 1) := by decide +kernel
theorem dX3_greatest_17 : decode cX3_greatest 17 = .ok (.bipush 16, 2) := by decide +kernel
theorem dX3_greatest_19 : decode cX3_greatest 19 = .ok (.iadd, 1) := by decide +kernel
theorem dX3_greatest_20 : decode cX3_greatest 20 = .ok (.iaload, 1) := by decide +kernel
theorem dX3_greatest_21 : decode cX3_greatest 21 = .ok (.goto 5, 3) := by decide +kernel
theorem dX3_greatest_24 : decode cX3_greatest 24 = .ok (.ldc 15, 2) := by decide +kernel
theorem dX3_greatest_26 : decode cX3_greatest 26 = .ok (.istore_n 2, 1) := by decide +kernel
theorem dX3_greatest_27 : decode cX3_greatest 27 = .ok (.iload_n 2, 1) := by decide +kernel
theorem dX3_greatest_28 : decode cX3_greatest 28 = .ok (.ldc 15, 2) := by decide +kernel
theorem dX3_greatest_30 : decode cX3_greatest 30 = .ok (.if_icmp .ge 7, 3) := by decide +kernel
theorem dX3_greatest_33 : decode cX3_greatest 33 = .ok (.iload_n 2, 1) := by decide +kernel
theorem dX3_greatest_34 : decode cX3_greatest 34 = .ok (.goto 6, 3) := by decide +kernel
theorem dX3_greatest_37 : decode cX3_greatest 37 = .ok (.sipush 1000, 3) := by decide +kernel
theorem dX3_greatest_40 : decode cX3_greatest 40 = .ok (.ireturn, 1) := by decide +kernel
theorem dX3_bindsBothSides_0 : decode cX3_bindsBothSides 0 = .ok (.iload_n 1, 1) := by decide +kernel
theorem dX3_bindsBothSides_1 : decode cX3_bindsBothSides 1 = .ok (.bipush 15, 2) := by decide +kernel
theorem dX3_bindsBothSides_3 : decode cX3_bindsBothSides 3 = .ok (.invokestatic 87, 3) := by decide +kernel
theorem dX3_bindsBothSides_6 : decode cX3_bindsBothSides 6 = .ok (.ifCond .eq 39, 3) := by decide +kernel
theorem dX3_bindsBothSides_9 : decode cX3_bindsBothSides 9 = .ok (.aload_n 0, 1) := by decide +kernel
theorem dX3_bindsBothSides_10 : decode cX3_bindsBothSides 10 = .ok (.getfield 11, 3) := by decide +kernel
theorem dX3_bindsBothSides_13 : decode cX3_bindsBothSides 13 = .ok (.sipush 272, 3) := by decide +kernel
theorem dX3_bindsBothSides_16 : decode cX3_bindsBothSides 16 = .ok (.iload_n 1, 1) := by decide +kernel
theorem dX3_bindsBothSides_17 : decode cX3_bindsBothSides 17 = .ok (.iadd, 1) := by decide +kernel
theorem dX3_bindsBothSides_18 : decode cX3_bindsBothSides 18 = .ok (.iaload, 1) := by decide +kernel
theorem dX3_bindsBothSides_19 : decode cX3_bindsBothSides 19 = .ok (.ldc 15, 2) := by decide +kernel
theorem dX3_bindsBothSides_21 : decode cX3_bindsBothSides 21 = .ok (.if_icmp .ge 24, 3) := by decide +kernel
theorem dX3_bindsBothSides_24 : decode cX3_bindsBothSides 24 = .ok (.aload_n 0, 1) := by decide +kernel
theorem dX3_bindsBothSides_25 : decode cX3_bindsBothSides 25 = .ok (.getfield 11, 3) := by decide +kernel
theorem dX3_bindsBothSides_28 : decode cX3_bindsBothSides 28 = .ok (.iload_n 1, 1) := by decide +kernel
theorem dX3_bindsBothSides_29 : decode cX3_bindsBothSides 29 = .ok (.bipush 17, 2) := by decide +kernel
theorem dX3_bindsBothSides_31 : decode cX3_bindsBothSides 31 = .ok (.imul, 1) := by decide +kernel
theorem dX3_bindsBothSides_32 : decode cX3_bindsBothSides 32 = .ok (.bipush 16, 2) := by decide +kernel
theorem dX3_bindsBothSides_34 : decode cX3_bindsBothSides 34 = .ok (.iadd, 1) := by decide +kernel
theorem dX3_bindsBothSides_35 : decode cX3_bindsBothSides 35 = .ok (.iaload, 1) := by decide +kernel
theorem dX3_bindsBothSides_36 : decode cX3_bindsBothSides 36 = .ok (.ldc 15, 2) := by decide +kernel
theorem dX3_bindsBothSides_38 : decode cX3_bindsBothSides 38 = .ok (.if_icmp .ge 7, 3) := by decide +kernel
theorem dX3_bindsBothSides_41 : decode cX3_bindsBothSides 41 = .ok (.iconst 1, 1) := by decide +kernel
theorem dX3_bindsBothSides_42 : decode cX3_bindsBothSides 42 = .ok (.goto 4, 3) := by decide +kernel
theorem dX3_bindsBothSides_45 : decode cX3_bindsBothSides 45 = .ok (.iconst 0, 1) := by decide +kernel
theorem dX3_bindsBothSides_46 : decode cX3_bindsBothSides 46 = .ok (.ireturn, 1) := by decide +kernel
theorem dX4_init_0 : decode cX4_init 0 = .ok (.aload_n 0, 1) := by decide +kernel
theorem dX4_init_1 : decode cX4_init 1 = .ok (.invokespecial 3, 3) := by decide +kernel
theorem dX4_init_4 : decode cX4_init 4 = .ok (.aload_n 0, 1) := by decide +kernel
theorem dX4_init_5 : decode cX4_init 5 = .ok (.iconst (-1), 1) := by decide +kernel
theorem dX4_init_6 : decode cX4_init 6 = .ok (.putfield 9, 3) := by decide +kernel
theorem dX4_init_9 : decode cX4_init 9 = .ok (.aload_n 0, 1) := by decide +kernel
theorem dX4_init_10 : decode cX4_init 10 = .ok (.aload_n 1, 1) := by decide +kernel
theorem dX4_init_11 : decode cX4_init 11 = .ok (.putfield 15, 3) := by decide +kernel
theorem dX4_init_14 : decode cX4_init 14 = .ok (.aload_n 0, 1) := by decide +kernel
theorem dX4_init_15 : decode cX4_init 15 = .ok (.iload_n 2, 1) := by decide +kernel
theorem dX4_init_16 : decode cX4_init 16 = .ok (.putfield 19, 3) := by decide +kernel
theorem dX4_init_19 : decode cX4_init 19 = .ok (.aload_n 0, 1) := by decide +kernel
theorem dX4_init_20 : decode cX4_init 20 = .ok (.iload_n 3, 1) := by decide +kernel
theorem dX4_init_21 : decode cX4_init 21 = .ok (.bipush 100, 2) := by decide +kernel
theorem dX4_init_23 : decode cX4_init 23 = .ok (.idiv, 1) := by decide +kernel
theorem dX4_init_24 : decode cX4_init 24 = .ok (.putfield 22, 3) := by decide +kernel
theorem dX4_init_27 : decode cX4_init 27 = .ok (.aload_n 0, 1) := by decide +kernel
theorem dX4_init_28 : decode cX4_init 28 = .ok (.iload_n 3, 1) := by decide +kernel
theorem dX4_init_29 : decode cX4_init 29 = .ok (.bipush 10, 2) := by decide +kernel
theorem dX4_init_31 : decode cX4_init 31 = .ok (.idiv, 1) := by decide +kernel
theorem dX4_init_32 : decode cX4_init 32 = .ok (.bipush 10, 2) := by decide +kernel
theorem dX4_init_34 : decode cX4_init 34 = .ok (.irem, 1) := by decide +kernel
theorem dX4_init_35 : decode cX4_init 35 = .ok (.putfield 25, 3) := by decide +kernel
theorem dX4_init_38 : decode cX4_init 38 = .ok (.aload_n 0, 1) := by decide +kernel
theorem dX4_init_39 : decode cX4_init 39 = .ok (.iload_n 3, 1) := by decide +kernel
theorem dX4_init_40 : decode cX4_init 40 = .ok (.bipush 10, 2) := by decide +kernel
theorem dX4_init_42 : decode cX4_init 42 = .ok (.irem, 1) := by decide +kernel
theorem dX4_init_43 : decode cX4_init 43 = .ok (.putfield 28, 3) := by decide +kernel
theorem dX4_init_46 : decode cX4_init 46 = .ok (.aload_n 0, 1) := by decide +kernel
theorem dX4_init_47 : decode cX4_init 47 = .ok (.iload 4, 2) := by decide +kernel
theorem dX4_init_49 : decode cX4_init 49 = .ok (.putfield 31, 3) := by decide +kernel
theorem dX4_init_52 : decode cX4_init 52 = .ok (.aload_n 0, 1) := by decide +kernel
theorem dX4_init_53 : decode cX4_init 53 = .ok (.iload 5, 2) := by decide +kernel
theorem dX4_init_55 : decode cX4_init 55 = .ok (.putfield 34, 3) := by decide +kernel
theorem dX4_init_58 : decode cX4_init 58 = .ok (.return_, 1) := by decide +kernel
theorem dX4_isMans_0 : decode cX4_isMans 0 = .ok (.aload_n 0, 1) := by decide +kernel
theorem dX4_isMans_1 : decode cX4_isMans 1 = .ok (.getfield 31, 3) := by decide +kernel
theorem dX4_isMans_4 : decode cX4_isMans 4 = .ok (.iconst 3, 1) := by decide +kernel
theorem dX4_isMans_5 : decode cX4_isMans 5 = .ok (.if_icmp .eq 7, 3) := by decide +kernel
theorem dX4_isMans_8 : decode cX4_isMans 8 = .ok (.iconst 1, 1) := by decide +kernel
theorem dX4_isMans_9 : decode cX4_isMans 9 = .ok (.goto 4, 3) := by decide +kernel
theorem dX4_isMans_12 : decode cX4_isMans 12 = .ok (.iconst 0, 1) := by decide +kernel
theorem dX4_isMans_13 : decode cX4_isMans 13 = .ok (.ireturn, 1) := by decide +kernel
theorem dX4_writer_0 : decode cX4_writer 0 = .ok (.aload_n 0, 1) := by decide +kernel
theorem dX4_writer_1 : decode cX4_writer 1 = .ok (.getfield 15, 3) := by decide +kernel
theorem dX4_writer_4 : decode cX4_writer 4 = .ok (.aload_n 0, 1) := by decide +kernel
theorem dX4_writer_5 : decode cX4_writer 5 = .ok (.getfield 19, 3) := by decide +kernel
theorem dX4_writer_8 : decode cX4_writer 8 = .ok (.invokevirtual 37, 3) := by decide +kernel
theorem dX4_writer_11 : decode cX4_writer 11 = .ok (.ireturn, 1) := by decide +kernel
theorem dX4_year_0 : decode cX4_year 0 = .ok (.aload_n 0, 1) := by decide +kernel
theorem dX4_year_1 : decode cX4_year 1 = .ok (.getfield 19, 3) := by decide +kernel
theorem dX4_year_4 : decode cX4_year 4 = .ok (.bipush 100, 2) := by decide +kernel
theorem dX4_year_6 : decode cX4_year 6 = .ok (.idiv, 1) := by decide +kernel
theorem dX4_year_7 : decode cX4_year 7 = .ok (.ireturn, 1) := by decide +kernel
theorem dX4_mix_0 : decode cX4_mix 0 = .ok (.bipush 10, 2) := by decide +kernel
theorem dX4_mix_2 : decode cX4_mix 2 = .ok (.aload_n 0, 1) := by decide +kernel
theorem dX4_mix_3 : decode cX4_mix 3 = .ok (.getfield 15, 3) := by decide +kernel
theorem dX4_mix_6 : decode cX4_mix 6 = .ok (.getfield 43, 3) := by decide +kernel
theorem dX4_mix_9 : decode cX4_mix 9 = .ok (.imul, 1) := by decide +kernel
theorem dX4_mix_10 : decode cX4_mix 10 = .ok (.aload_n 0, 1) := by decide +kernel
theorem dX4_mix_11 : decode cX4_mix 11 = .ok (.getfield 25, 3) := by decide +kernel
theorem dX4_mix_14 : decode cX4_mix 14 = .ok (.iadd, 1) := by decide +kernel
theorem dX4_mix_15 : decode cX4_mix 15 = .ok (.ireturn, 1) := by decide +kernel
theorem dX5_init_0 : decode cX5_init 0 = .ok (.aload_n 0, 1) := by decide +kernel
theorem dX5_init_1 : decode cX5_init 1 = .ok (.invokespecial 5, 3) := by decide +kernel
theorem dX5_init_4 : decode cX5_init 4 = .ok (.aload_n 0, 1) := by decide +kernel
theorem dX5_init_5 : decode cX5_init 5 = .ok (.bipush 40, 2) := by decide +kernel
theorem dX5_init_7 : decode cX5_init 7 = .ok (.newarray .int, 2) := by decide +kernel
theorem dX5_init_9 : decode cX5_init 9 = .ok (.putfield 13, 3) := by decide +kernel
theorem dX5_init_12 : decode cX5_init 12 = .ok (.aload_n 0, 1) := by decide +kernel
theorem dX5_init_13 : decode cX5_init 13 = .ok (.bipush 40, 2) := by decide +kernel
theorem dX5_init_15 : decode cX5_init 15 = .ok (.newarray .int, 2) := by decide +kernel
theorem dX5_init_17 : decode cX5_init 17 = .ok (.putfield 17, 3) := by decide +kernel
theorem dX5_init_20 : decode cX5_init 20 = .ok (.aload_n 0, 1) := by decide +kernel
theorem dX5_init_21 : decode cX5_init 21 = .ok (.bipush 40, 2) := by decide +kernel
theorem dX5_init_23 : decode cX5_init 23 = .ok (.newarray .int, 2) := by decide +kernel
theorem dX5_init_25 : decode cX5_init 25 = .ok (.putfield 20, 3) := by decide +kernel
theorem dX5_init_28 : decode cX5_init 28 = .ok (.aload_n 0, 1) := by decide +kernel
theorem dX5_init_29 : decode cX5_init 29 = .ok (.bipush 41, 2) := by decide +kernel
theorem dX5_init_31 : decode cX5_init 31 = .ok (.newarray .int, 2) := by decide +kernel
theorem dX5_init_33 : decode cX5_init 33 = .ok (.putfield 23, 3) := by decide +kernel
theorem dX5_init_36 : decode cX5_init 36 = .ok (.aload_n 0, 1) := by decide +kernel
theorem dX5_init_37 : decode cX5_init 37 = .ok (.sipush 450, 3) := by decide +kernel
theorem dX5_init_40 : decode cX5_init 40 = .ok (.newarray .int, 2) := by decide +kernel
theorem dX5_init_42 : decode cX5_init 42 = .ok (.putfield 26, 3) := by decide +kernel
theorem dX5_init_45 : decode cX5_init 45 = .ok (.aload_n 0, 1) := by decide +kernel
theorem dX5_init_46 : decode cX5_init 46 = .ok (.iconst 0, 1) := by decide +kernel
theorem dX5_init_47 : decode cX5_init 47 = .ok (.putfield 29, 3) := by decide +kernel
theorem dX5_init_50 : decode cX5_init 50 = .ok (.aload_n 0, 1) := by decide +kernel
theorem dX5_init_51 : decode cX5_init 51 = .ok (.iconst 0, 1) := by decide +kernel
theorem dX5_init_52 : decode cX5_init 52 = .ok (.putfield 33, 3) := by decide +kernel
theorem dX5_init_55 : decode cX5_init 55 = .ok (.return_, 1) := by decide +kernel
theorem dX5_clear_0 : decode cX5_clear 0 = .ok (.aload_n 0, 1) := by decide +kernel
theorem dX5_clear_1 : decode cX5_clear 1 = .ok (.iconst 0, 1) := by decide +kernel
theorem dX5_clear_2 : decode cX5_clear 2 = .ok (.putfield 29, 3) := by decide +kernel
theorem dX5_clear_5 : decode cX5_clear 5 = .ok (.aload_n 0, 1) := by decide +kernel
theorem dX5_clear_6 : decode cX5_clear 6 = .ok (.iconst 0, 1) := by decide +kernel
theorem dX5_clear_7 : decode cX5_clear 7 = .ok (.putfield 33, 3) := by decide +kernel
theorem dX5_clear_10 : decode cX5_clear 10 = .ok (.return_, 1) := by decide +kernel
theorem dX5_add_0 : decode cX5_add 0 = .ok (.aload_n 0, 1) := by decide +kernel
theorem dX5_add_1 : decode cX5_add 1 = .ok (.getfield 29, 3) := by decide +kernel
theorem dX5_add_4 : decode cX5_add 4 = .ok (.bipush 40, 2) := by decide +kernel
theorem dX5_add_6 : decode cX5_add 6 = .ok (.if_icmp .ge 56, 3) := by decide +kernel
theorem dX5_add_9 : decode cX5_add 9 = .ok (.aload_n 0, 1) := by decide +kernel
theorem dX5_add_10 : decode cX5_add 10 = .ok (.getfield 13, 3) := by decide +kernel
theorem dX5_add_13 : decode cX5_add 13 = .ok (.aload_n 0, 1) := by decide +kernel
theorem dX5_add_14 : decode cX5_add 14 = .ok (.getfield 29, 3) := by decide +kernel
theorem dX5_add_17 : decode cX5_add 17 = .ok (.iload_n 1, 1) := by decide +kernel
theorem dX5_add_18 : decode cX5_add 18 = .ok (.iastore, 1) := by decide +kernel
theorem dX5_add_19 : decode cX5_add 19 = .ok (.aload_n 0, 1) := by decide +kernel
theorem dX5_add_20 : decode cX5_add 20 = .ok (.getfield 17, 3) := by decide +kernel
theorem dX5_add_23 : decode cX5_add 23 = .ok (.aload_n 0, 1) := by decide +kernel
theorem dX5_add_24 : decode cX5_add 24 = .ok (.getfield 29, 3) := by decide +kernel
theorem dX5_add_27 : decode cX5_add 27 = .ok (.iload_n 2, 1) := by decide +kernel
theorem dX5_add_28 : decode cX5_add 28 = .ok (.iastore, 1) := by decide +kernel
theorem dX5_add_29 : decode cX5_add 29 = .ok (.aload_n 0, 1) := by decide +kernel
theorem dX5_add_30 : decode cX5_add 30 = .ok (.getfield 20, 3) := by decide +kernel
theorem dX5_add_33 : decode cX5_add 33 = .ok (.aload_n 0, 1) := by decide +kernel
theorem dX5_add_34 : decode cX5_add 34 = .ok (.getfield 29, 3) := by decide +kernel
theorem dX5_add_37 : decode cX5_add 37 = .ok (.iload_n 3, 1) := by decide +kernel
theorem dX5_add_38 : decode cX5_add 38 = .ok (.iastore, 1) := by decide +kernel
theorem dX5_add_39 : decode cX5_add 39 = .ok (.aload_n 0, 1) := by decide +kernel
theorem dX5_add_40 : decode cX5_add 40 = .ok (.dup, 1) := by decide +kernel
theorem dX5_add_41 : decode cX5_add 41 = .ok (.getfield 29, 3) := by decide +kernel
theorem dX5_add_44 : decode cX5_add 44 = .ok (.iconst 1, 1) := by decide +kernel
theorem dX5_add_45 : decode cX5_add 45 = .ok (.iadd, 1) := by decide +kernel
theorem dX5_add_46 : decode cX5_add 46 = .ok (.putfield 29, 3) := by decide +kernel
theorem dX5_add_49 : decode cX5_add 49 = .ok (.aload_n 0, 1) := by decide +kernel
theorem dX5_add_50 : decode cX5_add 50 = .ok (.getfield 23, 3) := by decide +kernel
theorem dX5_add_53 : decode cX5_add 53 = .ok (.aload_n 0, 1) := by decide +kernel
theorem dX5_add_54 : decode cX5_add 54 = .ok (.getfield 29, 3) := by decide +kernel
theorem dX5_add_57 : decode cX5_add 57 = .ok (.aload_n 0, 1) := by decide +kernel
theorem dX5_add_58 : decode cX5_add 58 = .ok (.getfield 33, 3) := by decide +kernel
theorem dX5_add_61 : decode cX5_add 61 = .ok (.iastore, 1) := by decide +kernel
theorem dX5_add_62 : decode cX5_add 62 = .ok (.return_, 1) := by decide +kernel
theorem dX5_addStep_0 : decode cX5_addStep 0 = .ok (.aload_n 0, 1) := by decide +kernel
theorem dX5_addStep_1 : decode cX5_addStep 1 = .ok (.getfield 33, 3) := by decide +kernel
theorem dX5_addStep_4 : decode cX5_addStep 4 = .ok (.sipush 450, 3) := by decide +kernel
theorem dX5_addStep_7 : decode cX5_addStep 7 = .ok (.if_icmp .ge 23, 3) := by decide +kernel
theorem dX5_addStep_10 : decode cX5_addStep 10 = .ok (.aload_n 0, 1) := by decide +kernel
theorem dX5_addStep_11 : decode cX5_addStep 11 = .ok (.getfield 26, 3) := by decide +kernel
theorem dX5_addStep_14 : decode cX5_addStep 14 = .ok (.aload_n 0, 1) := by decide +kernel
theorem dX5_addStep_15 : decode cX5_addStep 15 = .ok (.getfield 33, 3) := by decide +kernel
theorem dX5_addStep_18 : decode cX5_addStep 18 = .ok (.iload_n 1, 1) := by decide +kernel
theorem dX5_addStep_19 : decode cX5_addStep 19 = .ok (.iastore, 1) := by decide +kernel
theorem dX5_addStep_20 : decode cX5_addStep 20 = .ok (.aload_n 0, 1) := by decide +kernel
theorem dX5_addStep_21 : decode cX5_addStep 21 = .ok (.dup, 1) := by decide +kernel
theorem dX5_addStep_22 : decode cX5_addStep 22 = .ok (.getfield 33, 3) := by decide +kernel
theorem dX5_addStep_25 : decode cX5_addStep 25 = .ok (.iconst 1, 1) := by decide +kernel
theorem dX5_addStep_26 : decode cX5_addStep 26 = .ok (.iadd, 1) := by decide +kernel
theorem dX5_addStep_27 : decode cX5_addStep 27 = .ok (.putfield 33, 3) := by decide +kernel
theorem dX5_addStep_30 : decode cX5_addStep 30 = .ok (.return_, 1) := by decide +kernel
theorem dX5_holds_0 : decode cX5_holds 0 = .ok (.lconst 1, 1) := by decide +kernel
theorem dX5_holds_1 : decode cX5_holds 1 = .ok (.lstore_n 3, 1) := by decide +kernel
theorem dX5_holds_2 : decode cX5_holds 2 = .ok (.aload_n 0, 1) := by decide +kernel
theorem dX5_holds_3 : decode cX5_holds 3 = .ok (.getfield 23, 3) := by decide +kernel
theorem dX5_holds_6 : decode cX5_holds 6 = .ok (.iload_n 1, 1) := by decide +kernel
theorem dX5_holds_7 : decode cX5_holds 7 = .ok (.iaload, 1) := by decide +kernel
theorem dX5_holds_8 : decode cX5_holds 8 = .ok (.istore 5, 2) := by decide +kernel
theorem dX5_holds_10 : decode cX5_holds 10 = .ok (.iload 5, 2) := by decide +kernel
theorem dX5_holds_12 : decode cX5_holds 12 = .ok (.aload_n 0, 1) := by decide +kernel
theorem dX5_holds_13 : decode cX5_holds 13 = .ok (.getfield 23, 3) := by decide +kernel
theorem dX5_holds_16 : decode cX5_holds 16 = .ok (.iload_n 1, 1) := by decide +kernel
theorem dX5_holds_17 : decode cX5_holds 17 = .ok (.iconst 1, 1) := by decide +kernel
theorem dX5_holds_18 : decode cX5_holds 18 = .ok (.iadd, 1) := by decide +kernel
theorem dX5_holds_19 : decode cX5_holds 19 = .ok (.iaload, 1) := by decide +kernel
theorem dX5_holds_20 : decode cX5_holds 20 = .ok (.if_icmp .ge 96, 3) := by decide +kernel
theorem dX5_holds_23 : decode cX5_holds 23 = .ok (.iload 5, 2) := by decide +kernel
theorem dX5_holds_25 : decode cX5_holds 25 = .ok (.sipush 450, 3) := by decide +kernel
theorem dX5_holds_28 : decode cX5_holds 28 = .ok (.if_icmp .ge 88, 3) := by decide +kernel
theorem dX5_holds_31 : decode cX5_holds 31 = .ok (.aload_n 0, 1) := by decide +kernel
theorem dX5_holds_32 : decode cX5_holds 32 = .ok (.getfield 26, 3) := by decide +kernel
theorem dX5_holds_35 : decode cX5_holds 35 = .ok (.iload 5, 2) := by decide +kernel
theorem dX5_holds_37 : decode cX5_holds 37 = .ok (.iaload, 1) := by decide +kernel
theorem dX5_holds_38 : decode cX5_holds 38 = .ok (.istore 6, 2) := by decide +kernel
theorem dX5_holds_40 : decode cX5_holds 40 = .ok (.iload 6, 2) := by decide +kernel
theorem dX5_holds_42 : decode cX5_holds 42 = .ok (.iconst (-1), 1) := by decide +kernel
theorem dX5_holds_43 : decode cX5_holds 43 = .ok (.if_icmp .ne 10, 3) := by decide +kernel
theorem dX5_holds_46 : decode cX5_holds 46 = .ok (.lload_n 3, 1) := by decide +kernel
theorem dX5_holds_47 : decode cX5_holds 47 = .ok (.lconst 1, 1) := by decide +kernel
theorem dX5_holds_48 : decode cX5_holds 48 = .ok (.lxor, 1) := by decide +kernel
theorem dX5_holds_49 : decode cX5_holds 49 = .ok (.lstore_n 3, 1) := by decide +kernel
theorem dX5_holds_50 : decode cX5_holds 50 = .ok (.goto 60, 3) := by decide +kernel
theorem dX5_holds_53 : decode cX5_holds 53 = .ok (.iload 6, 2) := by decide +kernel
theorem dX5_holds_55 : decode cX5_holds 55 = .ok (.bipush (-2), 2) := by decide +kernel
theorem dX5_holds_57 : decode cX5_holds 57 = .ok (.if_icmp .ne 16, 3) := by decide +kernel
theorem dX5_holds_60 : decode cX5_holds 60 = .ok (.lload_n 3, 1) := by decide +kernel
theorem dX5_holds_61 : decode cX5_holds 61 = .ok (.iconst 1, 1) := by decide +kernel
theorem dX5_holds_62 : decode cX5_holds 62 = .ok (.lushr, 1) := by decide +kernel
theorem dX5_holds_63 : decode cX5_holds 63 = .ok (.lload_n 3, 1) := by decide +kernel
theorem dX5_holds_64 : decode cX5_holds 64 = .ok (.ldc2_w 36, 3) := by decide +kernel
theorem dX5_holds_67 : decode cX5_holds 67 = .ok (.lor, 1) := by decide +kernel
theorem dX5_holds_68 : decode cX5_holds 68 = .ok (.land, 1) := by decide +kernel
theorem dX5_holds_69 : decode cX5_holds 69 = .ok (.lstore_n 3, 1) := by decide +kernel
theorem dX5_holds_70 : decode cX5_holds 70 = .ok (.goto 40, 3) := by decide +kernel
theorem dX5_holds_73 : decode cX5_holds 73 = .ok (.iload 6, 2) := by decide +kernel
theorem dX5_holds_75 : decode cX5_holds 75 = .ok (.bipush (-3), 2) := by decide +kernel
theorem dX5_holds_77 : decode cX5_holds 77 = .ok (.if_icmp .ne 14, 3) := by decide +kernel
theorem dX5_holds_80 : decode cX5_holds 80 = .ok (.lload_n 3, 1) := by decide +kernel
theorem dX5_holds_81 : decode cX5_holds 81 = .ok (.iconst 1, 1) := by decide +kernel
theorem dX5_holds_82 : decode cX5_holds 82 = .ok (.lushr, 1) := by decide +kernel
theorem dX5_holds_83 : decode cX5_holds 83 = .ok (.lload_n 3, 1) := by decide +kernel
theorem dX5_holds_84 : decode cX5_holds 84 = .ok (.lconst 1, 1) := by decide +kernel
theorem dX5_holds_85 : decode cX5_holds 85 = .ok (.land, 1) := by decide +kernel
theorem dX5_holds_86 : decode cX5_holds 86 = .ok (.lor, 1) := by decide +kernel
theorem dX5_holds_87 : decode cX5_holds 87 = .ok (.lstore_n 3, 1) := by decide +kernel
theorem dX5_holds_88 : decode cX5_holds 88 = .ok (.goto 22, 3) := by decide +kernel
theorem dX5_holds_91 : decode cX5_holds 91 = .ok (.lload_n 3, 1) := by decide +kernel
theorem dX5_holds_92 : decode cX5_holds 92 = .ok (.iconst 1, 1) := by decide +kernel
theorem dX5_holds_93 : decode cX5_holds 93 = .ok (.lshl, 1) := by decide +kernel
theorem dX5_holds_94 : decode cX5_holds 94 = .ok (.iload 6, 2) := by decide +kernel
theorem dX5_holds_96 : decode cX5_holds 96 = .ok (.aload_n 2, 1) := by decide +kernel
theorem dX5_holds_97 : decode cX5_holds 97 = .ok (.invokestatic 38, 3) := by decide +kernel
theorem dX5_holds_100 : decode cX5_holds 100 = .ok (.ifCond .eq 7, 3) := by decide +kernel
theorem dX5_holds_103 : decode cX5_holds 103 = .ok (.lconst 1, 1) := by decide +kernel
theorem dX5_holds_104 : decode cX5_holds 104 = .ok (.goto 4, 3) := by decide +kernel
theorem dX5_holds_107 : decode cX5_holds 107 = .ok (.lconst 0, 1) := by decide +kernel
theorem dX5_holds_108 : decode cX5_holds 108 = .ok (.lor, 1) := by decide +kernel
theorem dX5_holds_109 : decode cX5_holds 109 = .ok (.lstore_n 3, 1) := by decide +kernel
theorem dX5_holds_110 : decode cX5_holds 110 = .ok (.iinc 5 1, 3) := by decide +kernel
theorem dX5_holds_113 : decode cX5_holds 113 = .ok (.goto (-103), 3) := by decide +kernel
theorem dX5_holds_116 : decode cX5_holds 116 = .ok (.lload_n 3, 1) := by decide +kernel
theorem dX5_holds_117 : decode cX5_holds 117 = .ok (.lconst 1, 1) := by decide +kernel
theorem dX5_holds_118 : decode cX5_holds 118 = .ok (.land, 1) := by decide +kernel
theorem dX5_holds_119 : decode cX5_holds 119 = .ok (.lconst 1, 1) := by decide +kernel
theorem dX5_holds_120 : decode cX5_holds 120 = .ok (.lcmp, 1) := by decide +kernel
theorem dX5_holds_121 : decode cX5_holds 121 = .ok (.ifCond .ne 7, 3) := by decide +kernel
theorem dX5_holds_124 : decode cX5_holds 124 = .ok (.iconst 1, 1) := by decide +kernel
theorem dX5_holds_125 : decode cX5_holds 125 = .ok (.goto 4, 3) := by decide +kernel
theorem dX5_holds_128 : decode cX5_holds 128 = .ok (.iconst 0, 1) := by decide +kernel
theorem dX5_holds_129 : decode cX5_holds 129 = .ok (.ireturn, 1) := by decide +kernel
theorem dX5_comparison_0 : decode cX5_comparison 0 = .ok (.iload_n 1, 1) := by decide +kernel
theorem dX5_comparison_1 : decode cX5_comparison 1 = .ok (.bipush 60, 2) := by decide +kernel
theorem dX5_comparison_3 : decode cX5_comparison 3 = .ok (.if_icmp .ne 7, 3) := by decide +kernel
theorem dX5_comparison_6 : decode cX5_comparison 6 = .ok (.iconst 0, 1) := by decide +kernel
theorem dX5_comparison_7 : decode cX5_comparison 7 = .ok (.goto 14, 3) := by decide +kernel
theorem dX5_comparison_10 : decode cX5_comparison 10 = .ok (.iload_n 1, 1) := by decide +kernel
theorem dX5_comparison_11 : decode cX5_comparison 11 = .ok (.bipush 62, 2) := by decide +kernel
theorem dX5_comparison_13 : decode cX5_comparison 13 = .ok (.if_icmp .ne 7, 3) := by decide +kernel
theorem dX5_comparison_16 : decode cX5_comparison 16 = .ok (.iconst 1, 1) := by decide +kernel
theorem dX5_comparison_17 : decode cX5_comparison 17 = .ok (.goto 4, 3) := by decide +kernel
theorem dX5_comparison_20 : decode cX5_comparison 20 = .ok (.iconst 2, 1) := by decide +kernel
theorem dX5_comparison_21 : decode cX5_comparison 21 = .ok (.iconst 5, 1) := by decide +kernel
theorem dX5_comparison_22 : decode cX5_comparison 22 = .ok (.imul, 1) := by decide +kernel
theorem dX5_comparison_23 : decode cX5_comparison 23 = .ok (.iload_n 0, 1) := by decide +kernel
theorem dX5_comparison_24 : decode cX5_comparison 24 = .ok (.iadd, 1) := by decide +kernel
theorem dX5_comparison_25 : decode cX5_comparison 25 = .ok (.sipush 10000, 3) := by decide +kernel
theorem dX5_comparison_28 : decode cX5_comparison 28 = .ok (.imul, 1) := by decide +kernel
theorem dX5_comparison_29 : decode cX5_comparison 29 = .ok (.iload_n 2, 1) := by decide +kernel
theorem dX5_comparison_30 : decode cX5_comparison 30 = .ok (.iadd, 1) := by decide +kernel
theorem dX5_comparison_31 : decode cX5_comparison 31 = .ok (.ireturn, 1) := by decide +kernel
theorem dX5_compares_0 : decode cX5_compares 0 = .ok (.iload_n 0, 1) := by decide +kernel
theorem dX5_compares_1 : decode cX5_compares 1 = .ok (.sipush 10000, 3) := by decide +kernel
theorem dX5_compares_4 : decode cX5_compares 4 = .ok (.idiv, 1) := by decide +kernel
theorem dX5_compares_5 : decode cX5_compares 5 = .ok (.iconst 5, 1) := by decide +kernel
theorem dX5_compares_6 : decode cX5_compares 6 = .ok (.irem, 1) := by decide +kernel
theorem dX5_compares_7 : decode cX5_compares 7 = .ok (.istore_n 2, 1) := by decide +kernel
theorem dX5_compares_8 : decode cX5_compares 8 = .ok (.iload_n 2, 1) := by decide +kernel
theorem dX5_compares_9 : decode cX5_compares 9 = .ok (.ifCond .lt 15, 3) := by decide +kernel
theorem dX5_compares_12 : decode cX5_compares 12 = .ok (.iload_n 2, 1) := by decide +kernel
theorem dX5_compares_13 : decode cX5_compares 13 = .ok (.aload_n 1, 1) := by decide +kernel
theorem dX5_compares_14 : decode cX5_compares 14 = .ok (.arraylength, 1) := by decide +kernel
theorem dX5_compares_15 : decode cX5_compares 15 = .ok (.if_icmp .ge 9, 3) := by decide +kernel
theorem dX5_compares_18 : decode cX5_compares 18 = .ok (.aload_n 1, 1) := by decide +kernel
theorem dX5_compares_19 : decode cX5_compares 19 = .ok (.iload_n 2, 1) := by decide +kernel
theorem dX5_compares_20 : decode cX5_compares 20 = .ok (.iaload, 1) := by decide +kernel
theorem dX5_compares_21 : decode cX5_compares 21 = .ok (.goto 4, 3) := by decide +kernel
theorem dX5_compares_24 : decode cX5_compares 24 = .ok (.iconst 0, 1) := by decide +kernel
theorem dX5_compares_25 : decode cX5_compares 25 = .ok (.istore_n 3, 1) := by decide +kernel
theorem dX5_compares_26 : decode cX5_compares 26 = .ok (.iload_n 0, 1) := by decide +kernel
theorem dX5_compares_27 : decode cX5_compares 27 = .ok (.sipush 10000, 3) := by decide +kernel
theorem dX5_compares_30 : decode cX5_compares 30 = .ok (.irem, 1) := by decide +kernel
theorem dX5_compares_31 : decode cX5_compares 31 = .ok (.istore 4, 2) := by decide +kernel
theorem dX5_compares_33 : decode cX5_compares 33 = .ok (.iload_n 0, 1) := by decide +kernel
theorem dX5_compares_34 : decode cX5_compares 34 = .ok (.sipush 10000, 3) := by decide +kernel
theorem dX5_compares_37 : decode cX5_compares 37 = .ok (.idiv, 1) := by decide +kernel
theorem dX5_compares_38 : decode cX5_compares 38 = .ok (.iconst 5, 1) := by decide +kernel
theorem dX5_compares_39 : decode cX5_compares 39 = .ok (.idiv, 1) := by decide +kernel
theorem dX5_compares_40 : decode cX5_compares 40 = .ok (.lookupswitch 52 #[(0, 28), (1, 40)], 28) := by decide +kernel
theorem dX5_compares_68 : decode cX5_compares 68 = .ok (.iload_n 3, 1) := by decide +kernel
theorem dX5_compares_69 : decode cX5_compares 69 = .ok (.iload 4, 2) := by decide +kernel
theorem dX5_compares_71 : decode cX5_compares 71 = .ok (.if_icmp .ge 7, 3) := by decide +kernel
theorem dX5_compares_74 : decode cX5_compares 74 = .ok (.iconst 1, 1) := by decide +kernel
theorem dX5_compares_75 : decode cX5_compares 75 = .ok (.goto 4, 3) := by decide +kernel
theorem dX5_compares_78 : decode cX5_compares 78 = .ok (.iconst 0, 1) := by decide +kernel
theorem dX5_compares_79 : decode cX5_compares 79 = .ok (.ireturn, 1) := by decide +kernel
theorem dX5_compares_80 : decode cX5_compares 80 = .ok (.iload_n 3, 1) := by decide +kernel
theorem dX5_compares_81 : decode cX5_compares 81 = .ok (.iload 4, 2) := by decide +kernel
theorem dX5_compares_83 : decode cX5_compares 83 = .ok (.if_icmp .le 7, 3) := by decide +kernel
theorem dX5_compares_86 : decode cX5_compares 86 = .ok (.iconst 1, 1) := by decide +kernel
theorem dX5_compares_87 : decode cX5_compares 87 = .ok (.goto 4, 3) := by decide +kernel
theorem dX5_compares_90 : decode cX5_compares 90 = .ok (.iconst 0, 1) := by decide +kernel
theorem dX5_compares_91 : decode cX5_compares 91 = .ok (.ireturn, 1) := by decide +kernel
theorem dX5_compares_92 : decode cX5_compares 92 = .ok (.iload_n 3, 1) := by decide +kernel
theorem dX5_compares_93 : decode cX5_compares 93 = .ok (.iload 4, 2) := by decide +kernel
theorem dX5_compares_95 : decode cX5_compares 95 = .ok (.if_icmp .ne 7, 3) := by decide +kernel
theorem dX5_compares_98 : decode cX5_compares 98 = .ok (.iconst 1, 1) := by decide +kernel
theorem dX5_compares_99 : decode cX5_compares 99 = .ok (.goto 4, 3) := by decide +kernel
theorem dX5_compares_102 : decode cX5_compares 102 = .ok (.iconst 0, 1) := by decide +kernel
theorem dX5_compares_103 : decode cX5_compares 103 = .ok (.ireturn, 1) := by decide +kernel
theorem dX5_greatest_0 : decode cX5_greatest 0 = .ok (.iconst 0, 1) := by decide +kernel
theorem dX5_greatest_1 : decode cX5_greatest 1 = .ok (.istore 4, 2) := by decide +kernel
theorem dX5_greatest_3 : decode cX5_greatest 3 = .ok (.iconst 0, 1) := by decide +kernel
theorem dX5_greatest_4 : decode cX5_greatest 4 = .ok (.istore 5, 2) := by decide +kernel
theorem dX5_greatest_6 : decode cX5_greatest 6 = .ok (.iload 5, 2) := by decide +kernel
theorem dX5_greatest_8 : decode cX5_greatest 8 = .ok (.aload_n 0, 1) := by decide +kernel
theorem dX5_greatest_9 : decode cX5_greatest 9 = .ok (.getfield 29, 3) := by decide +kernel
theorem dX5_greatest_12 : decode cX5_greatest 12 = .ok (.if_icmp .ge 62, 3) := by decide +kernel
theorem dX5_greatest_15 : decode cX5_greatest 15 = .ok (.aload_n 0, 1) := by decide +kernel
theorem dX5_greatest_16 : decode cX5_greatest 16 = .ok (.getfield 13, 3) := by decide +kernel
theorem dX5_greatest_19 : decode cX5_greatest 19 = .ok (.iload 5, 2) := by decide +kernel
theorem dX5_greatest_21 : decode cX5_greatest 21 = .ok (.iaload, 1) := by decide +kernel
theorem dX5_greatest_22 : decode cX5_greatest 22 = .ok (.iload_n 1, 1) := by decide +kernel
theorem dX5_greatest_23 : decode cX5_greatest 23 = .ok (.if_icmp .ne 45, 3) := by decide +kernel
theorem dX5_greatest_26 : decode cX5_greatest 26 = .ok (.aload_n 0, 1) := by decide +kernel
theorem dX5_greatest_27 : decode cX5_greatest 27 = .ok (.getfield 20, 3) := by decide +kernel
theorem dX5_greatest_30 : decode cX5_greatest 30 = .ok (.iload 5, 2) := by decide +kernel
theorem dX5_greatest_32 : decode cX5_greatest 32 = .ok (.iaload, 1) := by decide +kernel
theorem dX5_greatest_33 : decode cX5_greatest 33 = .ok (.iload_n 2, 1) := by decide +kernel
theorem dX5_greatest_34 : decode cX5_greatest 34 = .ok (.if_icmp .gt 34, 3) := by decide +kernel
theorem dX5_greatest_37 : decode cX5_greatest 37 = .ok (.aload_n 0, 1) := by decide +kernel
theorem dX5_greatest_38 : decode cX5_greatest 38 = .ok (.getfield 17, 3) := by decide +kernel
theorem dX5_greatest_41 : decode cX5_greatest 41 = .ok (.iload 5, 2) := by decide +kernel
theorem dX5_greatest_43 : decode cX5_greatest 43 = .ok (.iaload, 1) := by decide +kernel
theorem dX5_greatest_44 : decode cX5_greatest 44 = .ok (.iload 4, 2) := by decide +kernel
theorem dX5_greatest_46 : decode cX5_greatest 46 = .ok (.if_icmp .le 22, 3) := by decide +kernel
theorem dX5_greatest_49 : decode cX5_greatest 49 = .ok (.aload_n 0, 1) := by decide +kernel
theorem dX5_greatest_50 : decode cX5_greatest 50 = .ok (.iload 5, 2) := by decide +kernel
theorem dX5_greatest_52 : decode cX5_greatest 52 = .ok (.aload_n 3, 1) := by decide +kernel
theorem dX5_greatest_53 : decode cX5_greatest 53 = .ok (.invokevirtual 42, 3) := by decide +kernel
theorem dX5_greatest_56 : decode cX5_greatest 56 = .ok (.ifCond .eq 12, 3) := by decide +kernel
theorem dX5_greatest_59 : decode cX5_greatest 59 = .ok (.aload_n 0, 1) := by decide +kernel
theorem dX5_greatest_60 : decode cX5_greatest 60 = .ok (.getfield 17, 3) := by decide +kernel
theorem dX5_greatest_63 : decode cX5_greatest 63 = .ok (.iload 5, 2) := by decide +kernel
theorem dX5_greatest_65 : decode cX5_greatest 65 = .ok (.iaload, 1) := by decide +kernel
theorem dX5_greatest_66 : decode cX5_greatest 66 = .ok (.istore 4, 2) := by decide +kernel
theorem dX5_greatest_68 : decode cX5_greatest 68 = .ok (.iinc 5 1, 3) := by decide +kernel
theorem dX5_greatest_71 : decode cX5_greatest 71 = .ok (.goto (-65), 3) := by decide +kernel
theorem dX5_greatest_74 : decode cX5_greatest 74 = .ok (.iload 4, 2) := by decide +kernel
theorem dX5_greatest_76 : decode cX5_greatest 76 = .ok (.ireturn, 1) := by decide +kernel
theorem dX5_fillRow_0 : decode cX5_fillRow 0 = .ok (.iconst 0, 1) := by decide +kernel
theorem dX5_fillRow_1 : decode cX5_fillRow 1 = .ok (.istore 4, 2) := by decide +kernel
theorem dX5_fillRow_3 : decode cX5_fillRow 3 = .ok (.iload 4, 2) := by decide +kernel
theorem dX5_fillRow_5 : decode cX5_fillRow 5 = .ok (.aload_n 1, 1) := by decide +kernel
theorem dX5_fillRow_6 : decode cX5_fillRow 6 = .ok (.arraylength, 1) := by decide +kernel
theorem dX5_fillRow_7 : decode cX5_fillRow 7 = .ok (.if_icmp .ge 14, 3) := by decide +kernel
theorem dX5_fillRow_10 : decode cX5_fillRow 10 = .ok (.aload_n 1, 1) := by decide +kernel
theorem dX5_fillRow_11 : decode cX5_fillRow 11 = .ok (.iload 4, 2) := by decide +kernel
theorem dX5_fillRow_13 : decode cX5_fillRow 13 = .ok (.iconst 0, 1) := by decide +kernel
theorem dX5_fillRow_14 : decode cX5_fillRow 14 = .ok (.iastore, 1) := by decide +kernel
theorem dX5_fillRow_15 : decode cX5_fillRow 15 = .ok (.iinc 4 1, 3) := by decide +kernel
theorem dX5_fillRow_18 : decode cX5_fillRow 18 = .ok (.goto (-15), 3) := by decide +kernel
theorem dX5_fillRow_21 : decode cX5_fillRow 21 = .ok (.iconst 0, 1) := by decide +kernel
theorem dX5_fillRow_22 : decode cX5_fillRow 22 = .ok (.istore 4, 2) := by decide +kernel
theorem dX5_fillRow_24 : decode cX5_fillRow 24 = .ok (.iload 4, 2) := by decide +kernel
theorem dX5_fillRow_26 : decode cX5_fillRow 26 = .ok (.aload_n 0, 1) := by decide +kernel
theorem dX5_fillRow_27 : decode cX5_fillRow 27 = .ok (.getfield 29, 3) := by decide +kernel
theorem dX5_fillRow_30 : decode cX5_fillRow 30 = .ok (.if_icmp .ge 82, 3) := by decide +kernel
theorem dX5_fillRow_33 : decode cX5_fillRow 33 = .ok (.aload_n 0, 1) := by decide +kernel
theorem dX5_fillRow_34 : decode cX5_fillRow 34 = .ok (.getfield 13, 3) := by decide +kernel
theorem dX5_fillRow_37 : decode cX5_fillRow 37 = .ok (.iload 4, 2) := by decide +kernel
theorem dX5_fillRow_39 : decode cX5_fillRow 39 = .ok (.iaload, 1) := by decide +kernel
theorem dX5_fillRow_40 : decode cX5_fillRow 40 = .ok (.iload_n 2, 1) := by decide +kernel
theorem dX5_fillRow_41 : decode cX5_fillRow 41 = .ok (.if_icmp .ne 65, 3) := by decide +kernel
theorem dX5_fillRow_44 : decode cX5_fillRow 44 = .ok (.aload_n 0, 1) := by decide +kernel
theorem dX5_fillRow_45 : decode cX5_fillRow 45 = .ok (.getfield 20, 3) := by decide +kernel
theorem dX5_fillRow_48 : decode cX5_fillRow 48 = .ok (.iload 4, 2) := by decide +kernel
theorem dX5_fillRow_50 : decode cX5_fillRow 50 = .ok (.iaload, 1) := by decide +kernel
theorem dX5_fillRow_51 : decode cX5_fillRow 51 = .ok (.aload_n 1, 1) := by decide +kernel
theorem dX5_fillRow_52 : decode cX5_fillRow 52 = .ok (.arraylength, 1) := by decide +kernel
theorem dX5_fillRow_53 : decode cX5_fillRow 53 = .ok (.iconst 1, 1) := by decide +kernel
theorem dX5_fillRow_54 : decode cX5_fillRow 54 = .ok (.isub, 1) := by decide +kernel
theorem dX5_fillRow_55 : decode cX5_fillRow 55 = .ok (.invokestatic 45, 3) := by decide +kernel
theorem dX5_fillRow_58 : decode cX5_fillRow 58 = .ok (.ifCond .eq 48, 3) := by decide +kernel
theorem dX5_fillRow_61 : decode cX5_fillRow 61 = .ok (.aload_n 0, 1) := by decide +kernel
theorem dX5_fillRow_62 : decode cX5_fillRow 62 = .ok (.getfield 17, 3) := by decide +kernel
theorem dX5_fillRow_65 : decode cX5_fillRow 65 = .ok (.iload 4, 2) := by decide +kernel
theorem dX5_fillRow_67 : decode cX5_fillRow 67 = .ok (.iaload, 1) := by decide +kernel
theorem dX5_fillRow_68 : decode cX5_fillRow 68 = .ok (.aload_n 1, 1) := by decide +kernel
theorem dX5_fillRow_69 : decode cX5_fillRow 69 = .ok (.aload_n 0, 1) := by decide +kernel
theorem dX5_fillRow_70 : decode cX5_fillRow 70 = .ok (.getfield 20, 3) := by decide +kernel
theorem dX5_fillRow_73 : decode cX5_fillRow 73 = .ok (.iload 4, 2) := by decide +kernel
theorem dX5_fillRow_75 : decode cX5_fillRow 75 = .ok (.iaload, 1) := by decide +kernel
theorem dX5_fillRow_76 : decode cX5_fillRow 76 = .ok (.iaload, 1) := by decide +kernel
theorem dX5_fillRow_77 : decode cX5_fillRow 77 = .ok (.if_icmp .le 29, 3) := by decide +kernel
theorem dX5_fillRow_80 : decode cX5_fillRow 80 = .ok (.aload_n 0, 1) := by decide +kernel
theorem dX5_fillRow_81 : decode cX5_fillRow 81 = .ok (.iload 4, 2) := by decide +kernel
theorem dX5_fillRow_83 : decode cX5_fillRow 83 = .ok (.aload_n 3, 1) := by decide +kernel
theorem dX5_fillRow_84 : decode cX5_fillRow 84 = .ok (.invokevirtual 42, 3) := by decide +kernel
theorem dX5_fillRow_87 : decode cX5_fillRow 87 = .ok (.ifCond .eq 19, 3) := by decide +kernel
theorem dX5_fillRow_90 : decode cX5_fillRow 90 = .ok (.aload_n 1, 1) := by decide +kernel
theorem dX5_fillRow_91 : decode cX5_fillRow 91 = .ok (.aload_n 0, 1) := by decide +kernel
theorem dX5_fillRow_92 : decode cX5_fillRow 92 = .ok (.getfield 20, 3) := by decide +kernel
theorem dX5_fillRow_95 : decode cX5_fillRow 95 = .ok (.iload 4, 2) := by decide +kernel
theorem dX5_fillRow_97 : decode cX5_fillRow 97 = .ok (.iaload, 1) := by decide +kernel
theorem dX5_fillRow_98 : decode cX5_fillRow 98 = .ok (.aload_n 0, 1) := by decide +kernel
theorem dX5_fillRow_99 : decode cX5_fillRow 99 = .ok (.getfield 17, 3) := by decide +kernel
theorem dX5_fillRow_102 : decode cX5_fillRow 102 = .ok (.iload 4, 2) := by decide +kernel
theorem dX5_fillRow_104 : decode cX5_fillRow 104 = .ok (.iaload, 1) := by decide +kernel
theorem dX5_fillRow_105 : decode cX5_fillRow 105 = .ok (.iastore, 1) := by decide +kernel
theorem dX5_fillRow_106 : decode cX5_fillRow 106 = .ok (.iinc 4 1, 3) := by decide +kernel
theorem dX5_fillRow_109 : decode cX5_fillRow 109 = .ok (.goto (-85), 3) := by decide +kernel
theorem dX5_fillRow_112 : decode cX5_fillRow 112 = .ok (.iconst 1, 1) := by decide +kernel
theorem dX5_fillRow_113 : decode cX5_fillRow 113 = .ok (.istore 4, 2) := by decide +kernel
theorem dX5_fillRow_115 : decode cX5_fillRow 115 = .ok (.iload 4, 2) := by decide +kernel
theorem dX5_fillRow_117 : decode cX5_fillRow 117 = .ok (.aload_n 1, 1) := by decide +kernel
theorem dX5_fillRow_118 : decode cX5_fillRow 118 = .ok (.arraylength, 1) := by decide +kernel
theorem dX5_fillRow_119 : decode cX5_fillRow 119 = .ok (.if_icmp .ge 26, 3) := by decide +kernel
theorem dX5_fillRow_122 : decode cX5_fillRow 122 = .ok (.aload_n 1, 1) := by decide +kernel
theorem dX5_fillRow_123 : decode cX5_fillRow 123 = .ok (.iload 4, 2) := by decide +kernel
theorem dX5_fillRow_125 : decode cX5_fillRow 125 = .ok (.aload_n 1, 1) := by decide +kernel
theorem dX5_fillRow_126 : decode cX5_fillRow 126 = .ok (.iload 4, 2) := by decide +kernel
theorem dX5_fillRow_128 : decode cX5_fillRow 128 = .ok (.iaload, 1) := by decide +kernel
theorem dX5_fillRow_129 : decode cX5_fillRow 129 = .ok (.aload_n 1, 1) := by decide +kernel
theorem dX5_fillRow_130 : decode cX5_fillRow 130 = .ok (.iload 4, 2) := by decide +kernel
theorem dX5_fillRow_132 : decode cX5_fillRow 132 = .ok (.iconst 1, 1) := by decide +kernel
theorem dX5_fillRow_133 : decode cX5_fillRow 133 = .ok (.isub, 1) := by decide +kernel
theorem dX5_fillRow_134 : decode cX5_fillRow 134 = .ok (.iaload, 1) := by decide +kernel
theorem dX5_fillRow_135 : decode cX5_fillRow 135 = .ok (.invokestatic 49, 3) := by decide +kernel
theorem dX5_fillRow_138 : decode cX5_fillRow 138 = .ok (.iastore, 1) := by decide +kernel
theorem dX5_fillRow_139 : decode cX5_fillRow 139 = .ok (.iinc 4 1, 3) := by decide +kernel
theorem dX5_fillRow_142 : decode cX5_fillRow 142 = .ok (.goto (-27), 3) := by decide +kernel
theorem dX5_fillRow_145 : decode cX5_fillRow 145 = .ok (.return_, 1) := by decide +kernel
theorem dX5_written_0 : decode cX5_written 0 = .ok (.aload_n 2, 1) := by decide +kernel
theorem dX5_written_1 : decode cX5_written 1 = .ok (.iconst 3, 1) := by decide +kernel
theorem dX5_written_2 : decode cX5_written 2 = .ok (.iload_n 1, 1) := by decide +kernel
theorem dX5_written_3 : decode cX5_written 3 = .ok (.iastore, 1) := by decide +kernel
theorem dX5_written_4 : decode cX5_written 4 = .ok (.iload_n 1, 1) := by decide +kernel
theorem dX5_written_5 : decode cX5_written 5 = .ok (.istore_n 3, 1) := by decide +kernel
theorem dX5_written_6 : decode cX5_written 6 = .ok (.iconst 0, 1) := by decide +kernel
theorem dX5_written_7 : decode cX5_written 7 = .ok (.istore 4, 2) := by decide +kernel
theorem dX5_written_9 : decode cX5_written 9 = .ok (.iload 4, 2) := by decide +kernel
theorem dX5_written_11 : decode cX5_written 11 = .ok (.aload_n 0, 1) := by decide +kernel
theorem dX5_written_12 : decode cX5_written 12 = .ok (.getfield 29, 3) := by decide +kernel
theorem dX5_written_15 : decode cX5_written 15 = .ok (.if_icmp .ge 68, 3) := by decide +kernel
theorem dX5_written_18 : decode cX5_written 18 = .ok (.aload_n 0, 1) := by decide +kernel
theorem dX5_written_19 : decode cX5_written 19 = .ok (.getfield 13, 3) := by decide +kernel
theorem dX5_written_22 : decode cX5_written 22 = .ok (.iload 4, 2) := by decide +kernel
theorem dX5_written_24 : decode cX5_written 24 = .ok (.iaload, 1) := by decide +kernel
theorem dX5_written_25 : decode cX5_written 25 = .ok (.iconst 2, 1) := by decide +kernel
theorem dX5_written_26 : decode cX5_written 26 = .ok (.if_icmp .eq 51, 3) := by decide +kernel
theorem dX5_written_29 : decode cX5_written 29 = .ok (.aload_n 0, 1) := by decide +kernel
theorem dX5_written_30 : decode cX5_written 30 = .ok (.iload 4, 2) := by decide +kernel
theorem dX5_written_32 : decode cX5_written 32 = .ok (.aload_n 2, 1) := by decide +kernel
theorem dX5_written_33 : decode cX5_written 33 = .ok (.invokevirtual 42, 3) := by decide +kernel
theorem dX5_written_36 : decode cX5_written 36 = .ok (.ifCond .eq 41, 3) := by decide +kernel
theorem dX5_written_39 : decode cX5_written 39 = .ok (.aload_n 0, 1) := by decide +kernel
theorem dX5_written_40 : decode cX5_written 40 = .ok (.getfield 13, 3) := by decide +kernel
theorem dX5_written_43 : decode cX5_written 43 = .ok (.iload 4, 2) := by decide +kernel
theorem dX5_written_45 : decode cX5_written 45 = .ok (.iaload, 1) := by decide +kernel
theorem dX5_written_46 : decode cX5_written 46 = .ok (.ifCond .ne 15, 3) := by decide +kernel
theorem dX5_written_49 : decode cX5_written 49 = .ok (.iload_n 1, 1) := by decide +kernel
theorem dX5_written_50 : decode cX5_written 50 = .ok (.aload_n 0, 1) := by decide +kernel
theorem dX5_written_51 : decode cX5_written 51 = .ok (.getfield 17, 3) := by decide +kernel
theorem dX5_written_54 : decode cX5_written 54 = .ok (.iload 4, 2) := by decide +kernel
theorem dX5_written_56 : decode cX5_written 56 = .ok (.iaload, 1) := by decide +kernel
theorem dX5_written_57 : decode cX5_written 57 = .ok (.iadd, 1) := by decide +kernel
theorem dX5_written_58 : decode cX5_written 58 = .ok (.goto 12, 3) := by decide +kernel
theorem dX5_written_61 : decode cX5_written 61 = .ok (.iload_n 1, 1) := by decide +kernel
theorem dX5_written_62 : decode cX5_written 62 = .ok (.aload_n 0, 1) := by decide +kernel
theorem dX5_written_63 : decode cX5_written 63 = .ok (.getfield 17, 3) := by decide +kernel
theorem dX5_written_66 : decode cX5_written 66 = .ok (.iload 4, 2) := by decide +kernel
theorem dX5_written_68 : decode cX5_written 68 = .ok (.iaload, 1) := by decide +kernel
theorem dX5_written_69 : decode cX5_written 69 = .ok (.isub, 1) := by decide +kernel
theorem dX5_written_70 : decode cX5_written 70 = .ok (.invokestatic 55, 3) := by decide +kernel
theorem dX5_written_73 : decode cX5_written 73 = .ok (.istore_n 3, 1) := by decide +kernel
theorem dX5_written_74 : decode cX5_written 74 = .ok (.goto 9, 3) := by decide +kernel
theorem dX5_written_77 : decode cX5_written 77 = .ok (.iinc 4 1, 3) := by decide +kernel
theorem dX5_written_80 : decode cX5_written 80 = .ok (.goto (-71), 3) := by decide +kernel
theorem dX5_written_83 : decode cX5_written 83 = .ok (.iconst 0, 1) := by decide +kernel
theorem dX5_written_84 : decode cX5_written 84 = .ok (.istore 4, 2) := by decide +kernel
theorem dX5_written_86 : decode cX5_written 86 = .ok (.iload 4, 2) := by decide +kernel
theorem dX5_written_88 : decode cX5_written 88 = .ok (.aload_n 0, 1) := by decide +kernel
theorem dX5_written_89 : decode cX5_written 89 = .ok (.getfield 29, 3) := by decide +kernel
theorem dX5_written_92 : decode cX5_written 92 = .ok (.if_icmp .ge 39, 3) := by decide +kernel
theorem dX5_written_95 : decode cX5_written 95 = .ok (.aload_n 0, 1) := by decide +kernel
theorem dX5_written_96 : decode cX5_written 96 = .ok (.getfield 13, 3) := by decide +kernel
theorem dX5_written_99 : decode cX5_written 99 = .ok (.iload 4, 2) := by decide +kernel
theorem dX5_written_101 : decode cX5_written 101 = .ok (.iaload, 1) := by decide +kernel
theorem dX5_written_102 : decode cX5_written 102 = .ok (.iconst 2, 1) := by decide +kernel
theorem dX5_written_103 : decode cX5_written 103 = .ok (.if_icmp .ne 22, 3) := by decide +kernel
theorem dX5_written_106 : decode cX5_written 106 = .ok (.aload_n 0, 1) := by decide +kernel
theorem dX5_written_107 : decode cX5_written 107 = .ok (.getfield 20, 3) := by decide +kernel
theorem dX5_written_110 : decode cX5_written 110 = .ok (.iload 4, 2) := by decide +kernel
theorem dX5_written_112 : decode cX5_written 112 = .ok (.iaload, 1) := by decide +kernel
theorem dX5_written_113 : decode cX5_written 113 = .ok (.iload_n 3, 1) := by decide +kernel
theorem dX5_written_114 : decode cX5_written 114 = .ok (.if_icmp .ne 11, 3) := by decide +kernel
theorem dX5_written_117 : decode cX5_written 117 = .ok (.aload_n 0, 1) := by decide +kernel
theorem dX5_written_118 : decode cX5_written 118 = .ok (.getfield 17, 3) := by decide +kernel
theorem dX5_written_121 : decode cX5_written 121 = .ok (.iload 4, 2) := by decide +kernel
theorem dX5_written_123 : decode cX5_written 123 = .ok (.iaload, 1) := by decide +kernel
theorem dX5_written_124 : decode cX5_written 124 = .ok (.ireturn, 1) := by decide +kernel
theorem dX5_written_125 : decode cX5_written 125 = .ok (.iinc 4 1, 3) := by decide +kernel
theorem dX5_written_128 : decode cX5_written 128 = .ok (.goto (-42), 3) := by decide +kernel
theorem dX5_written_131 : decode cX5_written 131 = .ok (.iload_n 3, 1) := by decide +kernel
theorem dX5_written_132 : decode cX5_written 132 = .ok (.ireturn, 1) := by decide +kernel
theorem dX6_init_0 : decode cX6_init 0 = .ok (.aload_n 0, 1) := by decide +kernel
theorem dX6_init_1 : decode cX6_init 1 = .ok (.invokespecial 3, 3) := by decide +kernel
theorem dX6_init_4 : decode cX6_init 4 = .ok (.aload_n 0, 1) := by decide +kernel
theorem dX6_init_5 : decode cX6_init 5 = .ok (.bipush 8, 2) := by decide +kernel
theorem dX6_init_7 : decode cX6_init 7 = .ok (.anewarray 9, 3) := by decide +kernel
theorem dX6_init_10 : decode cX6_init 10 = .ok (.putfield 11, 3) := by decide +kernel
theorem dX6_init_13 : decode cX6_init 13 = .ok (.aload_n 0, 1) := by decide +kernel
theorem dX6_init_14 : decode cX6_init 14 = .ok (.bipush 8, 2) := by decide +kernel
theorem dX6_init_16 : decode cX6_init 16 = .ok (.newarray .int, 2) := by decide +kernel
theorem dX6_init_18 : decode cX6_init 18 = .ok (.putfield 17, 3) := by decide +kernel
theorem dX6_init_21 : decode cX6_init 21 = .ok (.aload_n 0, 1) := by decide +kernel
theorem dX6_init_22 : decode cX6_init 22 = .ok (.iconst 5, 1) := by decide +kernel
theorem dX6_init_23 : decode cX6_init 23 = .ok (.newarray .int, 2) := by decide +kernel
theorem dX6_init_25 : decode cX6_init 25 = .ok (.putfield 21, 3) := by decide +kernel
theorem dX6_init_28 : decode cX6_init 28 = .ok (.aload_n 0, 1) := by decide +kernel
theorem dX6_init_29 : decode cX6_init 29 = .ok (.bipush 100, 2) := by decide +kernel
theorem dX6_init_31 : decode cX6_init 31 = .ok (.newarray .int, 2) := by decide +kernel
theorem dX6_init_33 : decode cX6_init 33 = .ok (.putfield 24, 3) := by decide +kernel
theorem dX6_init_36 : decode cX6_init 36 = .ok (.aload_n 0, 1) := by decide +kernel
theorem dX6_init_37 : decode cX6_init 37 = .ok (.bipush 100, 2) := by decide +kernel
theorem dX6_init_39 : decode cX6_init 39 = .ok (.newarray .int, 2) := by decide +kernel
theorem dX6_init_41 : decode cX6_init 41 = .ok (.putfield 27, 3) := by decide +kernel
theorem dX6_init_44 : decode cX6_init 44 = .ok (.aload_n 0, 1) := by decide +kernel
theorem dX6_init_45 : decode cX6_init 45 = .ok (.bipush 13, 2) := by decide +kernel
theorem dX6_init_47 : decode cX6_init 47 = .ok (.newarray .int, 2) := by decide +kernel
theorem dX6_init_49 : decode cX6_init 49 = .ok (.putfield 30, 3) := by decide +kernel
theorem dX6_init_52 : decode cX6_init 52 = .ok (.aload_n 0, 1) := by decide +kernel
theorem dX6_init_53 : decode cX6_init 53 = .ok (.iconst 4, 1) := by decide +kernel
theorem dX6_init_54 : decode cX6_init 54 = .ok (.newarray .int, 2) := by decide +kernel
theorem dX6_init_56 : decode cX6_init 56 = .ok (.putfield 33, 3) := by decide +kernel
theorem dX6_init_59 : decode cX6_init 59 = .ok (.aload_n 0, 1) := by decide +kernel
theorem dX6_init_60 : decode cX6_init 60 = .ok (.iconst 0, 1) := by decide +kernel
theorem dX6_init_61 : decode cX6_init 61 = .ok (.putfield 36, 3) := by decide +kernel
theorem dX6_init_64 : decode cX6_init 64 = .ok (.return_, 1) := by decide +kernel
theorem dX6_add_0 : decode cX6_add 0 = .ok (.aload_n 0, 1) := by decide +kernel
theorem dX6_add_1 : decode cX6_add 1 = .ok (.getfield 36, 3) := by decide +kernel
theorem dX6_add_4 : decode cX6_add 4 = .ok (.bipush 8, 2) := by decide +kernel
theorem dX6_add_6 : decode cX6_add 6 = .ok (.if_icmp .lt 5, 3) := by decide +kernel
theorem dX6_add_9 : decode cX6_add 9 = .ok (.iconst (-1), 1) := by decide +kernel
theorem dX6_add_10 : decode cX6_add 10 = .ok (.ireturn, 1) := by decide +kernel
theorem dX6_add_11 : decode cX6_add 11 = .ok (.aload_n 0, 1) := by decide +kernel
theorem dX6_add_12 : decode cX6_add 12 = .ok (.getfield 11, 3) := by decide +kernel
theorem dX6_add_15 : decode cX6_add 15 = .ok (.aload_n 0, 1) := by decide +kernel
theorem dX6_add_16 : decode cX6_add 16 = .ok (.getfield 36, 3) := by decide +kernel
theorem dX6_add_19 : decode cX6_add 19 = .ok (.aload_n 1, 1) := by decide +kernel
theorem dX6_add_20 : decode cX6_add 20 = .ok (.aastore, 1) := by decide +kernel
theorem dX6_add_21 : decode cX6_add 21 = .ok (.aload_n 0, 1) := by decide +kernel
theorem dX6_add_22 : decode cX6_add 22 = .ok (.getfield 17, 3) := by decide +kernel
theorem dX6_add_25 : decode cX6_add 25 = .ok (.aload_n 0, 1) := by decide +kernel
theorem dX6_add_26 : decode cX6_add 26 = .ok (.getfield 36, 3) := by decide +kernel
theorem dX6_add_29 : decode cX6_add 29 = .ok (.iload_n 2, 1) := by decide +kernel
theorem dX6_add_30 : decode cX6_add 30 = .ok (.iastore, 1) := by decide +kernel
theorem dX6_add_31 : decode cX6_add 31 = .ok (.aload_n 0, 1) := by decide +kernel
theorem dX6_add_32 : decode cX6_add 32 = .ok (.dup, 1) := by decide +kernel
theorem dX6_add_33 : decode cX6_add 33 = .ok (.getfield 36, 3) := by decide +kernel
theorem dX6_add_36 : decode cX6_add 36 = .ok (.iconst 1, 1) := by decide +kernel
theorem dX6_add_37 : decode cX6_add 37 = .ok (.iadd, 1) := by decide +kernel
theorem dX6_add_38 : decode cX6_add 38 = .ok (.putfield 36, 3) := by decide +kernel
theorem dX6_add_41 : decode cX6_add 41 = .ok (.aload_n 0, 1) := by decide +kernel
theorem dX6_add_42 : decode cX6_add 42 = .ok (.getfield 36, 3) := by decide +kernel
theorem dX6_add_45 : decode cX6_add 45 = .ok (.iconst 1, 1) := by decide +kernel
theorem dX6_add_46 : decode cX6_add 46 = .ok (.isub, 1) := by decide +kernel
theorem dX6_add_47 : decode cX6_add 47 = .ok (.ireturn, 1) := by decide +kernel
theorem dX6_ofYear_0 : decode cX6_ofYear 0 = .ok (.iconst (-1), 1) := by decide +kernel
theorem dX6_ofYear_1 : decode cX6_ofYear 1 = .ok (.istore_n 2, 1) := by decide +kernel
theorem dX6_ofYear_2 : decode cX6_ofYear 2 = .ok (.iconst 0, 1) := by decide +kernel
theorem dX6_ofYear_3 : decode cX6_ofYear 3 = .ok (.istore_n 3, 1) := by decide +kernel
theorem dX6_ofYear_4 : decode cX6_ofYear 4 = .ok (.iload_n 3, 1) := by decide +kernel
theorem dX6_ofYear_5 : decode cX6_ofYear 5 = .ok (.aload_n 0, 1) := by decide +kernel
theorem dX6_ofYear_6 : decode cX6_ofYear 6 = .ok (.getfield 36, 3) := by decide +kernel
theorem dX6_ofYear_9 : decode cX6_ofYear 9 = .ok (.if_icmp .ge 41, 3) := by decide +kernel
theorem dX6_ofYear_12 : decode cX6_ofYear 12 = .ok (.aload_n 0, 1) := by decide +kernel
theorem dX6_ofYear_13 : decode cX6_ofYear 13 = .ok (.getfield 17, 3) := by decide +kernel
theorem dX6_ofYear_16 : decode cX6_ofYear 16 = .ok (.iload_n 3, 1) := by decide +kernel
theorem dX6_ofYear_17 : decode cX6_ofYear 17 = .ok (.iaload, 1) := by decide +kernel
theorem dX6_ofYear_18 : decode cX6_ofYear 18 = .ok (.iload_n 1, 1) := by decide +kernel
theorem dX6_ofYear_19 : decode cX6_ofYear 19 = .ok (.if_icmp .gt 25, 3) := by decide +kernel
theorem dX6_ofYear_22 : decode cX6_ofYear 22 = .ok (.iload_n 2, 1) := by decide +kernel
theorem dX6_ofYear_23 : decode cX6_ofYear 23 = .ok (.iconst (-1), 1) := by decide +kernel
theorem dX6_ofYear_24 : decode cX6_ofYear 24 = .ok (.if_icmp .eq 18, 3) := by decide +kernel
theorem dX6_ofYear_27 : decode cX6_ofYear 27 = .ok (.aload_n 0, 1) := by decide +kernel
theorem dX6_ofYear_28 : decode cX6_ofYear 28 = .ok (.getfield 17, 3) := by decide +kernel
theorem dX6_ofYear_31 : decode cX6_ofYear 31 = .ok (.iload_n 3, 1) := by decide +kernel
theorem dX6_ofYear_32 : decode cX6_ofYear 32 = .ok (.iaload, 1) := by decide +kernel
theorem dX6_ofYear_33 : decode cX6_ofYear 33 = .ok (.aload_n 0, 1) := by decide +kernel
theorem dX6_ofYear_34 : decode cX6_ofYear 34 = .ok (.getfield 17, 3) := by decide +kernel
theorem dX6_ofYear_37 : decode cX6_ofYear 37 = .ok (.iload_n 2, 1) := by decide +kernel
theorem dX6_ofYear_38 : decode cX6_ofYear 38 = .ok (.iaload, 1) := by decide +kernel
theorem dX6_ofYear_39 : decode cX6_ofYear 39 = .ok (.if_icmp .lt 5, 3) := by decide +kernel
theorem dX6_ofYear_42 : decode cX6_ofYear 42 = .ok (.iload_n 3, 1) := by decide +kernel
theorem dX6_ofYear_43 : decode cX6_ofYear 43 = .ok (.istore_n 2, 1) := by decide +kernel
theorem dX6_ofYear_44 : decode cX6_ofYear 44 = .ok (.iinc 3 1, 3) := by decide +kernel
theorem dX6_ofYear_47 : decode cX6_ofYear 47 = .ok (.goto (-43), 3) := by decide +kernel
theorem dX6_ofYear_50 : decode cX6_ofYear 50 = .ok (.iload_n 2, 1) := by decide +kernel
theorem dX6_ofYear_51 : decode cX6_ofYear 51 = .ok (.ireturn, 1) := by decide +kernel
theorem dX6_rulesOf_0 : decode cX6_rulesOf 0 = .ok (.iload_n 1, 1) := by decide +kernel
theorem dX6_rulesOf_1 : decode cX6_rulesOf 1 = .ok (.aload_n 0, 1) := by decide +kernel
theorem dX6_rulesOf_2 : decode cX6_rulesOf 2 = .ok (.getfield 36, 3) := by decide +kernel
theorem dX6_rulesOf_5 : decode cX6_rulesOf 5 = .ok (.iconst 1, 1) := by decide +kernel
theorem dX6_rulesOf_6 : decode cX6_rulesOf 6 = .ok (.isub, 1) := by decide +kernel
theorem dX6_rulesOf_7 : decode cX6_rulesOf 7 = .ok (.invokestatic 40, 3) := by decide +kernel
theorem dX6_rulesOf_10 : decode cX6_rulesOf 10 = .ok (.ifCond .eq 12, 3) := by decide +kernel
theorem dX6_rulesOf_13 : decode cX6_rulesOf 13 = .ok (.aload_n 0, 1) := by decide +kernel
theorem dX6_rulesOf_14 : decode cX6_rulesOf 14 = .ok (.getfield 11, 3) := by decide +kernel
theorem dX6_rulesOf_17 : decode cX6_rulesOf 17 = .ok (.iload_n 1, 1) := by decide +kernel
theorem dX6_rulesOf_18 : decode cX6_rulesOf 18 = .ok (.aaload, 1) := by decide +kernel
theorem dX6_rulesOf_19 : decode cX6_rulesOf 19 = .ok (.goto 4, 3) := by decide +kernel
theorem dX6_rulesOf_22 : decode cX6_rulesOf 22 = .ok (.aconst_null, 1) := by decide +kernel
theorem dX6_rulesOf_23 : decode cX6_rulesOf 23 = .ok (.areturn, 1) := by decide +kernel
theorem dX6_ask_0 : decode cX6_ask 0 = .ok (.aload_n 0, 1) := by decide +kernel
theorem dX6_ask_1 : decode cX6_ask 1 = .ok (.getfield 21, 3) := by decide +kernel
theorem dX6_ask_4 : decode cX6_ask 4 = .ok (.iconst 0, 1) := by decide +kernel
theorem dX6_ask_5 : decode cX6_ask 5 = .ok (.iload_n 1, 1) := by decide +kernel
theorem dX6_ask_6 : decode cX6_ask 6 = .ok (.bipush 10, 2) := by decide +kernel
theorem dX6_ask_8 : decode cX6_ask 8 = .ok (.idiv, 1) := by decide +kernel
theorem dX6_ask_9 : decode cX6_ask 9 = .ok (.iastore, 1) := by decide +kernel
theorem dX6_ask_10 : decode cX6_ask 10 = .ok (.aload_n 0, 1) := by decide +kernel
theorem dX6_ask_11 : decode cX6_ask 11 = .ok (.getfield 21, 3) := by decide +kernel
theorem dX6_ask_14 : decode cX6_ask 14 = .ok (.iconst 1, 1) := by decide +kernel
theorem dX6_ask_15 : decode cX6_ask 15 = .ok (.iload_n 1, 1) := by decide +kernel
theorem dX6_ask_16 : decode cX6_ask 16 = .ok (.bipush 10, 2) := by decide +kernel
theorem dX6_ask_18 : decode cX6_ask 18 = .ok (.irem, 1) := by decide +kernel
theorem dX6_ask_19 : decode cX6_ask 19 = .ok (.iastore, 1) := by decide +kernel
theorem dX6_ask_20 : decode cX6_ask 20 = .ok (.aload_n 0, 1) := by decide +kernel
theorem dX6_ask_21 : decode cX6_ask 21 = .ok (.getfield 21, 3) := by decide +kernel
theorem dX6_ask_24 : decode cX6_ask 24 = .ok (.iconst 2, 1) := by decide +kernel
theorem dX6_ask_25 : decode cX6_ask 25 = .ok (.iload_n 2, 1) := by decide +kernel
theorem dX6_ask_26 : decode cX6_ask 26 = .ok (.iastore, 1) := by decide +kernel
theorem dX6_ask_27 : decode cX6_ask 27 = .ok (.return_, 1) := by decide +kernel
theorem dX6_numberFor_0 : decode cX6_numberFor 0 = .ok (.aload_n 0, 1) := by decide +kernel
theorem dX6_numberFor_1 : decode cX6_numberFor 1 = .ok (.iload_n 1, 1) := by decide +kernel
theorem dX6_numberFor_2 : decode cX6_numberFor 2 = .ok (.invokevirtual 44, 3) := by decide +kernel
theorem dX6_numberFor_5 : decode cX6_numberFor 5 = .ok (.astore 6, 2) := by decide +kernel
theorem dX6_numberFor_7 : decode cX6_numberFor 7 = .ok (.aload 6, 2) := by decide +kernel
theorem dX6_numberFor_9 : decode cX6_numberFor 9 = .ok (.ifnonnull 13, 3) := by decide +kernel
theorem dX6_numberFor_12 : decode cX6_numberFor 12 = .ok (.bipush 12, 2) := by decide +kernel
theorem dX6_numberFor_14 : decode cX6_numberFor 14 = .ok (.iload_n 3, 1) := by decide +kernel
theorem dX6_numberFor_15 : decode cX6_numberFor 15 = .ok (.bipush 8, 2) := by decide +kernel
theorem dX6_numberFor_17 : decode cX6_numberFor 17 = .ok (.idiv, 1) := by decide +kernel
theorem dX6_numberFor_18 : decode cX6_numberFor 18 = .ok (.invokestatic 48, 3) := by decide +kernel
theorem dX6_numberFor_21 : decode cX6_numberFor 21 = .ok (.ireturn, 1) := by decide +kernel
theorem dX6_numberFor_22 : decode cX6_numberFor 22 = .ok (.aload_n 0, 1) := by decide +kernel
theorem dX6_numberFor_23 : decode cX6_numberFor 23 = .ok (.iload 4, 2) := by decide +kernel
theorem dX6_numberFor_25 : decode cX6_numberFor 25 = .ok (.iload 5, 2) := by decide +kernel
theorem dX6_numberFor_27 : decode cX6_numberFor 27 = .ok (.invokevirtual 54, 3) := by decide +kernel
theorem dX6_numberFor_30 : decode cX6_numberFor 30 = .ok (.aload 6, 2) := by decide +kernel
theorem dX6_numberFor_32 : decode cX6_numberFor 32 = .ok (.iload_n 2, 1) := by decide +kernel
theorem dX6_numberFor_33 : decode cX6_numberFor 33 = .ok (.iload_n 3, 1) := by decide +kernel
theorem dX6_numberFor_34 : decode cX6_numberFor 34 = .ok (.aload_n 0, 1) := by decide +kernel
theorem dX6_numberFor_35 : decode cX6_numberFor 35 = .ok (.getfield 21, 3) := by decide +kernel
theorem dX6_numberFor_38 : decode cX6_numberFor 38 = .ok (.invokevirtual 58, 3) := by decide +kernel
theorem dX6_numberFor_41 : decode cX6_numberFor 41 = .ok (.ireturn, 1) := by decide +kernel
theorem dX6_fillRow_0 : decode cX6_fillRow 0 = .ok (.aload_n 0, 1) := by decide +kernel
theorem dX6_fillRow_1 : decode cX6_fillRow 1 = .ok (.iload_n 2, 1) := by decide +kernel
theorem dX6_fillRow_2 : decode cX6_fillRow 2 = .ok (.invokevirtual 44, 3) := by decide +kernel
theorem dX6_fillRow_5 : decode cX6_fillRow 5 = .ok (.astore 6, 2) := by decide +kernel
theorem dX6_fillRow_7 : decode cX6_fillRow 7 = .ok (.aload 6, 2) := by decide +kernel
theorem dX6_fillRow_9 : decode cX6_fillRow 9 = .ok (.ifnonnull 34, 3) := by decide +kernel
theorem dX6_fillRow_12 : decode cX6_fillRow 12 = .ok (.iconst 0, 1) := by decide +kernel
theorem dX6_fillRow_13 : decode cX6_fillRow 13 = .ok (.istore 7, 2) := by decide +kernel
theorem dX6_fillRow_15 : decode cX6_fillRow 15 = .ok (.iload 7, 2) := by decide +kernel
theorem dX6_fillRow_17 : decode cX6_fillRow 17 = .ok (.aload_n 1, 1) := by decide +kernel
theorem dX6_fillRow_18 : decode cX6_fillRow 18 = .ok (.arraylength, 1) := by decide +kernel
theorem dX6_fillRow_19 : decode cX6_fillRow 19 = .ok (.if_icmp .ge 23, 3) := by decide +kernel
theorem dX6_fillRow_22 : decode cX6_fillRow 22 = .ok (.aload_n 1, 1) := by decide +kernel
theorem dX6_fillRow_23 : decode cX6_fillRow 23 = .ok (.iload 7, 2) := by decide +kernel
theorem dX6_fillRow_25 : decode cX6_fillRow 25 = .ok (.bipush 12, 2) := by decide +kernel
theorem dX6_fillRow_27 : decode cX6_fillRow 27 = .ok (.iload 7, 2) := by decide +kernel
theorem dX6_fillRow_29 : decode cX6_fillRow 29 = .ok (.bipush 8, 2) := by decide +kernel
theorem dX6_fillRow_31 : decode cX6_fillRow 31 = .ok (.idiv, 1) := by decide +kernel
theorem dX6_fillRow_32 : decode cX6_fillRow 32 = .ok (.invokestatic 48, 3) := by decide +kernel
theorem dX6_fillRow_35 : decode cX6_fillRow 35 = .ok (.iastore, 1) := by decide +kernel
theorem dX6_fillRow_36 : decode cX6_fillRow 36 = .ok (.iinc 7 1, 3) := by decide +kernel
theorem dX6_fillRow_39 : decode cX6_fillRow 39 = .ok (.goto (-24), 3) := by decide +kernel
theorem dX6_fillRow_42 : decode cX6_fillRow 42 = .ok (.return_, 1) := by decide +kernel
theorem dX6_fillRow_43 : decode cX6_fillRow 43 = .ok (.aload_n 0, 1) := by decide +kernel
theorem dX6_fillRow_44 : decode cX6_fillRow 44 = .ok (.iload 4, 2) := by decide +kernel
theorem dX6_fillRow_46 : decode cX6_fillRow 46 = .ok (.iload 5, 2) := by decide +kernel
theorem dX6_fillRow_48 : decode cX6_fillRow 48 = .ok (.invokevirtual 54, 3) := by decide +kernel
theorem dX6_fillRow_51 : decode cX6_fillRow 51 = .ok (.aload 6, 2) := by decide +kernel
theorem dX6_fillRow_53 : decode cX6_fillRow 53 = .ok (.aload_n 1, 1) := by decide +kernel
theorem dX6_fillRow_54 : decode cX6_fillRow 54 = .ok (.iload_n 3, 1) := by decide +kernel
theorem dX6_fillRow_55 : decode cX6_fillRow 55 = .ok (.aload_n 0, 1) := by decide +kernel
theorem dX6_fillRow_56 : decode cX6_fillRow 56 = .ok (.getfield 21, 3) := by decide +kernel
theorem dX6_fillRow_59 : decode cX6_fillRow 59 = .ok (.invokevirtual 62, 3) := by decide +kernel
theorem dX6_fillRow_62 : decode cX6_fillRow 62 = .ok (.return_, 1) := by decide +kernel
theorem dX6_turnInto_0 : decode cX6_turnInto 0 = .ok (.aload_n 0, 1) := by decide +kernel
theorem dX6_turnInto_1 : decode cX6_turnInto 1 = .ok (.aload_n 0, 1) := by decide +kernel
theorem dX6_turnInto_2 : decode cX6_turnInto 2 = .ok (.getfield 24, 3) := by decide +kernel
theorem dX6_turnInto_5 : decode cX6_turnInto 5 = .ok (.aload_n 0, 1) := by decide +kernel
theorem dX6_turnInto_6 : decode cX6_turnInto 6 = .ok (.iload 4, 2) := by decide +kernel
theorem dX6_turnInto_8 : decode cX6_turnInto 8 = .ok (.invokevirtual 66, 3) := by decide +kernel
theorem dX6_turnInto_11 : decode cX6_turnInto 11 = .ok (.iload_n 3, 1) := by decide +kernel
theorem dX6_turnInto_12 : decode cX6_turnInto 12 = .ok (.iconst 0, 1) := by decide +kernel
theorem dX6_turnInto_13 : decode cX6_turnInto 13 = .ok (.iload 4, 2) := by decide +kernel
theorem dX6_turnInto_15 : decode cX6_turnInto 15 = .ok (.invokevirtual 70, 3) := by decide +kernel
theorem dX6_turnInto_18 : decode cX6_turnInto 18 = .ok (.aload_n 0, 1) := by decide +kernel
theorem dX6_turnInto_19 : decode cX6_turnInto 19 = .ok (.aload_n 0, 1) := by decide +kernel
theorem dX6_turnInto_20 : decode cX6_turnInto 20 = .ok (.getfield 27, 3) := by decide +kernel
theorem dX6_turnInto_23 : decode cX6_turnInto 23 = .ok (.iload_n 1, 1) := by decide +kernel
theorem dX6_turnInto_24 : decode cX6_turnInto 24 = .ok (.iload_n 3, 1) := by decide +kernel
theorem dX6_turnInto_25 : decode cX6_turnInto 25 = .ok (.iconst 0, 1) := by decide +kernel
theorem dX6_turnInto_26 : decode cX6_turnInto 26 = .ok (.iload_n 2, 1) := by decide +kernel
theorem dX6_turnInto_27 : decode cX6_turnInto 27 = .ok (.invokevirtual 70, 3) := by decide +kernel
theorem dX6_turnInto_30 : decode cX6_turnInto 30 = .ok (.iconst 0, 1) := by decide +kernel
theorem dX6_turnInto_31 : decode cX6_turnInto 31 = .ok (.istore 6, 2) := by decide +kernel
theorem dX6_turnInto_33 : decode cX6_turnInto 33 = .ok (.iload 6, 2) := by decide +kernel
theorem dX6_turnInto_35 : decode cX6_turnInto 35 = .ok (.aload_n 0, 1) := by decide +kernel
theorem dX6_turnInto_36 : decode cX6_turnInto 36 = .ok (.getfield 30, 3) := by decide +kernel
theorem dX6_turnInto_39 : decode cX6_turnInto 39 = .ok (.arraylength, 1) := by decide +kernel
theorem dX6_turnInto_40 : decode cX6_turnInto 40 = .ok (.if_icmp .ge 17, 3) := by decide +kernel
theorem dX6_turnInto_43 : decode cX6_turnInto 43 = .ok (.aload_n 0, 1) := by decide +kernel
theorem dX6_turnInto_44 : decode cX6_turnInto 44 = .ok (.getfield 30, 3) := by decide +kernel
theorem dX6_turnInto_47 : decode cX6_turnInto 47 = .ok (.iload 6, 2) := by decide +kernel
theorem dX6_turnInto_49 : decode cX6_turnInto 49 = .ok (.iconst 0, 1) := by decide +kernel
theorem dX6_turnInto_50 : decode cX6_turnInto 50 = .ok (.iastore, 1) := by decide +kernel
theorem dX6_turnInto_51 : decode cX6_turnInto 51 = .ok (.iinc 6 1, 3) := by decide +kernel
theorem dX6_turnInto_54 : decode cX6_turnInto 54 = .ok (.goto (-21), 3) := by decide +kernel
theorem dX6_turnInto_57 : decode cX6_turnInto 57 = .ok (.iconst 0, 1) := by decide +kernel
theorem dX6_turnInto_58 : decode cX6_turnInto 58 = .ok (.istore 6, 2) := by decide +kernel
theorem dX6_turnInto_60 : decode cX6_turnInto 60 = .ok (.iconst 0, 1) := by decide +kernel
theorem dX6_turnInto_61 : decode cX6_turnInto 61 = .ok (.istore 7, 2) := by decide +kernel
theorem dX6_turnInto_63 : decode cX6_turnInto 63 = .ok (.iload 7, 2) := by decide +kernel
theorem dX6_turnInto_65 : decode cX6_turnInto 65 = .ok (.bipush 100, 2) := by decide +kernel
theorem dX6_turnInto_67 : decode cX6_turnInto 67 = .ok (.if_icmp .ge 55, 3) := by decide +kernel
theorem dX6_turnInto_70 : decode cX6_turnInto 70 = .ok (.aload_n 0, 1) := by decide +kernel
theorem dX6_turnInto_71 : decode cX6_turnInto 71 = .ok (.getfield 24, 3) := by decide +kernel
theorem dX6_turnInto_74 : decode cX6_turnInto 74 = .ok (.iload 7, 2) := by decide +kernel
theorem dX6_turnInto_76 : decode cX6_turnInto 76 = .ok (.iaload, 1) := by decide +kernel
theorem dX6_turnInto_77 : decode cX6_turnInto 77 = .ok (.iload 5, 2) := by decide +kernel
theorem dX6_turnInto_79 : decode cX6_turnInto 79 = .ok (.if_icmp .ne 37, 3) := by decide +kernel
theorem dX6_turnInto_82 : decode cX6_turnInto 82 = .ok (.aload_n 0, 1) := by decide +kernel
theorem dX6_turnInto_83 : decode cX6_turnInto 83 = .ok (.getfield 27, 3) := by decide +kernel
theorem dX6_turnInto_86 : decode cX6_turnInto 86 = .ok (.iload 7, 2) := by decide +kernel
theorem dX6_turnInto_88 : decode cX6_turnInto 88 = .ok (.iaload, 1) := by decide +kernel
theorem dX6_turnInto_89 : decode cX6_turnInto 89 = .ok (.bipush 12, 2) := by decide +kernel
theorem dX6_turnInto_91 : decode cX6_turnInto 91 = .ok (.invokestatic 40, 3) := by decide +kernel
theorem dX6_turnInto_94 : decode cX6_turnInto 94 = .ok (.ifCond .eq 22, 3) := by decide +kernel
theorem dX6_turnInto_97 : decode cX6_turnInto 97 = .ok (.aload_n 0, 1) := by decide +kernel
theorem dX6_turnInto_98 : decode cX6_turnInto 98 = .ok (.getfield 30, 3) := by decide +kernel
theorem dX6_turnInto_101 : decode cX6_turnInto 101 = .ok (.aload_n 0, 1) := by decide +kernel
theorem dX6_turnInto_102 : decode cX6_turnInto 102 = .ok (.getfield 27, 3) := by decide +kernel
theorem dX6_turnInto_105 : decode cX6_turnInto 105 = .ok (.iload 7, 2) := by decide +kernel
theorem dX6_turnInto_107 : decode cX6_turnInto 107 = .ok (.iaload, 1) := by decide +kernel
theorem dX6_turnInto_108 : decode cX6_turnInto 108 = .ok (.dup2, 1) := by decide +kernel
theorem dX6_turnInto_109 : decode cX6_turnInto 109 = .ok (.iaload, 1) := by decide +kernel
theorem dX6_turnInto_110 : decode cX6_turnInto 110 = .ok (.iconst 1, 1) := by decide +kernel
theorem dX6_turnInto_111 : decode cX6_turnInto 111 = .ok (.iadd, 1) := by decide +kernel
theorem dX6_turnInto_112 : decode cX6_turnInto 112 = .ok (.iastore, 1) := by decide +kernel
theorem dX6_turnInto_113 : decode cX6_turnInto 113 = .ok (.iinc 6 1, 3) := by decide +kernel
theorem dX6_turnInto_116 : decode cX6_turnInto 116 = .ok (.iinc 7 1, 3) := by decide +kernel
theorem dX6_turnInto_119 : decode cX6_turnInto 119 = .ok (.goto (-56), 3) := by decide +kernel
theorem dX6_turnInto_122 : decode cX6_turnInto 122 = .ok (.iload 6, 2) := by decide +kernel
theorem dX6_turnInto_124 : decode cX6_turnInto 124 = .ok (.ifCond .ne 5, 3) := by decide +kernel
theorem dX6_turnInto_127 : decode cX6_turnInto 127 = .ok (.iconst 0, 1) := by decide +kernel
theorem dX6_turnInto_128 : decode cX6_turnInto 128 = .ok (.ireturn, 1) := by decide +kernel
theorem dX6_turnInto_129 : decode cX6_turnInto 129 = .ok (.aload_n 0, 1) := by decide +kernel
theorem dX6_turnInto_130 : decode cX6_turnInto 130 = .ok (.iload 6, 2) := by decide +kernel
theorem dX6_turnInto_132 : decode cX6_turnInto 132 = .ok (.invokevirtual 73, 3) := by decide +kernel
theorem dX6_turnInto_135 : decode cX6_turnInto 135 = .ok (.iconst 1, 1) := by decide +kernel
theorem dX6_turnInto_136 : decode cX6_turnInto 136 = .ok (.ireturn, 1) := by decide +kernel
theorem dX6_tellTurned_0 : decode cX6_tellTurned 0 = .ok (.iconst (-1), 1) := by decide +kernel
theorem dX6_tellTurned_1 : decode cX6_tellTurned 1 = .ok (.istore_n 2, 1) := by decide +kernel
theorem dX6_tellTurned_2 : decode cX6_tellTurned 2 = .ok (.iconst (-1), 1) := by decide +kernel
theorem dX6_tellTurned_3 : decode cX6_tellTurned 3 = .ok (.istore_n 3, 1) := by decide +kernel
theorem dX6_tellTurned_4 : decode cX6_tellTurned 4 = .ok (.iconst 0, 1) := by decide +kernel
theorem dX6_tellTurned_5 : decode cX6_tellTurned 5 = .ok (.istore 4, 2) := by decide +kernel
theorem dX6_tellTurned_7 : decode cX6_tellTurned 7 = .ok (.iconst 0, 1) := by decide +kernel
theorem dX6_tellTurned_8 : decode cX6_tellTurned 8 = .ok (.istore 5, 2) := by decide +kernel
theorem dX6_tellTurned_10 : decode cX6_tellTurned 10 = .ok (.iload 5, 2) := by decide +kernel
theorem dX6_tellTurned_12 : decode cX6_tellTurned 12 = .ok (.aload_n 0, 1) := by decide +kernel
theorem dX6_tellTurned_13 : decode cX6_tellTurned 13 = .ok (.getfield 30, 3) := by decide +kernel
theorem dX6_tellTurned_16 : decode cX6_tellTurned 16 = .ok (.arraylength, 1) := by decide +kernel
theorem dX6_tellTurned_17 : decode cX6_tellTurned 17 = .ok (.if_icmp .ge 60, 3) := by decide +kernel
theorem dX6_tellTurned_20 : decode cX6_tellTurned 20 = .ok (.aload_n 0, 1) := by decide +kernel
theorem dX6_tellTurned_21 : decode cX6_tellTurned 21 = .ok (.getfield 30, 3) := by decide +kernel
theorem dX6_tellTurned_24 : decode cX6_tellTurned 24 = .ok (.iload 5, 2) := by decide +kernel
theorem dX6_tellTurned_26 : decode cX6_tellTurned 26 = .ok (.iaload, 1) := by decide +kernel
theorem dX6_tellTurned_27 : decode cX6_tellTurned 27 = .ok (.ifCond .le 18, 3) := by decide +kernel
theorem dX6_tellTurned_30 : decode cX6_tellTurned 30 = .ok (.iload_n 2, 1) := by decide +kernel
theorem dX6_tellTurned_31 : decode cX6_tellTurned 31 = .ok (.iconst (-1), 1) := by decide +kernel
theorem dX6_tellTurned_32 : decode cX6_tellTurned 32 = .ok (.if_icmp .ne 8, 3) := by decide +kernel
theorem dX6_tellTurned_35 : decode cX6_tellTurned 35 = .ok (.iload 5, 2) := by decide +kernel
theorem dX6_tellTurned_37 : decode cX6_tellTurned 37 = .ok (.goto 4, 3) := by decide +kernel
theorem dX6_tellTurned_40 : decode cX6_tellTurned 40 = .ok (.iload_n 2, 1) := by decide +kernel
theorem dX6_tellTurned_41 : decode cX6_tellTurned 41 = .ok (.istore_n 2, 1) := by decide +kernel
theorem dX6_tellTurned_42 : decode cX6_tellTurned 42 = .ok (.iload 5, 2) := by decide +kernel
theorem dX6_tellTurned_44 : decode cX6_tellTurned 44 = .ok (.istore_n 3, 1) := by decide +kernel
theorem dX6_tellTurned_45 : decode cX6_tellTurned 45 = .ok (.aload_n 0, 1) := by decide +kernel
theorem dX6_tellTurned_46 : decode cX6_tellTurned 46 = .ok (.getfield 30, 3) := by decide +kernel
theorem dX6_tellTurned_49 : decode cX6_tellTurned 49 = .ok (.iload 5, 2) := by decide +kernel
theorem dX6_tellTurned_51 : decode cX6_tellTurned 51 = .ok (.iaload, 1) := by decide +kernel
theorem dX6_tellTurned_52 : decode cX6_tellTurned 52 = .ok (.aload_n 0, 1) := by decide +kernel
theorem dX6_tellTurned_53 : decode cX6_tellTurned 53 = .ok (.getfield 30, 3) := by decide +kernel
theorem dX6_tellTurned_56 : decode cX6_tellTurned 56 = .ok (.iload 4, 2) := by decide +kernel
theorem dX6_tellTurned_58 : decode cX6_tellTurned 58 = .ok (.iaload, 1) := by decide +kernel
theorem dX6_tellTurned_59 : decode cX6_tellTurned 59 = .ok (.if_icmp .le 8, 3) := by decide +kernel
theorem dX6_tellTurned_62 : decode cX6_tellTurned 62 = .ok (.iload 5, 2) := by decide +kernel
theorem dX6_tellTurned_64 : decode cX6_tellTurned 64 = .ok (.goto 5, 3) := by decide +kernel
theorem dX6_tellTurned_67 : decode cX6_tellTurned 67 = .ok (.iload 4, 2) := by decide +kernel
theorem dX6_tellTurned_69 : decode cX6_tellTurned 69 = .ok (.istore 4, 2) := by decide +kernel
theorem dX6_tellTurned_71 : decode cX6_tellTurned 71 = .ok (.iinc 5 1, 3) := by decide +kernel
theorem dX6_tellTurned_74 : decode cX6_tellTurned 74 = .ok (.goto (-64), 3) := by decide +kernel
theorem dX6_tellTurned_77 : decode cX6_tellTurned 77 = .ok (.aload_n 0, 1) := by decide +kernel
theorem dX6_tellTurned_78 : decode cX6_tellTurned 78 = .ok (.getfield 33, 3) := by decide +kernel
theorem dX6_tellTurned_81 : decode cX6_tellTurned 81 = .ok (.iconst 0, 1) := by decide +kernel
theorem dX6_tellTurned_82 : decode cX6_tellTurned 82 = .ok (.iload_n 2, 1) := by decide +kernel
theorem dX6_tellTurned_83 : decode cX6_tellTurned 83 = .ok (.iastore, 1) := by decide +kernel
theorem dX6_tellTurned_84 : decode cX6_tellTurned 84 = .ok (.aload_n 0, 1) := by decide +kernel
theorem dX6_tellTurned_85 : decode cX6_tellTurned 85 = .ok (.getfield 33, 3) := by decide +kernel
theorem dX6_tellTurned_88 : decode cX6_tellTurned 88 = .ok (.iconst 1, 1) := by decide +kernel
theorem dX6_tellTurned_89 : decode cX6_tellTurned 89 = .ok (.iload_n 3, 1) := by decide +kernel
theorem dX6_tellTurned_90 : decode cX6_tellTurned 90 = .ok (.iastore, 1) := by decide +kernel
theorem dX6_tellTurned_91 : decode cX6_tellTurned 91 = .ok (.aload_n 0, 1) := by decide +kernel
theorem dX6_tellTurned_92 : decode cX6_tellTurned 92 = .ok (.getfield 33, 3) := by decide +kernel
theorem dX6_tellTurned_95 : decode cX6_tellTurned 95 = .ok (.iconst 2, 1) := by decide +kernel
theorem dX6_tellTurned_96 : decode cX6_tellTurned 96 = .ok (.iload 4, 2) := by decide +kernel
theorem dX6_tellTurned_98 : decode cX6_tellTurned 98 = .ok (.iastore, 1) := by decide +kernel
theorem dX6_tellTurned_99 : decode cX6_tellTurned 99 = .ok (.aload_n 0, 1) := by decide +kernel
theorem dX6_tellTurned_100 : decode cX6_tellTurned 100 = .ok (.getfield 33, 3) := by decide +kernel
theorem dX6_tellTurned_103 : decode cX6_tellTurned 103 = .ok (.iconst 3, 1) := by decide +kernel
theorem dX6_tellTurned_104 : decode cX6_tellTurned 104 = .ok (.iload_n 1, 1) := by decide +kernel
theorem dX6_tellTurned_105 : decode cX6_tellTurned 105 = .ok (.aload_n 0, 1) := by decide +kernel
theorem dX6_tellTurned_106 : decode cX6_tellTurned 106 = .ok (.getfield 30, 3) := by decide +kernel
theorem dX6_tellTurned_109 : decode cX6_tellTurned 109 = .ok (.iload 4, 2) := by decide +kernel
theorem dX6_tellTurned_111 : decode cX6_tellTurned 111 = .ok (.iaload, 1) := by decide +kernel
theorem dX6_tellTurned_112 : decode cX6_tellTurned 112 = .ok (.isub, 1) := by decide +kernel
theorem dX6_tellTurned_113 : decode cX6_tellTurned 113 = .ok (.iastore, 1) := by decide +kernel
theorem dX6_tellTurned_114 : decode cX6_tellTurned 114 = .ok (.return_, 1) := by decide +kernel
theorem dX7_init_0 : decode cX7_init 0 = .ok (.aload_n 0, 1) := by decide +kernel
theorem dX7_init_1 : decode cX7_init 1 = .ok (.invokespecial 3, 3) := by decide +kernel
theorem dX7_init_4 : decode cX7_init 4 = .ok (.aload_n 0, 1) := by decide +kernel
theorem dX7_init_5 : decode cX7_init 5 = .ok (.sipush 1000, 3) := by decide +kernel
theorem dX7_init_8 : decode cX7_init 8 = .ok (.newarray .int, 2) := by decide +kernel
theorem dX7_init_10 : decode cX7_init 10 = .ok (.putfield 9, 3) := by decide +kernel
theorem dX7_init_13 : decode cX7_init 13 = .ok (.aload_n 0, 1) := by decide +kernel
theorem dX7_init_14 : decode cX7_init 14 = .ok (.sipush 1000, 3) := by decide +kernel
theorem dX7_init_17 : decode cX7_init 17 = .ok (.anewarray 15, 3) := by decide +kernel
theorem dX7_init_20 : decode cX7_init 20 = .ok (.putfield 17, 3) := by decide +kernel
theorem dX7_init_23 : decode cX7_init 23 = .ok (.aload_n 0, 1) := by decide +kernel
theorem dX7_init_24 : decode cX7_init 24 = .ok (.iconst (-1), 1) := by decide +kernel
theorem dX7_init_25 : decode cX7_init 25 = .ok (.putfield 21, 3) := by decide +kernel
theorem dX7_init_28 : decode cX7_init 28 = .ok (.aload_n 0, 1) := by decide +kernel
theorem dX7_init_29 : decode cX7_init 29 = .ok (.iload_n 1, 1) := by decide +kernel
theorem dX7_init_30 : decode cX7_init 30 = .ok (.putfield 25, 3) := by decide +kernel
theorem dX7_init_33 : decode cX7_init 33 = .ok (.aload_n 0, 1) := by decide +kernel
theorem dX7_init_34 : decode cX7_init 34 = .ok (.iload_n 2, 1) := by decide +kernel
theorem dX7_init_35 : decode cX7_init 35 = .ok (.putfield 28, 3) := by decide +kernel
theorem dX7_init_38 : decode cX7_init 38 = .ok (.aload_n 0, 1) := by decide +kernel
theorem dX7_init_39 : decode cX7_init 39 = .ok (.iconst 0, 1) := by decide +kernel
theorem dX7_init_40 : decode cX7_init 40 = .ok (.iload_n 3, 1) := by decide +kernel
theorem dX7_init_41 : decode cX7_init 41 = .ok (.invokevirtual 31, 3) := by decide +kernel
theorem dX7_init_44 : decode cX7_init 44 = .ok (.return_, 1) := by decide +kernel
theorem dX7_signFrom_0 : decode cX7_signFrom 0 = .ok (.iconst 0, 1) := by decide +kernel
theorem dX7_signFrom_1 : decode cX7_signFrom 1 = .ok (.iload_n 1, 1) := by decide +kernel
theorem dX7_signFrom_2 : decode cX7_signFrom 2 = .ok (.invokestatic 35, 3) := by decide +kernel
theorem dX7_signFrom_5 : decode cX7_signFrom 5 = .ok (.istore_n 3, 1) := by decide +kernel
theorem dX7_signFrom_6 : decode cX7_signFrom 6 = .ok (.iload_n 3, 1) := by decide +kernel
theorem dX7_signFrom_7 : decode cX7_signFrom 7 = .ok (.sipush 999, 3) := by decide +kernel
theorem dX7_signFrom_10 : decode cX7_signFrom 10 = .ok (.if_icmp .gt 16, 3) := by decide +kernel
theorem dX7_signFrom_13 : decode cX7_signFrom 13 = .ok (.aload_n 0, 1) := by decide +kernel
theorem dX7_signFrom_14 : decode cX7_signFrom 14 = .ok (.getfield 9, 3) := by decide +kernel
theorem dX7_signFrom_17 : decode cX7_signFrom 17 = .ok (.iload_n 3, 1) := by decide +kernel
theorem dX7_signFrom_18 : decode cX7_signFrom 18 = .ok (.iload_n 2, 1) := by decide +kernel
theorem dX7_signFrom_19 : decode cX7_signFrom 19 = .ok (.iastore, 1) := by decide +kernel
theorem dX7_signFrom_20 : decode cX7_signFrom 20 = .ok (.iinc 3 1, 3) := by decide +kernel
theorem dX7_signFrom_23 : decode cX7_signFrom 23 = .ok (.goto (-17), 3) := by decide +kernel
theorem dX7_signFrom_26 : decode cX7_signFrom 26 = .ok (.aload_n 0, 1) := by decide +kernel
theorem dX7_signFrom_27 : decode cX7_signFrom 27 = .ok (.iload_n 1, 1) := by decide +kernel
theorem dX7_signFrom_28 : decode cX7_signFrom 28 = .ok (.putfield 21, 3) := by decide +kernel
theorem dX7_signFrom_31 : decode cX7_signFrom 31 = .ok (.return_, 1) := by decide +kernel
theorem dX7_officerOn_0 : decode cX7_officerOn 0 = .ok (.iload_n 1, 1) := by decide +kernel
theorem dX7_officerOn_1 : decode cX7_officerOn 1 = .ok (.sipush 999, 3) := by decide +kernel
theorem dX7_officerOn_4 : decode cX7_officerOn 4 = .ok (.invokestatic 41, 3) := by decide +kernel
theorem dX7_officerOn_7 : decode cX7_officerOn 7 = .ok (.ifCond .eq 12, 3) := by decide +kernel
theorem dX7_officerOn_10 : decode cX7_officerOn 10 = .ok (.aload_n 0, 1) := by decide +kernel
theorem dX7_officerOn_11 : decode cX7_officerOn 11 = .ok (.getfield 9, 3) := by decide +kernel
theorem dX7_officerOn_14 : decode cX7_officerOn 14 = .ok (.iload_n 1, 1) := by decide +kernel
theorem dX7_officerOn_15 : decode cX7_officerOn 15 = .ok (.iaload, 1) := by decide +kernel
theorem dX7_officerOn_16 : decode cX7_officerOn 16 = .ok (.goto 4, 3) := by decide +kernel
theorem dX7_officerOn_19 : decode cX7_officerOn 19 = .ok (.iconst (-1), 1) := by decide +kernel
theorem dX7_officerOn_20 : decode cX7_officerOn 20 = .ok (.ireturn, 1) := by decide +kernel
theorem dX7_readingOn_0 : decode cX7_readingOn 0 = .ok (.iload_n 1, 1) := by decide +kernel
theorem dX7_readingOn_1 : decode cX7_readingOn 1 = .ok (.sipush 999, 3) := by decide +kernel
theorem dX7_readingOn_4 : decode cX7_readingOn 4 = .ok (.invokestatic 41, 3) := by decide +kernel
theorem dX7_readingOn_7 : decode cX7_readingOn 7 = .ok (.ifCond .eq 12, 3) := by decide +kernel
theorem dX7_readingOn_10 : decode cX7_readingOn 10 = .ok (.aload_n 0, 1) := by decide +kernel
theorem dX7_readingOn_11 : decode cX7_readingOn 11 = .ok (.getfield 17, 3) := by decide +kernel
theorem dX7_readingOn_14 : decode cX7_readingOn 14 = .ok (.iload_n 1, 1) := by decide +kernel
theorem dX7_readingOn_15 : decode cX7_readingOn 15 = .ok (.aaload, 1) := by decide +kernel
theorem dX7_readingOn_16 : decode cX7_readingOn 16 = .ok (.goto 4, 3) := by decide +kernel
theorem dX7_readingOn_19 : decode cX7_readingOn 19 = .ok (.aconst_null, 1) := by decide +kernel
theorem dX7_readingOn_20 : decode cX7_readingOn 20 = .ok (.areturn, 1) := by decide +kernel
theorem dX7_put_0 : decode cX7_put 0 = .ok (.iload_n 1, 1) := by decide +kernel
theorem dX7_put_1 : decode cX7_put 1 = .ok (.sipush 999, 3) := by decide +kernel
theorem dX7_put_4 : decode cX7_put 4 = .ok (.invokestatic 41, 3) := by decide +kernel
theorem dX7_put_7 : decode cX7_put 7 = .ok (.ifCond .eq 10, 3) := by decide +kernel
theorem dX7_put_10 : decode cX7_put 10 = .ok (.aload_n 0, 1) := by decide +kernel
theorem dX7_put_11 : decode cX7_put 11 = .ok (.getfield 17, 3) := by decide +kernel
theorem dX7_put_14 : decode cX7_put 14 = .ok (.iload_n 1, 1) := by decide +kernel
theorem dX7_put_15 : decode cX7_put 15 = .ok (.aload_n 2, 1) := by decide +kernel
theorem dX7_put_16 : decode cX7_put 16 = .ok (.aastore, 1) := by decide +kernel
theorem dX7_put_17 : decode cX7_put 17 = .ok (.return_, 1) := by decide +kernel
theorem dX8_init_0 : decode cX8_init 0 = .ok (.aload_n 0, 1) := by decide +kernel
theorem dX8_init_1 : decode cX8_init 1 = .ok (.invokespecial 3, 3) := by decide +kernel
theorem dX8_init_4 : decode cX8_init 4 = .ok (.aload_n 0, 1) := by decide +kernel
theorem dX8_init_5 : decode cX8_init 5 = .ok (.bipush 60, 2) := by decide +kernel
theorem dX8_init_7 : decode cX8_init 7 = .ok (.newarray .long, 2) := by decide +kernel
theorem dX8_init_9 : decode cX8_init 9 = .ok (.putfield 9, 3) := by decide +kernel
theorem dX8_init_12 : decode cX8_init 12 = .ok (.aload_n 0, 1) := by decide +kernel
theorem dX8_init_13 : decode cX8_init 13 = .ok (.iconst 0, 1) := by decide +kernel
theorem dX8_init_14 : decode cX8_init 14 = .ok (.putfield 15, 3) := by decide +kernel
theorem dX8_init_17 : decode cX8_init 17 = .ok (.aload_n 0, 1) := by decide +kernel
theorem dX8_init_18 : decode cX8_init 18 = .ok (.iconst 0, 1) := by decide +kernel
theorem dX8_init_19 : decode cX8_init 19 = .ok (.putfield 19, 3) := by decide +kernel
theorem dX8_init_22 : decode cX8_init 22 = .ok (.aload_n 0, 1) := by decide +kernel
theorem dX8_init_23 : decode cX8_init 23 = .ok (.iconst 0, 1) := by decide +kernel
theorem dX8_init_24 : decode cX8_init 24 = .ok (.putfield 23, 3) := by decide +kernel
theorem dX8_init_27 : decode cX8_init 27 = .ok (.aload_n 0, 1) := by decide +kernel
theorem dX8_init_28 : decode cX8_init 28 = .ok (.iconst 0, 1) := by decide +kernel
theorem dX8_init_29 : decode cX8_init 29 = .ok (.putfield 26, 3) := by decide +kernel
theorem dX8_init_32 : decode cX8_init 32 = .ok (.aload_n 0, 1) := by decide +kernel
theorem dX8_init_33 : decode cX8_init 33 = .ok (.iconst 0, 1) := by decide +kernel
theorem dX8_init_34 : decode cX8_init 34 = .ok (.putfield 29, 3) := by decide +kernel
theorem dX8_init_37 : decode cX8_init 37 = .ok (.return_, 1) := by decide +kernel
theorem dX8_tell_0 : decode cX8_tell 0 = .ok (.aload_n 0, 1) := by decide +kernel
theorem dX8_tell_1 : decode cX8_tell 1 = .ok (.iconst 1, 1) := by decide +kernel
theorem dX8_tell_2 : decode cX8_tell 2 = .ok (.putfield 15, 3) := by decide +kernel
theorem dX8_tell_5 : decode cX8_tell 5 = .ok (.aload_n 0, 1) := by decide +kernel
theorem dX8_tell_6 : decode cX8_tell 6 = .ok (.iload_n 1, 1) := by decide +kernel
theorem dX8_tell_7 : decode cX8_tell 7 = .ok (.putfield 19, 3) := by decide +kernel
theorem dX8_tell_10 : decode cX8_tell 10 = .ok (.aload_n 0, 1) := by decide +kernel
theorem dX8_tell_11 : decode cX8_tell 11 = .ok (.iload_n 2, 1) := by decide +kernel
theorem dX8_tell_12 : decode cX8_tell 12 = .ok (.putfield 23, 3) := by decide +kernel
theorem dX8_tell_15 : decode cX8_tell 15 = .ok (.aload_n 0, 1) := by decide +kernel
theorem dX8_tell_16 : decode cX8_tell 16 = .ok (.iload_n 3, 1) := by decide +kernel
theorem dX8_tell_17 : decode cX8_tell 17 = .ok (.putfield 26, 3) := by decide +kernel
theorem dX8_tell_20 : decode cX8_tell 20 = .ok (.aload_n 0, 1) := by decide +kernel
theorem dX8_tell_21 : decode cX8_tell 21 = .ok (.iload 4, 2) := by decide +kernel
theorem dX8_tell_23 : decode cX8_tell 23 = .ok (.putfield 29, 3) := by decide +kernel
theorem dX8_tell_26 : decode cX8_tell 26 = .ok (.return_, 1) := by decide +kernel
theorem dX8_lasts_0 : decode cX8_lasts 0 = .ok (.aload_n 0, 1) := by decide +kernel
theorem dX8_lasts_1 : decode cX8_lasts 1 = .ok (.getfield 15, 3) := by decide +kernel
theorem dX8_lasts_4 : decode cX8_lasts 4 = .ok (.ifCond .eq 23, 3) := by decide +kernel
theorem dX8_lasts_7 : decode cX8_lasts 7 = .ok (.iload_n 1, 1) := by decide +kernel
theorem dX8_lasts_8 : decode cX8_lasts 8 = .ok (.aload_n 0, 1) := by decide +kernel
theorem dX8_lasts_9 : decode cX8_lasts 9 = .ok (.getfield 19, 3) := by decide +kernel
theorem dX8_lasts_12 : decode cX8_lasts 12 = .ok (.if_icmp .lt 15, 3) := by decide +kernel
theorem dX8_lasts_15 : decode cX8_lasts 15 = .ok (.iload_n 1, 1) := by decide +kernel
theorem dX8_lasts_16 : decode cX8_lasts 16 = .ok (.aload_n 0, 1) := by decide +kernel
theorem dX8_lasts_17 : decode cX8_lasts 17 = .ok (.getfield 23, 3) := by decide +kernel
theorem dX8_lasts_20 : decode cX8_lasts 20 = .ok (.if_icmp .gt 7, 3) := by decide +kernel
theorem dX8_lasts_23 : decode cX8_lasts 23 = .ok (.iconst 1, 1) := by decide +kernel
theorem dX8_lasts_24 : decode cX8_lasts 24 = .ok (.goto 4, 3) := by decide +kernel
theorem dX8_lasts_27 : decode cX8_lasts 27 = .ok (.iconst 0, 1) := by decide +kernel
theorem dX8_lasts_28 : decode cX8_lasts 28 = .ok (.ireturn, 1) := by decide +kernel
theorem dX8_cellsOn_0 : decode cX8_cellsOn 0 = .ok (.aload_n 0, 1) := by decide +kernel
theorem dX8_cellsOn_1 : decode cX8_cellsOn 1 = .ok (.iload_n 1, 1) := by decide +kernel
theorem dX8_cellsOn_2 : decode cX8_cellsOn 2 = .ok (.invokevirtual 32, 3) := by decide +kernel
theorem dX8_cellsOn_5 : decode cX8_cellsOn 5 = .ok (.ifCond .eq 28, 3) := by decide +kernel
theorem dX8_cellsOn_8 : decode cX8_cellsOn 8 = .ok (.iload_n 1, 1) := by decide +kernel
theorem dX8_cellsOn_9 : decode cX8_cellsOn 9 = .ok (.aload_n 0, 1) := by decide +kernel
theorem dX8_cellsOn_10 : decode cX8_cellsOn 10 = .ok (.getfield 19, 3) := by decide +kernel
theorem dX8_cellsOn_13 : decode cX8_cellsOn 13 = .ok (.isub, 1) := by decide +kernel
theorem dX8_cellsOn_14 : decode cX8_cellsOn 14 = .ok (.bipush 60, 2) := by decide +kernel
theorem dX8_cellsOn_16 : decode cX8_cellsOn 16 = .ok (.if_icmp .ge 17, 3) := by decide +kernel
theorem dX8_cellsOn_19 : decode cX8_cellsOn 19 = .ok (.aload_n 0, 1) := by decide +kernel
theorem dX8_cellsOn_20 : decode cX8_cellsOn 20 = .ok (.getfield 9, 3) := by decide +kernel
theorem dX8_cellsOn_23 : decode cX8_cellsOn 23 = .ok (.iload_n 1, 1) := by decide +kernel
theorem dX8_cellsOn_24 : decode cX8_cellsOn 24 = .ok (.aload_n 0, 1) := by decide +kernel
theorem dX8_cellsOn_25 : decode cX8_cellsOn 25 = .ok (.getfield 19, 3) := by decide +kernel
theorem dX8_cellsOn_28 : decode cX8_cellsOn 28 = .ok (.isub, 1) := by decide +kernel
theorem dX8_cellsOn_29 : decode cX8_cellsOn 29 = .ok (.laload, 1) := by decide +kernel
theorem dX8_cellsOn_30 : decode cX8_cellsOn 30 = .ok (.goto 4, 3) := by decide +kernel
theorem dX8_cellsOn_33 : decode cX8_cellsOn 33 = .ok (.lconst 0, 1) := by decide +kernel
theorem dX8_cellsOn_34 : decode cX8_cellsOn 34 = .ok (.lreturn, 1) := by decide +kernel
theorem dX8_follow_0 : decode cX8_follow 0 = .ok (.bipush 60, 2) := by decide +kernel
theorem dX8_follow_2 : decode cX8_follow 2 = .ok (.aload_n 0, 1) := by decide +kernel
theorem dX8_follow_3 : decode cX8_follow 3 = .ok (.getfield 23, 3) := by decide +kernel
theorem dX8_follow_6 : decode cX8_follow 6 = .ok (.aload_n 0, 1) := by decide +kernel
theorem dX8_follow_7 : decode cX8_follow 7 = .ok (.getfield 19, 3) := by decide +kernel
theorem dX8_follow_10 : decode cX8_follow 10 = .ok (.isub, 1) := by decide +kernel
theorem dX8_follow_11 : decode cX8_follow 11 = .ok (.iconst 1, 1) := by decide +kernel
theorem dX8_follow_12 : decode cX8_follow 12 = .ok (.iadd, 1) := by decide +kernel
theorem dX8_follow_13 : decode cX8_follow 13 = .ok (.invokestatic 36, 3) := by decide +kernel
theorem dX8_follow_16 : decode cX8_follow 16 = .ok (.istore_n 2, 1) := by decide +kernel
theorem dX8_follow_17 : decode cX8_follow 17 = .ok (.iconst 0, 1) := by decide +kernel
theorem dX8_follow_18 : decode cX8_follow 18 = .ok (.istore_n 3, 1) := by decide +kernel
theorem dX8_follow_19 : decode cX8_follow 19 = .ok (.iload_n 3, 1) := by decide +kernel
theorem dX8_follow_20 : decode cX8_follow 20 = .ok (.iload_n 2, 1) := by decide +kernel
theorem dX8_follow_21 : decode cX8_follow 21 = .ok (.if_icmp .ge 50, 3) := by decide +kernel
theorem dX8_follow_24 : decode cX8_follow 24 = .ok (.aload_n 0, 1) := by decide +kernel
theorem dX8_follow_25 : decode cX8_follow 25 = .ok (.getfield 9, 3) := by decide +kernel
theorem dX8_follow_28 : decode cX8_follow 28 = .ok (.iload_n 3, 1) := by decide +kernel
theorem dX8_follow_29 : decode cX8_follow 29 = .ok (.aload_n 0, 1) := by decide +kernel
theorem dX8_follow_30 : decode cX8_follow 30 = .ok (.aload_n 0, 1) := by decide +kernel
theorem dX8_follow_31 : decode cX8_follow 31 = .ok (.getfield 19, 3) := by decide +kernel
theorem dX8_follow_34 : decode cX8_follow 34 = .ok (.iload_n 3, 1) := by decide +kernel
theorem dX8_follow_35 : decode cX8_follow 35 = .ok (.iadd, 1) := by decide +kernel
theorem dX8_follow_36 : decode cX8_follow 36 = .ok (.aload_n 1, 1) := by decide +kernel
theorem dX8_follow_37 : decode cX8_follow 37 = .ok (.invokevirtual 42, 3) := by decide +kernel
theorem dX8_follow_40 : decode cX8_follow 40 = .ok (.lastore, 1) := by decide +kernel
theorem dX8_follow_41 : decode cX8_follow 41 = .ok (.iload_n 3, 1) := by decide +kernel
theorem dX8_follow_42 : decode cX8_follow 42 = .ok (.ifCond .le 23, 3) := by decide +kernel
theorem dX8_follow_45 : decode cX8_follow 45 = .ok (.aload_n 0, 1) := by decide +kernel
theorem dX8_follow_46 : decode cX8_follow 46 = .ok (.getfield 9, 3) := by decide +kernel
theorem dX8_follow_49 : decode cX8_follow 49 = .ok (.iload_n 3, 1) := by decide +kernel
theorem dX8_follow_50 : decode cX8_follow 50 = .ok (.dup2, 1) := by decide +kernel
theorem dX8_follow_51 : decode cX8_follow 51 = .ok (.laload, 1) := by decide +kernel
theorem dX8_follow_52 : decode cX8_follow 52 = .ok (.aload_n 0, 1) := by decide +kernel
theorem dX8_follow_53 : decode cX8_follow 53 = .ok (.getfield 9, 3) := by decide +kernel
theorem dX8_follow_56 : decode cX8_follow 56 = .ok (.iload_n 3, 1) := by decide +kernel
theorem dX8_follow_57 : decode cX8_follow 57 = .ok (.iconst 1, 1) := by decide +kernel
theorem dX8_follow_58 : decode cX8_follow 58 = .ok (.isub, 1) := by decide +kernel
theorem dX8_follow_59 : decode cX8_follow 59 = .ok (.laload, 1) := by decide +kernel
theorem dX8_follow_60 : decode cX8_follow 60 = .ok (.invokestatic 46, 3) := by decide +kernel
theorem dX8_follow_63 : decode cX8_follow 63 = .ok (.land, 1) := by decide +kernel
theorem dX8_follow_64 : decode cX8_follow 64 = .ok (.lastore, 1) := by decide +kernel
theorem dX8_follow_65 : decode cX8_follow 65 = .ok (.iinc 3 1, 3) := by decide +kernel
theorem dX8_follow_68 : decode cX8_follow 68 = .ok (.goto (-49), 3) := by decide +kernel
theorem dX8_follow_71 : decode cX8_follow 71 = .ok (.iload_n 2, 1) := by decide +kernel
theorem dX8_follow_72 : decode cX8_follow 72 = .ok (.iconst 2, 1) := by decide +kernel
theorem dX8_follow_73 : decode cX8_follow 73 = .ok (.isub, 1) := by decide +kernel
theorem dX8_follow_74 : decode cX8_follow 74 = .ok (.istore_n 3, 1) := by decide +kernel
theorem dX8_follow_75 : decode cX8_follow 75 = .ok (.iload_n 3, 1) := by decide +kernel
theorem dX8_follow_76 : decode cX8_follow 76 = .ok (.ifCond .lt 29, 3) := by decide +kernel
theorem dX8_follow_79 : decode cX8_follow 79 = .ok (.aload_n 0, 1) := by decide +kernel
theorem dX8_follow_80 : decode cX8_follow 80 = .ok (.getfield 9, 3) := by decide +kernel
theorem dX8_follow_83 : decode cX8_follow 83 = .ok (.iload_n 3, 1) := by decide +kernel
theorem dX8_follow_84 : decode cX8_follow 84 = .ok (.dup2, 1) := by decide +kernel
theorem dX8_follow_85 : decode cX8_follow 85 = .ok (.laload, 1) := by decide +kernel
theorem dX8_follow_86 : decode cX8_follow 86 = .ok (.aload_n 0, 1) := by decide +kernel
theorem dX8_follow_87 : decode cX8_follow 87 = .ok (.getfield 9, 3) := by decide +kernel
theorem dX8_follow_90 : decode cX8_follow 90 = .ok (.iload_n 3, 1) := by decide +kernel
theorem dX8_follow_91 : decode cX8_follow 91 = .ok (.iconst 1, 1) := by decide +kernel
theorem dX8_follow_92 : decode cX8_follow 92 = .ok (.iadd, 1) := by decide +kernel
theorem dX8_follow_93 : decode cX8_follow 93 = .ok (.laload, 1) := by decide +kernel
theorem dX8_follow_94 : decode cX8_follow 94 = .ok (.invokestatic 46, 3) := by decide +kernel
theorem dX8_follow_97 : decode cX8_follow 97 = .ok (.land, 1) := by decide +kernel
theorem dX8_follow_98 : decode cX8_follow 98 = .ok (.lastore, 1) := by decide +kernel
theorem dX8_follow_99 : decode cX8_follow 99 = .ok (.iinc 3 (-1), 3) := by decide +kernel
theorem dX8_follow_102 : decode cX8_follow 102 = .ok (.goto (-27), 3) := by decide +kernel
theorem dX8_follow_105 : decode cX8_follow 105 = .ok (.return_, 1) := by decide +kernel
theorem dX8_allowed_0 : decode cX8_allowed 0 = .ok (.ldc2_w 50, 3) := by decide +kernel
theorem dX8_allowed_3 : decode cX8_allowed 3 = .ok (.lstore_n 3, 1) := by decide +kernel
theorem dX8_allowed_4 : decode cX8_allowed 4 = .ok (.iconst 0, 1) := by decide +kernel
theorem dX8_allowed_5 : decode cX8_allowed 5 = .ok (.istore 5, 2) := by decide +kernel
theorem dX8_allowed_7 : decode cX8_allowed 7 = .ok (.iload 5, 2) := by decide +kernel
theorem dX8_allowed_9 : decode cX8_allowed 9 = .ok (.aload_n 2, 1) := by decide +kernel
theorem dX8_allowed_10 : decode cX8_allowed 10 = .ok (.getfield 52, 3) := by decide +kernel
theorem dX8_allowed_13 : decode cX8_allowed 13 = .ok (.if_icmp .ge 68, 3) := by decide +kernel
theorem dX8_allowed_16 : decode cX8_allowed 16 = .ok (.aload_n 2, 1) := by decide +kernel
theorem dX8_allowed_17 : decode cX8_allowed 17 = .ok (.iload 5, 2) := by decide +kernel
theorem dX8_allowed_19 : decode cX8_allowed 19 = .ok (.invokevirtual 57, 3) := by decide +kernel
theorem dX8_allowed_22 : decode cX8_allowed 22 = .ok (.astore 6, 2) := by decide +kernel
theorem dX8_allowed_24 : decode cX8_allowed 24 = .ok (.aload 6, 2) := by decide +kernel
theorem dX8_allowed_26 : decode cX8_allowed 26 = .ok (.ifnull 49, 3) := by decide +kernel
theorem dX8_allowed_29 : decode cX8_allowed 29 = .ok (.aload 6, 2) := by decide +kernel
theorem dX8_allowed_31 : decode cX8_allowed 31 = .ok (.getfield 61, 3) := by decide +kernel
theorem dX8_allowed_34 : decode cX8_allowed 34 = .ok (.iload_n 1, 1) := by decide +kernel
theorem dX8_allowed_35 : decode cX8_allowed 35 = .ok (.if_icmp .ne 40, 3) := by decide +kernel
theorem dX8_allowed_38 : decode cX8_allowed 38 = .ok (.aload_n 0, 1) := by decide +kernel
theorem dX8_allowed_39 : decode cX8_allowed 39 = .ok (.aload 6, 2) := by decide +kernel
theorem dX8_allowed_41 : decode cX8_allowed 41 = .ok (.getfield 66, 3) := by decide +kernel
theorem dX8_allowed_44 : decode cX8_allowed 44 = .ok (.invokevirtual 69, 3) := by decide +kernel
theorem dX8_allowed_47 : decode cX8_allowed 47 = .ok (.lstore 7, 2) := by decide +kernel
theorem dX8_allowed_49 : decode cX8_allowed 49 = .ok (.lload_n 3, 1) := by decide +kernel
theorem dX8_allowed_50 : decode cX8_allowed 50 = .ok (.aload 6, 2) := by decide +kernel
theorem dX8_allowed_52 : decode cX8_allowed 52 = .ok (.getfield 73, 3) := by decide +kernel
theorem dX8_allowed_55 : decode cX8_allowed 55 = .ok (.aload_n 0, 1) := by decide +kernel
theorem dX8_allowed_56 : decode cX8_allowed 56 = .ok (.getfield 29, 3) := by decide +kernel
theorem dX8_allowed_59 : decode cX8_allowed 59 = .ok (.if_icmp .lt 8, 3) := by decide +kernel
theorem dX8_allowed_62 : decode cX8_allowed 62 = .ok (.lload 7, 2) := by decide +kernel
theorem dX8_allowed_64 : decode cX8_allowed 64 = .ok (.goto 9, 3) := by decide +kernel
theorem dX8_allowed_67 : decode cX8_allowed 67 = .ok (.lload 7, 2) := by decide +kernel
theorem dX8_allowed_69 : decode cX8_allowed 69 = .ok (.ldc2_w 50, 3) := by decide +kernel
theorem dX8_allowed_72 : decode cX8_allowed 72 = .ok (.lxor, 1) := by decide +kernel
theorem dX8_allowed_73 : decode cX8_allowed 73 = .ok (.land, 1) := by decide +kernel
theorem dX8_allowed_74 : decode cX8_allowed 74 = .ok (.lstore_n 3, 1) := by decide +kernel
theorem dX8_allowed_75 : decode cX8_allowed 75 = .ok (.iinc 5 1, 3) := by decide +kernel
theorem dX8_allowed_78 : decode cX8_allowed 78 = .ok (.goto (-71), 3) := by decide +kernel
theorem dX8_allowed_81 : decode cX8_allowed 81 = .ok (.lload_n 3, 1) := by decide +kernel
theorem dX8_allowed_82 : decode cX8_allowed 82 = .ok (.lreturn, 1) := by decide +kernel
theorem dX8_around_0 : decode cX8_around 0 = .ok (.lconst 1, 1) := by decide +kernel
theorem dX8_around_1 : decode cX8_around 1 = .ok (.iload_n 1, 1) := by decide +kernel
theorem dX8_around_2 : decode cX8_around 2 = .ok (.lshl, 1) := by decide +kernel
theorem dX8_around_3 : decode cX8_around 3 = .ok (.lstore_n 2, 1) := by decide +kernel
theorem dX8_around_4 : decode cX8_around 4 = .ok (.iconst 0, 1) := by decide +kernel
theorem dX8_around_5 : decode cX8_around 5 = .ok (.istore 4, 2) := by decide +kernel
theorem dX8_around_7 : decode cX8_around 7 = .ok (.iload 4, 2) := by decide +kernel
theorem dX8_around_9 : decode cX8_around 9 = .ok (.aload_n 0, 1) := by decide +kernel
theorem dX8_around_10 : decode cX8_around 10 = .ok (.getfield 26, 3) := by decide +kernel
theorem dX8_around_13 : decode cX8_around 13 = .ok (.if_icmp .ge 14, 3) := by decide +kernel
theorem dX8_around_16 : decode cX8_around 16 = .ok (.lload_n 2, 1) := by decide +kernel
theorem dX8_around_17 : decode cX8_around 17 = .ok (.invokestatic 46, 3) := by decide +kernel
theorem dX8_around_20 : decode cX8_around 20 = .ok (.lstore_n 2, 1) := by decide +kernel
theorem dX8_around_21 : decode cX8_around 21 = .ok (.iinc 4 1, 3) := by decide +kernel
theorem dX8_around_24 : decode cX8_around 24 = .ok (.goto (-17), 3) := by decide +kernel
theorem dX8_around_27 : decode cX8_around 27 = .ok (.lload_n 2, 1) := by decide +kernel
theorem dX8_around_28 : decode cX8_around 28 = .ok (.lreturn, 1) := by decide +kernel
theorem dX8_spread_0 : decode cX8_spread 0 = .ok (.lload_n 0, 1) := by decide +kernel
theorem dX8_spread_1 : decode cX8_spread 1 = .ok (.lload_n 0, 1) := by decide +kernel
theorem dX8_spread_2 : decode cX8_spread 2 = .ok (.iconst 1, 1) := by decide +kernel
theorem dX8_spread_3 : decode cX8_spread 3 = .ok (.lshl, 1) := by decide +kernel
theorem dX8_spread_4 : decode cX8_spread 4 = .ok (.ldc2_w 76, 3) := by decide +kernel
theorem dX8_spread_7 : decode cX8_spread 7 = .ok (.land, 1) := by decide +kernel
theorem dX8_spread_8 : decode cX8_spread 8 = .ok (.lor, 1) := by decide +kernel
theorem dX8_spread_9 : decode cX8_spread 9 = .ok (.lload_n 0, 1) := by decide +kernel
theorem dX8_spread_10 : decode cX8_spread 10 = .ok (.iconst 1, 1) := by decide +kernel
theorem dX8_spread_11 : decode cX8_spread 11 = .ok (.lushr, 1) := by decide +kernel
theorem dX8_spread_12 : decode cX8_spread 12 = .ok (.ldc2_w 78, 3) := by decide +kernel
theorem dX8_spread_15 : decode cX8_spread 15 = .ok (.land, 1) := by decide +kernel
theorem dX8_spread_16 : decode cX8_spread 16 = .ok (.lor, 1) := by decide +kernel
theorem dX8_spread_17 : decode cX8_spread 17 = .ok (.lstore_n 2, 1) := by decide +kernel
theorem dX8_spread_18 : decode cX8_spread 18 = .ok (.lload_n 2, 1) := by decide +kernel
theorem dX8_spread_19 : decode cX8_spread 19 = .ok (.lload_n 2, 1) := by decide +kernel
theorem dX8_spread_20 : decode cX8_spread 20 = .ok (.bipush 8, 2) := by decide +kernel
theorem dX8_spread_22 : decode cX8_spread 22 = .ok (.lshl, 1) := by decide +kernel
theorem dX8_spread_23 : decode cX8_spread 23 = .ok (.lor, 1) := by decide +kernel
theorem dX8_spread_24 : decode cX8_spread 24 = .ok (.lload_n 2, 1) := by decide +kernel
theorem dX8_spread_25 : decode cX8_spread 25 = .ok (.bipush 8, 2) := by decide +kernel
theorem dX8_spread_27 : decode cX8_spread 27 = .ok (.lushr, 1) := by decide +kernel
theorem dX8_spread_28 : decode cX8_spread 28 = .ok (.lor, 1) := by decide +kernel
theorem dX8_spread_29 : decode cX8_spread 29 = .ok (.lreturn, 1) := by decide +kernel
theorem dX9_init_0 : decode cX9_init 0 = .ok (.aload_n 0, 1) := by decide +kernel
theorem dX9_init_1 : decode cX9_init 1 = .ok (.invokespecial 3, 3) := by decide +kernel
theorem dX9_init_4 : decode cX9_init 4 = .ok (.aload_n 0, 1) := by decide +kernel
theorem dX9_init_5 : decode cX9_init 5 = .ok (.iconst 0, 1) := by decide +kernel
theorem dX9_init_6 : decode cX9_init 6 = .ok (.putfield 9, 3) := by decide +kernel
theorem dX9_init_9 : decode cX9_init 9 = .ok (.aload_n 0, 1) := by decide +kernel
theorem dX9_init_10 : decode cX9_init 10 = .ok (.iconst 0, 1) := by decide +kernel
theorem dX9_init_11 : decode cX9_init 11 = .ok (.putfield 15, 3) := by decide +kernel
theorem dX9_init_14 : decode cX9_init 14 = .ok (.aload_n 0, 1) := by decide +kernel
theorem dX9_init_15 : decode cX9_init 15 = .ok (.sipush 900, 3) := by decide +kernel
theorem dX9_init_18 : decode cX9_init 18 = .ok (.newarray .int, 2) := by decide +kernel
theorem dX9_init_20 : decode cX9_init 20 = .ok (.putfield 18, 3) := by decide +kernel
theorem dX9_init_23 : decode cX9_init 23 = .ok (.aload_n 0, 1) := by decide +kernel
theorem dX9_init_24 : decode cX9_init 24 = .ok (.sipush 900, 3) := by decide +kernel
theorem dX9_init_27 : decode cX9_init 27 = .ok (.newarray .int, 2) := by decide +kernel
theorem dX9_init_29 : decode cX9_init 29 = .ok (.putfield 22, 3) := by decide +kernel
theorem dX9_init_32 : decode cX9_init 32 = .ok (.aload_n 0, 1) := by decide +kernel
theorem dX9_init_33 : decode cX9_init 33 = .ok (.sipush 900, 3) := by decide +kernel
theorem dX9_init_36 : decode cX9_init 36 = .ok (.newarray .int, 2) := by decide +kernel
theorem dX9_init_38 : decode cX9_init 38 = .ok (.putfield 25, 3) := by decide +kernel
theorem dX9_init_41 : decode cX9_init 41 = .ok (.aload_n 0, 1) := by decide +kernel
theorem dX9_init_42 : decode cX9_init 42 = .ok (.sipush 900, 3) := by decide +kernel
theorem dX9_init_45 : decode cX9_init 45 = .ok (.newarray .int, 2) := by decide +kernel
theorem dX9_init_47 : decode cX9_init 47 = .ok (.putfield 28, 3) := by decide +kernel
theorem dX9_init_50 : decode cX9_init 50 = .ok (.aload_n 0, 1) := by decide +kernel
theorem dX9_init_51 : decode cX9_init 51 = .ok (.sipush 900, 3) := by decide +kernel
theorem dX9_init_54 : decode cX9_init 54 = .ok (.newarray .int, 2) := by decide +kernel
theorem dX9_init_56 : decode cX9_init 56 = .ok (.putfield 31, 3) := by decide +kernel
theorem dX9_init_59 : decode cX9_init 59 = .ok (.aload_n 0, 1) := by decide +kernel
theorem dX9_init_60 : decode cX9_init 60 = .ok (.iconst 0, 1) := by decide +kernel
theorem dX9_init_61 : decode cX9_init 61 = .ok (.putfield 34, 3) := by decide +kernel
theorem dX9_init_64 : decode cX9_init 64 = .ok (.return_, 1) := by decide +kernel
theorem dX9_put_0 : decode cX9_put 0 = .ok (.bipush 24, 2) := by decide +kernel
theorem dX9_put_2 : decode cX9_put 2 = .ok (.istore_n 2, 1) := by decide +kernel
theorem dX9_put_3 : decode cX9_put 3 = .ok (.iload_n 2, 1) := by decide +kernel
theorem dX9_put_4 : decode cX9_put 4 = .ok (.ifCond .lt 45, 3) := by decide +kernel
theorem dX9_put_7 : decode cX9_put 7 = .ok (.aload_n 0, 1) := by decide +kernel
theorem dX9_put_8 : decode cX9_put 8 = .ok (.getfield 9, 3) := by decide +kernel
theorem dX9_put_11 : decode cX9_put 11 = .ok (.sipush 900, 3) := by decide +kernel
theorem dX9_put_14 : decode cX9_put 14 = .ok (.if_icmp .ge 35, 3) := by decide +kernel
theorem dX9_put_17 : decode cX9_put 17 = .ok (.aload_n 0, 1) := by decide +kernel
theorem dX9_put_18 : decode cX9_put 18 = .ok (.getfield 18, 3) := by decide +kernel
theorem dX9_put_21 : decode cX9_put 21 = .ok (.aload_n 0, 1) := by decide +kernel
theorem dX9_put_22 : decode cX9_put 22 = .ok (.getfield 9, 3) := by decide +kernel
theorem dX9_put_25 : decode cX9_put 25 = .ok (.iload_n 1, 1) := by decide +kernel
theorem dX9_put_26 : decode cX9_put 26 = .ok (.iload_n 2, 1) := by decide +kernel
theorem dX9_put_27 : decode cX9_put 27 = .ok (.iushr, 1) := by decide +kernel
theorem dX9_put_28 : decode cX9_put 28 = .ok (.sipush 255, 3) := by decide +kernel
theorem dX9_put_31 : decode cX9_put 31 = .ok (.iand, 1) := by decide +kernel
theorem dX9_put_32 : decode cX9_put 32 = .ok (.iastore, 1) := by decide +kernel
theorem dX9_put_33 : decode cX9_put 33 = .ok (.aload_n 0, 1) := by decide +kernel
theorem dX9_put_34 : decode cX9_put 34 = .ok (.dup, 1) := by decide +kernel
theorem dX9_put_35 : decode cX9_put 35 = .ok (.getfield 9, 3) := by decide +kernel
theorem dX9_put_38 : decode cX9_put 38 = .ok (.iconst 1, 1) := by decide +kernel
theorem dX9_put_39 : decode cX9_put 39 = .ok (.iadd, 1) := by decide +kernel
theorem dX9_put_40 : decode cX9_put 40 = .ok (.putfield 9, 3) := by decide +kernel
theorem dX9_put_43 : decode cX9_put 43 = .ok (.iinc 2 (-8), 3) := by decide +kernel
theorem dX9_put_46 : decode cX9_put 46 = .ok (.goto (-43), 3) := by decide +kernel
theorem dX9_put_49 : decode cX9_put 49 = .ok (.return_, 1) := by decide +kernel
theorem dX9_split_0 : decode cX9_split 0 = .ok (.aload_n 0, 1) := by decide +kernel
theorem dX9_split_1 : decode cX9_split 1 = .ok (.iconst 0, 1) := by decide +kernel
theorem dX9_split_2 : decode cX9_split 2 = .ok (.iload_n 1, 1) := by decide +kernel
theorem dX9_split_3 : decode cX9_split 3 = .ok (.aload_n 0, 1) := by decide +kernel
theorem dX9_split_4 : decode cX9_split 4 = .ok (.getfield 9, 3) := by decide +kernel
theorem dX9_split_7 : decode cX9_split 7 = .ok (.invokestatic 37, 3) := by decide +kernel
theorem dX9_split_10 : decode cX9_split 10 = .ok (.invokestatic 43, 3) := by decide +kernel
theorem dX9_split_13 : decode cX9_split 13 = .ok (.putfield 34, 3) := by decide +kernel
theorem dX9_split_16 : decode cX9_split 16 = .ok (.aload_n 0, 1) := by decide +kernel
theorem dX9_split_17 : decode cX9_split 17 = .ok (.iconst 0, 1) := by decide +kernel
theorem dX9_split_18 : decode cX9_split 18 = .ok (.putfield 15, 3) := by decide +kernel
theorem dX9_split_21 : decode cX9_split 21 = .ok (.iconst 0, 1) := by decide +kernel
theorem dX9_split_22 : decode cX9_split 22 = .ok (.istore_n 2, 1) := by decide +kernel
theorem dX9_split_23 : decode cX9_split 23 = .ok (.iconst 0, 1) := by decide +kernel
theorem dX9_split_24 : decode cX9_split 24 = .ok (.istore_n 3, 1) := by decide +kernel
theorem dX9_split_25 : decode cX9_split 25 = .ok (.iload_n 3, 1) := by decide +kernel
theorem dX9_split_26 : decode cX9_split 26 = .ok (.sipush 900, 3) := by decide +kernel
theorem dX9_split_29 : decode cX9_split 29 = .ok (.if_icmp .ge 45, 3) := by decide +kernel
theorem dX9_split_32 : decode cX9_split 32 = .ok (.iload_n 2, 1) := by decide +kernel
theorem dX9_split_33 : decode cX9_split 33 = .ok (.aload_n 0, 1) := by decide +kernel
theorem dX9_split_34 : decode cX9_split 34 = .ok (.getfield 34, 3) := by decide +kernel
theorem dX9_split_37 : decode cX9_split 37 = .ok (.if_icmp .ge 37, 3) := by decide +kernel
theorem dX9_split_40 : decode cX9_split 40 = .ok (.aload_n 0, 1) := by decide +kernel
theorem dX9_split_41 : decode cX9_split 41 = .ok (.getfield 18, 3) := by decide +kernel
theorem dX9_split_44 : decode cX9_split 44 = .ok (.iload_n 2, 1) := by decide +kernel
theorem dX9_split_45 : decode cX9_split 45 = .ok (.iaload, 1) := by decide +kernel
theorem dX9_split_46 : decode cX9_split 46 = .ok (.invokestatic 46, 3) := by decide +kernel
theorem dX9_split_49 : decode cX9_split 49 = .ok (.ifCond .eq 9, 3) := by decide +kernel
theorem dX9_split_52 : decode cX9_split 52 = .ok (.iload_n 2, 1) := by decide +kernel
theorem dX9_split_53 : decode cX9_split 53 = .ok (.iconst 1, 1) := by decide +kernel
theorem dX9_split_54 : decode cX9_split 54 = .ok (.iadd, 1) := by decide +kernel
theorem dX9_split_55 : decode cX9_split 55 = .ok (.goto 12, 3) := by decide +kernel
theorem dX9_split_58 : decode cX9_split 58 = .ok (.aload_n 0, 1) := by decide +kernel
theorem dX9_split_59 : decode cX9_split 59 = .ok (.iload_n 2, 1) := by decide +kernel
theorem dX9_split_60 : decode cX9_split 60 = .ok (.aload_n 0, 1) := by decide +kernel
theorem dX9_split_61 : decode cX9_split 61 = .ok (.getfield 34, 3) := by decide +kernel
theorem dX9_split_64 : decode cX9_split 64 = .ok (.invokevirtual 50, 3) := by decide +kernel
theorem dX9_split_67 : decode cX9_split 67 = .ok (.istore_n 2, 1) := by decide +kernel
theorem dX9_split_68 : decode cX9_split 68 = .ok (.iinc 3 1, 3) := by decide +kernel
theorem dX9_split_71 : decode cX9_split 71 = .ok (.goto (-46), 3) := by decide +kernel
theorem dX9_split_74 : decode cX9_split 74 = .ok (.return_, 1) := by decide +kernel
theorem dX9_codeAt_0 : decode cX9_codeAt 0 = .ok (.iload_n 1, 1) := by decide +kernel
theorem dX9_codeAt_1 : decode cX9_codeAt 1 = .ok (.ifCond .lt 20, 3) := by decide +kernel
theorem dX9_codeAt_4 : decode cX9_codeAt 4 = .ok (.iload_n 1, 1) := by decide +kernel
theorem dX9_codeAt_5 : decode cX9_codeAt 5 = .ok (.aload_n 0, 1) := by decide +kernel
theorem dX9_codeAt_6 : decode cX9_codeAt 6 = .ok (.getfield 15, 3) := by decide +kernel
theorem dX9_codeAt_9 : decode cX9_codeAt 9 = .ok (.if_icmp .ge 12, 3) := by decide +kernel
theorem dX9_codeAt_12 : decode cX9_codeAt 12 = .ok (.aload_n 0, 1) := by decide +kernel
theorem dX9_codeAt_13 : decode cX9_codeAt 13 = .ok (.getfield 22, 3) := by decide +kernel
theorem dX9_codeAt_16 : decode cX9_codeAt 16 = .ok (.iload_n 1, 1) := by decide +kernel
theorem dX9_codeAt_17 : decode cX9_codeAt 17 = .ok (.iaload, 1) := by decide +kernel
theorem dX9_codeAt_18 : decode cX9_codeAt 18 = .ok (.goto 4, 3) := by decide +kernel
theorem dX9_codeAt_21 : decode cX9_codeAt 21 = .ok (.iconst 0, 1) := by decide +kernel
theorem dX9_codeAt_22 : decode cX9_codeAt 22 = .ok (.ireturn, 1) := by decide +kernel
theorem dX9_widthAt_0 : decode cX9_widthAt 0 = .ok (.iload_n 1, 1) := by decide +kernel
theorem dX9_widthAt_1 : decode cX9_widthAt 1 = .ok (.ifCond .lt 20, 3) := by decide +kernel
theorem dX9_widthAt_4 : decode cX9_widthAt 4 = .ok (.iload_n 1, 1) := by decide +kernel
theorem dX9_widthAt_5 : decode cX9_widthAt 5 = .ok (.aload_n 0, 1) := by decide +kernel
theorem dX9_widthAt_6 : decode cX9_widthAt 6 = .ok (.getfield 15, 3) := by decide +kernel
theorem dX9_widthAt_9 : decode cX9_widthAt 9 = .ok (.if_icmp .ge 12, 3) := by decide +kernel
theorem dX9_widthAt_12 : decode cX9_widthAt 12 = .ok (.aload_n 0, 1) := by decide +kernel
theorem dX9_widthAt_13 : decode cX9_widthAt 13 = .ok (.getfield 28, 3) := by decide +kernel
theorem dX9_widthAt_16 : decode cX9_widthAt 16 = .ok (.iload_n 1, 1) := by decide +kernel
theorem dX9_widthAt_17 : decode cX9_widthAt 17 = .ok (.iaload, 1) := by decide +kernel
theorem dX9_widthAt_18 : decode cX9_widthAt 18 = .ok (.goto 4, 3) := by decide +kernel
theorem dX9_widthAt_21 : decode cX9_widthAt 21 = .ok (.iconst 0, 1) := by decide +kernel
theorem dX9_widthAt_22 : decode cX9_widthAt 22 = .ok (.ireturn, 1) := by decide +kernel
theorem dX9_placeAt_0 : decode cX9_placeAt 0 = .ok (.iload_n 1, 1) := by decide +kernel
theorem dX9_placeAt_1 : decode cX9_placeAt 1 = .ok (.ifCond .lt 20, 3) := by decide +kernel
theorem dX9_placeAt_4 : decode cX9_placeAt 4 = .ok (.iload_n 1, 1) := by decide +kernel
theorem dX9_placeAt_5 : decode cX9_placeAt 5 = .ok (.aload_n 0, 1) := by decide +kernel
theorem dX9_placeAt_6 : decode cX9_placeAt 6 = .ok (.getfield 15, 3) := by decide +kernel
theorem dX9_placeAt_9 : decode cX9_placeAt 9 = .ok (.if_icmp .ge 12, 3) := by decide +kernel
theorem dX9_placeAt_12 : decode cX9_placeAt 12 = .ok (.aload_n 0, 1) := by decide +kernel
theorem dX9_placeAt_13 : decode cX9_placeAt 13 = .ok (.getfield 25, 3) := by decide +kernel
theorem dX9_placeAt_16 : decode cX9_placeAt 16 = .ok (.iload_n 1, 1) := by decide +kernel
theorem dX9_placeAt_17 : decode cX9_placeAt 17 = .ok (.iaload, 1) := by decide +kernel
theorem dX9_placeAt_18 : decode cX9_placeAt 18 = .ok (.goto 7, 3) := by decide +kernel
theorem dX9_placeAt_21 : decode cX9_placeAt 21 = .ok (.aload_n 0, 1) := by decide +kernel
theorem dX9_placeAt_22 : decode cX9_placeAt 22 = .ok (.getfield 34, 3) := by decide +kernel
theorem dX9_placeAt_25 : decode cX9_placeAt 25 = .ok (.ireturn, 1) := by decide +kernel
theorem dX9_take_0 : decode cX9_take 0 = .ok (.aload_n 0, 1) := by decide +kernel
theorem dX9_take_1 : decode cX9_take 1 = .ok (.getfield 15, 3) := by decide +kernel
theorem dX9_take_4 : decode cX9_take 4 = .ok (.sipush 900, 3) := by decide +kernel
theorem dX9_take_7 : decode cX9_take 7 = .ok (.if_icmp .lt 5, 3) := by decide +kernel
theorem dX9_take_10 : decode cX9_take 10 = .ok (.iload_n 2, 1) := by decide +kernel
theorem dX9_take_11 : decode cX9_take 11 = .ok (.ireturn, 1) := by decide +kernel
theorem dX9_take_12 : decode cX9_take 12 = .ok (.iload_n 1, 1) := by decide +kernel
theorem dX9_take_13 : decode cX9_take 13 = .ok (.iconst 1, 1) := by decide +kernel
theorem dX9_take_14 : decode cX9_take 14 = .ok (.iadd, 1) := by decide +kernel
theorem dX9_take_15 : decode cX9_take 15 = .ok (.istore_n 3, 1) := by decide +kernel
theorem dX9_take_16 : decode cX9_take 16 = .ok (.iconst 0, 1) := by decide +kernel
theorem dX9_take_17 : decode cX9_take 17 = .ok (.istore 4, 2) := by decide +kernel
theorem dX9_take_19 : decode cX9_take 19 = .ok (.aload_n 0, 1) := by decide +kernel
theorem dX9_take_20 : decode cX9_take 20 = .ok (.getfield 18, 3) := by decide +kernel
theorem dX9_take_23 : decode cX9_take 23 = .ok (.iload_n 1, 1) := by decide +kernel
theorem dX9_take_24 : decode cX9_take 24 = .ok (.iaload, 1) := by decide +kernel
theorem dX9_take_25 : decode cX9_take 25 = .ok (.invokestatic 53, 3) := by decide +kernel
theorem dX9_take_28 : decode cX9_take 28 = .ok (.ifCond .eq 72, 3) := by decide +kernel
theorem dX9_take_31 : decode cX9_take 31 = .ok (.aload_n 0, 1) := by decide +kernel
theorem dX9_take_32 : decode cX9_take 32 = .ok (.getfield 18, 3) := by decide +kernel
theorem dX9_take_35 : decode cX9_take 35 = .ok (.iload_n 1, 1) := by decide +kernel
theorem dX9_take_36 : decode cX9_take 36 = .ok (.iaload, 1) := by decide +kernel
theorem dX9_take_37 : decode cX9_take 37 = .ok (.bipush 48, 2) := by decide +kernel
theorem dX9_take_39 : decode cX9_take 39 = .ok (.isub, 1) := by decide +kernel
theorem dX9_take_40 : decode cX9_take 40 = .ok (.istore 4, 2) := by decide +kernel
theorem dX9_take_42 : decode cX9_take 42 = .ok (.iload_n 3, 1) := by decide +kernel
theorem dX9_take_43 : decode cX9_take 43 = .ok (.iload_n 2, 1) := by decide +kernel
theorem dX9_take_44 : decode cX9_take 44 = .ok (.if_icmp .ge 43, 3) := by decide +kernel
theorem dX9_take_47 : decode cX9_take 47 = .ok (.aload_n 0, 1) := by decide +kernel
theorem dX9_take_48 : decode cX9_take 48 = .ok (.getfield 18, 3) := by decide +kernel
theorem dX9_take_51 : decode cX9_take 51 = .ok (.iload_n 3, 1) := by decide +kernel
theorem dX9_take_52 : decode cX9_take 52 = .ok (.iaload, 1) := by decide +kernel
theorem dX9_take_53 : decode cX9_take 53 = .ok (.invokestatic 53, 3) := by decide +kernel
theorem dX9_take_56 : decode cX9_take 56 = .ok (.ifCond .eq 31, 3) := by decide +kernel
theorem dX9_take_59 : decode cX9_take 59 = .ok (.ldc 56, 2) := by decide +kernel
theorem dX9_take_61 : decode cX9_take 61 = .ok (.bipush 10, 2) := by decide +kernel
theorem dX9_take_63 : decode cX9_take 63 = .ok (.iload 4, 2) := by decide +kernel
theorem dX9_take_65 : decode cX9_take 65 = .ok (.imul, 1) := by decide +kernel
theorem dX9_take_66 : decode cX9_take 66 = .ok (.aload_n 0, 1) := by decide +kernel
theorem dX9_take_67 : decode cX9_take 67 = .ok (.getfield 18, 3) := by decide +kernel
theorem dX9_take_70 : decode cX9_take 70 = .ok (.iload_n 3, 1) := by decide +kernel
theorem dX9_take_71 : decode cX9_take 71 = .ok (.iaload, 1) := by decide +kernel
theorem dX9_take_72 : decode cX9_take 72 = .ok (.iadd, 1) := by decide +kernel
theorem dX9_take_73 : decode cX9_take 73 = .ok (.bipush 48, 2) := by decide +kernel
theorem dX9_take_75 : decode cX9_take 75 = .ok (.isub, 1) := by decide +kernel
theorem dX9_take_76 : decode cX9_take 76 = .ok (.invokestatic 37, 3) := by decide +kernel
theorem dX9_take_79 : decode cX9_take 79 = .ok (.istore 4, 2) := by decide +kernel
theorem dX9_take_81 : decode cX9_take 81 = .ok (.iinc 3 1, 3) := by decide +kernel
theorem dX9_take_84 : decode cX9_take 84 = .ok (.goto (-42), 3) := by decide +kernel
theorem dX9_take_87 : decode cX9_take 87 = .ok (.aload_n 0, 1) := by decide +kernel
theorem dX9_take_88 : decode cX9_take 88 = .ok (.getfield 22, 3) := by decide +kernel
theorem dX9_take_91 : decode cX9_take 91 = .ok (.aload_n 0, 1) := by decide +kernel
theorem dX9_take_92 : decode cX9_take 92 = .ok (.getfield 15, 3) := by decide +kernel
theorem dX9_take_95 : decode cX9_take 95 = .ok (.iconst 2, 1) := by decide +kernel
theorem dX9_take_96 : decode cX9_take 96 = .ok (.iastore, 1) := by decide +kernel
theorem dX9_take_97 : decode cX9_take 97 = .ok (.goto 92, 3) := by decide +kernel
theorem dX9_take_100 : decode cX9_take 100 = .ok (.aload_n 0, 1) := by decide +kernel
theorem dX9_take_101 : decode cX9_take 101 = .ok (.getfield 18, 3) := by decide +kernel
theorem dX9_take_104 : decode cX9_take 104 = .ok (.iload_n 1, 1) := by decide +kernel
theorem dX9_take_105 : decode cX9_take 105 = .ok (.iaload, 1) := by decide +kernel
theorem dX9_take_106 : decode cX9_take 106 = .ok (.invokestatic 57, 3) := by decide +kernel
theorem dX9_take_109 : decode cX9_take 109 = .ok (.ifCond .eq 46, 3) := by decide +kernel
theorem dX9_take_112 : decode cX9_take 112 = .ok (.iload_n 3, 1) := by decide +kernel
theorem dX9_take_113 : decode cX9_take 113 = .ok (.iload_n 2, 1) := by decide +kernel
theorem dX9_take_114 : decode cX9_take 114 = .ok (.if_icmp .ge 21, 3) := by decide +kernel
theorem dX9_take_117 : decode cX9_take 117 = .ok (.aload_n 0, 1) := by decide +kernel
theorem dX9_take_118 : decode cX9_take 118 = .ok (.getfield 18, 3) := by decide +kernel
theorem dX9_take_121 : decode cX9_take 121 = .ok (.iload_n 3, 1) := by decide +kernel
theorem dX9_take_122 : decode cX9_take 122 = .ok (.iaload, 1) := by decide +kernel
theorem dX9_take_123 : decode cX9_take 123 = .ok (.invokestatic 57, 3) := by decide +kernel
theorem dX9_take_126 : decode cX9_take 126 = .ok (.ifCond .eq 9, 3) := by decide +kernel
theorem dX9_take_129 : decode cX9_take 129 = .ok (.iinc 3 1, 3) := by decide +kernel
theorem dX9_take_132 : decode cX9_take 132 = .ok (.goto (-20), 3) := by decide +kernel
theorem dX9_take_135 : decode cX9_take 135 = .ok (.aload_n 0, 1) := by decide +kernel
theorem dX9_take_136 : decode cX9_take 136 = .ok (.getfield 22, 3) := by decide +kernel
theorem dX9_take_139 : decode cX9_take 139 = .ok (.aload_n 0, 1) := by decide +kernel
theorem dX9_take_140 : decode cX9_take 140 = .ok (.getfield 15, 3) := by decide +kernel
theorem dX9_take_143 : decode cX9_take 143 = .ok (.aload_n 0, 1) := by decide +kernel
theorem dX9_take_144 : decode cX9_take 144 = .ok (.iload_n 1, 1) := by decide +kernel
theorem dX9_take_145 : decode cX9_take 145 = .ok (.iload_n 3, 1) := by decide +kernel
theorem dX9_take_146 : decode cX9_take 146 = .ok (.iload_n 1, 1) := by decide +kernel
theorem dX9_take_147 : decode cX9_take 147 = .ok (.isub, 1) := by decide +kernel
theorem dX9_take_148 : decode cX9_take 148 = .ok (.invokevirtual 60, 3) := by decide +kernel
theorem dX9_take_151 : decode cX9_take 151 = .ok (.iastore, 1) := by decide +kernel
theorem dX9_take_152 : decode cX9_take 152 = .ok (.goto 37, 3) := by decide +kernel
theorem dX9_take_155 : decode cX9_take 155 = .ok (.aload_n 0, 1) := by decide +kernel
theorem dX9_take_156 : decode cX9_take 156 = .ok (.getfield 22, 3) := by decide +kernel
theorem dX9_take_159 : decode cX9_take 159 = .ok (.aload_n 0, 1) := by decide +kernel
theorem dX9_take_160 : decode cX9_take 160 = .ok (.getfield 15, 3) := by decide +kernel
theorem dX9_take_163 : decode cX9_take 163 = .ok (.ldc 63, 2) := by decide +kernel
theorem dX9_take_165 : decode cX9_take 165 = .ok (.aload_n 0, 1) := by decide +kernel
theorem dX9_take_166 : decode cX9_take 166 = .ok (.getfield 18, 3) := by decide +kernel
theorem dX9_take_169 : decode cX9_take 169 = .ok (.iload_n 1, 1) := by decide +kernel
theorem dX9_take_170 : decode cX9_take 170 = .ok (.iaload, 1) := by decide +kernel
theorem dX9_take_171 : decode cX9_take 171 = .ok (.i2c, 1) := by decide +kernel
theorem dX9_take_172 : decode cX9_take 172 = .ok (.invokevirtual 65, 3) := by decide +kernel
theorem dX9_take_175 : decode cX9_take 175 = .ok (.ifCond .lt 12, 3) := by decide +kernel
theorem dX9_take_178 : decode cX9_take 178 = .ok (.aload_n 0, 1) := by decide +kernel
theorem dX9_take_179 : decode cX9_take 179 = .ok (.getfield 18, 3) := by decide +kernel
theorem dX9_take_182 : decode cX9_take 182 = .ok (.iload_n 1, 1) := by decide +kernel
theorem dX9_take_183 : decode cX9_take 183 = .ok (.iaload, 1) := by decide +kernel
theorem dX9_take_184 : decode cX9_take 184 = .ok (.goto 4, 3) := by decide +kernel
theorem dX9_take_187 : decode cX9_take 187 = .ok (.iconst 1, 1) := by decide +kernel
theorem dX9_take_188 : decode cX9_take 188 = .ok (.iastore, 1) := by decide +kernel
theorem dX9_take_189 : decode cX9_take 189 = .ok (.aload_n 0, 1) := by decide +kernel
theorem dX9_take_190 : decode cX9_take 190 = .ok (.getfield 25, 3) := by decide +kernel
theorem dX9_take_193 : decode cX9_take 193 = .ok (.aload_n 0, 1) := by decide +kernel
theorem dX9_take_194 : decode cX9_take 194 = .ok (.getfield 15, 3) := by decide +kernel
theorem dX9_take_197 : decode cX9_take 197 = .ok (.iload_n 1, 1) := by decide +kernel
theorem dX9_take_198 : decode cX9_take 198 = .ok (.iastore, 1) := by decide +kernel
theorem dX9_take_199 : decode cX9_take 199 = .ok (.aload_n 0, 1) := by decide +kernel
theorem dX9_take_200 : decode cX9_take 200 = .ok (.getfield 28, 3) := by decide +kernel
theorem dX9_take_203 : decode cX9_take 203 = .ok (.aload_n 0, 1) := by decide +kernel
theorem dX9_take_204 : decode cX9_take 204 = .ok (.getfield 15, 3) := by decide +kernel
theorem dX9_take_207 : decode cX9_take 207 = .ok (.iload_n 3, 1) := by decide +kernel
theorem dX9_take_208 : decode cX9_take 208 = .ok (.iload_n 1, 1) := by decide +kernel
theorem dX9_take_209 : decode cX9_take 209 = .ok (.isub, 1) := by decide +kernel
theorem dX9_take_210 : decode cX9_take 210 = .ok (.iastore, 1) := by decide +kernel
theorem dX9_take_211 : decode cX9_take 211 = .ok (.aload_n 0, 1) := by decide +kernel
theorem dX9_take_212 : decode cX9_take 212 = .ok (.getfield 31, 3) := by decide +kernel
theorem dX9_take_215 : decode cX9_take 215 = .ok (.aload_n 0, 1) := by decide +kernel
theorem dX9_take_216 : decode cX9_take 216 = .ok (.getfield 15, 3) := by decide +kernel
theorem dX9_take_219 : decode cX9_take 219 = .ok (.iload 4, 2) := by decide +kernel
theorem dX9_take_221 : decode cX9_take 221 = .ok (.iastore, 1) := by decide +kernel
theorem dX9_take_222 : decode cX9_take 222 = .ok (.aload_n 0, 1) := by decide +kernel
theorem dX9_take_223 : decode cX9_take 223 = .ok (.dup, 1) := by decide +kernel
theorem dX9_take_224 : decode cX9_take 224 = .ok (.getfield 15, 3) := by decide +kernel
theorem dX9_take_227 : decode cX9_take 227 = .ok (.iconst 1, 1) := by decide +kernel
theorem dX9_take_228 : decode cX9_take 228 = .ok (.iadd, 1) := by decide +kernel
theorem dX9_take_229 : decode cX9_take 229 = .ok (.putfield 15, 3) := by decide +kernel
theorem dX9_take_232 : decode cX9_take 232 = .ok (.iload_n 3, 1) := by decide +kernel
theorem dX9_take_233 : decode cX9_take 233 = .ok (.ireturn, 1) := by decide +kernel
theorem dX9_wordCode_0 : decode cX9_wordCode 0 = .ok (.iconst 0, 1) := by decide +kernel
theorem dX9_wordCode_1 : decode cX9_wordCode 1 = .ok (.istore_n 3, 1) := by decide +kernel
theorem dX9_wordCode_2 : decode cX9_wordCode 2 = .ok (.iload_n 3, 1) := by decide +kernel
theorem dX9_wordCode_3 : decode cX9_wordCode 3 = .ok (.iconst 2, 1) := by decide +kernel
theorem dX9_wordCode_4 : decode cX9_wordCode 4 = .ok (.if_icmp .gt 28, 3) := by decide +kernel
theorem dX9_wordCode_7 : decode cX9_wordCode 7 = .ok (.aload_n 0, 1) := by decide +kernel
theorem dX9_wordCode_8 : decode cX9_wordCode 8 = .ok (.iload_n 1, 1) := by decide +kernel
theorem dX9_wordCode_9 : decode cX9_wordCode 9 = .ok (.iload_n 2, 1) := by decide +kernel
theorem dX9_wordCode_10 : decode cX9_wordCode 10 = .ok (.iload_n 3, 1) := by decide +kernel
theorem dX9_wordCode_11 : decode cX9_wordCode 11 = .ok (.invokestatic 71, 3) := by decide +kernel
theorem dX9_wordCode_14 : decode cX9_wordCode 14 = .ok (.invokevirtual 75, 3) := by decide +kernel
theorem dX9_wordCode_17 : decode cX9_wordCode 17 = .ok (.ifCond .eq 9, 3) := by decide +kernel
theorem dX9_wordCode_20 : decode cX9_wordCode 20 = .ok (.sipush 200, 3) := by decide +kernel
theorem dX9_wordCode_23 : decode cX9_wordCode 23 = .ok (.iload_n 3, 1) := by decide +kernel
theorem dX9_wordCode_24 : decode cX9_wordCode 24 = .ok (.iadd, 1) := by decide +kernel
theorem dX9_wordCode_25 : decode cX9_wordCode 25 = .ok (.ireturn, 1) := by decide +kernel
theorem dX9_wordCode_26 : decode cX9_wordCode 26 = .ok (.iinc 3 1, 3) := by decide +kernel
theorem dX9_wordCode_29 : decode cX9_wordCode 29 = .ok (.goto (-27), 3) := by decide +kernel
theorem dX9_wordCode_32 : decode cX9_wordCode 32 = .ok (.iconst 0, 1) := by decide +kernel
theorem dX9_wordCode_33 : decode cX9_wordCode 33 = .ok (.istore_n 3, 1) := by decide +kernel
theorem dX9_wordCode_34 : decode cX9_wordCode 34 = .ok (.iload_n 3, 1) := by decide +kernel
theorem dX9_wordCode_35 : decode cX9_wordCode 35 = .ok (.iconst 5, 1) := by decide +kernel
theorem dX9_wordCode_36 : decode cX9_wordCode 36 = .ok (.if_icmp .ge 28, 3) := by decide +kernel
theorem dX9_wordCode_39 : decode cX9_wordCode 39 = .ok (.aload_n 0, 1) := by decide +kernel
theorem dX9_wordCode_40 : decode cX9_wordCode 40 = .ok (.iload_n 1, 1) := by decide +kernel
theorem dX9_wordCode_41 : decode cX9_wordCode 41 = .ok (.iload_n 2, 1) := by decide +kernel
theorem dX9_wordCode_42 : decode cX9_wordCode 42 = .ok (.iload_n 3, 1) := by decide +kernel
theorem dX9_wordCode_43 : decode cX9_wordCode 43 = .ok (.invokestatic 79, 3) := by decide +kernel
theorem dX9_wordCode_46 : decode cX9_wordCode 46 = .ok (.invokevirtual 75, 3) := by decide +kernel
theorem dX9_wordCode_49 : decode cX9_wordCode 49 = .ok (.ifCond .eq 9, 3) := by decide +kernel
theorem dX9_wordCode_52 : decode cX9_wordCode 52 = .ok (.sipush 210, 3) := by decide +kernel
theorem dX9_wordCode_55 : decode cX9_wordCode 55 = .ok (.iload_n 3, 1) := by decide +kernel
theorem dX9_wordCode_56 : decode cX9_wordCode 56 = .ok (.iadd, 1) := by decide +kernel
theorem dX9_wordCode_57 : decode cX9_wordCode 57 = .ok (.ireturn, 1) := by decide +kernel
theorem dX9_wordCode_58 : decode cX9_wordCode 58 = .ok (.iinc 3 1, 3) := by decide +kernel
theorem dX9_wordCode_61 : decode cX9_wordCode 61 = .ok (.goto (-27), 3) := by decide +kernel
theorem dX9_wordCode_64 : decode cX9_wordCode 64 = .ok (.sipush 220, 3) := by decide +kernel
theorem dX9_wordCode_67 : decode cX9_wordCode 67 = .ok (.istore_n 3, 1) := by decide +kernel
theorem dX9_wordCode_68 : decode cX9_wordCode 68 = .ok (.iload_n 3, 1) := by decide +kernel
theorem dX9_wordCode_69 : decode cX9_wordCode 69 = .ok (.sipush 229, 3) := by decide +kernel
theorem dX9_wordCode_72 : decode cX9_wordCode 72 = .ok (.if_icmp .gt 24, 3) := by decide +kernel
theorem dX9_wordCode_75 : decode cX9_wordCode 75 = .ok (.aload_n 0, 1) := by decide +kernel
theorem dX9_wordCode_76 : decode cX9_wordCode 76 = .ok (.iload_n 1, 1) := by decide +kernel
theorem dX9_wordCode_77 : decode cX9_wordCode 77 = .ok (.iload_n 2, 1) := by decide +kernel
theorem dX9_wordCode_78 : decode cX9_wordCode 78 = .ok (.iload_n 3, 1) := by decide +kernel
theorem dX9_wordCode_79 : decode cX9_wordCode 79 = .ok (.invokestatic 82, 3) := by decide +kernel
theorem dX9_wordCode_82 : decode cX9_wordCode 82 = .ok (.invokevirtual 75, 3) := by decide +kernel
theorem dX9_wordCode_85 : decode cX9_wordCode 85 = .ok (.ifCond .eq 5, 3) := by decide +kernel
theorem dX9_wordCode_88 : decode cX9_wordCode 88 = .ok (.iload_n 3, 1) := by decide +kernel
theorem dX9_wordCode_89 : decode cX9_wordCode 89 = .ok (.ireturn, 1) := by decide +kernel
theorem dX9_wordCode_90 : decode cX9_wordCode 90 = .ok (.iinc 3 1, 3) := by decide +kernel
theorem dX9_wordCode_93 : decode cX9_wordCode 93 = .ok (.goto (-25), 3) := by decide +kernel
