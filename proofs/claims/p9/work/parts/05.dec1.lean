theorem dX1_init_0 : decode cX1_init 0 = .ok (.aload_n 0, 1) := by decide +kernel
theorem dX1_init_1 : decode cX1_init 1 = .ok (.invokespecial 3, 3) := by decide +kernel
theorem dX1_init_4 : decode cX1_init 4 = .ok (.aload_n 0, 1) := by decide +kernel
theorem dX1_init_5 : decode cX1_init 5 = .ok (.iload_n 1, 1) := by decide +kernel
theorem dX1_init_6 : decode cX1_init 6 = .ok (.putfield 9, 3) := by decide +kernel
theorem dX1_init_9 : decode cX1_init 9 = .ok (.aload_n 0, 1) := by decide +kernel
theorem dX1_init_10 : decode cX1_init 10 = .ok (.aload_n 2, 1) := by decide +kernel
theorem dX1_init_11 : decode cX1_init 11 = .ok (.putfield 15, 3) := by decide +kernel
theorem dX1_init_14 : decode cX1_init 14 = .ok (.aload_n 0, 1) := by decide +kernel
theorem dX1_init_15 : decode cX1_init 15 = .ok (.iload_n 1, 1) := by decide +kernel
theorem dX1_init_16 : decode cX1_init 16 = .ok (.ifCond .ne 8, 3) := by decide +kernel
theorem dX1_init_19 : decode cX1_init 19 = .ok (.ldc 19, 2) := by decide +kernel
theorem dX1_init_21 : decode cX1_init 21 = .ok (.goto 5, 3) := by decide +kernel
theorem dX1_init_24 : decode cX1_init 24 = .ok (.ldc 20, 2) := by decide +kernel
theorem dX1_init_26 : decode cX1_init 26 = .ok (.putfield 21, 3) := by decide +kernel
theorem dX1_init_29 : decode cX1_init 29 = .ok (.aload_n 0, 1) := by decide +kernel
theorem dX1_init_30 : decode cX1_init 30 = .ok (.sipush 4096, 3) := by decide +kernel
theorem dX1_init_33 : decode cX1_init 33 = .ok (.newarray .int, 2) := by decide +kernel
theorem dX1_init_35 : decode cX1_init 35 = .ok (.putfield 24, 3) := by decide +kernel
theorem dX1_init_38 : decode cX1_init 38 = .ok (.aload_n 0, 1) := by decide +kernel
theorem dX1_init_39 : decode cX1_init 39 = .ok (.bipush 32, 2) := by decide +kernel
theorem dX1_init_41 : decode cX1_init 41 = .ok (.putfield 28, 3) := by decide +kernel
theorem dX1_init_44 : decode cX1_init 44 = .ok (.aload_n 0, 1) := by decide +kernel
theorem dX1_init_45 : decode cX1_init 45 = .ok (.iconst 1, 1) := by decide +kernel
theorem dX1_init_46 : decode cX1_init 46 = .ok (.putfield 31, 3) := by decide +kernel
theorem dX1_init_49 : decode cX1_init 49 = .ok (.return_, 1) := by decide +kernel
theorem dX1_forget_0 : decode cX1_forget 0 = .ok (.aload_n 0, 1) := by decide +kernel
theorem dX1_forget_1 : decode cX1_forget 1 = .ok (.getfield 24, 3) := by decide +kernel
theorem dX1_forget_4 : decode cX1_forget 4 = .ok (.iconst 0, 1) := by decide +kernel
theorem dX1_forget_5 : decode cX1_forget 5 = .ok (.invokestatic 35, 3) := by decide +kernel
theorem dX1_forget_8 : decode cX1_forget 8 = .ok (.aload_n 0, 1) := by decide +kernel
theorem dX1_forget_9 : decode cX1_forget 9 = .ok (.iconst 0, 1) := by decide +kernel
theorem dX1_forget_10 : decode cX1_forget 10 = .ok (.putfield 41, 3) := by decide +kernel
theorem dX1_forget_13 : decode cX1_forget 13 = .ok (.aload_n 0, 1) := by decide +kernel
theorem dX1_forget_14 : decode cX1_forget 14 = .ok (.iconst 0, 1) := by decide +kernel
theorem dX1_forget_15 : decode cX1_forget 15 = .ok (.putfield 44, 3) := by decide +kernel
theorem dX1_forget_18 : decode cX1_forget 18 = .ok (.aload_n 0, 1) := by decide +kernel
theorem dX1_forget_19 : decode cX1_forget 19 = .ok (.iconst 0, 1) := by decide +kernel
theorem dX1_forget_20 : decode cX1_forget 20 = .ok (.putfield 47, 3) := by decide +kernel
theorem dX1_forget_23 : decode cX1_forget 23 = .ok (.aload_n 0, 1) := by decide +kernel
theorem dX1_forget_24 : decode cX1_forget 24 = .ok (.iconst 0, 1) := by decide +kernel
theorem dX1_forget_25 : decode cX1_forget 25 = .ok (.putfield 50, 3) := by decide +kernel
theorem dX1_forget_28 : decode cX1_forget 28 = .ok (.aload_n 0, 1) := by decide +kernel
theorem dX1_forget_29 : decode cX1_forget 29 = .ok (.bipush 32, 2) := by decide +kernel
theorem dX1_forget_31 : decode cX1_forget 31 = .ok (.putfield 28, 3) := by decide +kernel
theorem dX1_forget_34 : decode cX1_forget 34 = .ok (.aload_n 0, 1) := by decide +kernel
theorem dX1_forget_35 : decode cX1_forget 35 = .ok (.iconst 0, 1) := by decide +kernel
theorem dX1_forget_36 : decode cX1_forget 36 = .ok (.putfield 53, 3) := by decide +kernel
theorem dX1_forget_39 : decode cX1_forget 39 = .ok (.aload_n 0, 1) := by decide +kernel
theorem dX1_forget_40 : decode cX1_forget 40 = .ok (.iconst 1, 1) := by decide +kernel
theorem dX1_forget_41 : decode cX1_forget 41 = .ok (.putfield 31, 3) := by decide +kernel
theorem dX1_forget_44 : decode cX1_forget 44 = .ok (.aload_n 0, 1) := by decide +kernel
theorem dX1_forget_45 : decode cX1_forget 45 = .ok (.iconst 0, 1) := by decide +kernel
theorem dX1_forget_46 : decode cX1_forget 46 = .ok (.putfield 56, 3) := by decide +kernel
theorem dX1_forget_49 : decode cX1_forget 49 = .ok (.aload_n 0, 1) := by decide +kernel
theorem dX1_forget_50 : decode cX1_forget 50 = .ok (.lconst 0, 1) := by decide +kernel
theorem dX1_forget_51 : decode cX1_forget 51 = .ok (.putfield 59, 3) := by decide +kernel
theorem dX1_forget_54 : decode cX1_forget 54 = .ok (.return_, 1) := by decide +kernel
theorem dX1_keep_0 : decode cX1_keep 0 = .ok (.iconst 0, 1) := by decide +kernel
theorem dX1_keep_1 : decode cX1_keep 1 = .ok (.istore 4, 2) := by decide +kernel
theorem dX1_keep_3 : decode cX1_keep 3 = .ok (.iload 4, 2) := by decide +kernel
theorem dX1_keep_5 : decode cX1_keep 5 = .ok (.iconst 4, 1) := by decide +kernel
theorem dX1_keep_6 : decode cX1_keep 6 = .ok (.if_icmp .ge 42, 3) := by decide +kernel
theorem dX1_keep_9 : decode cX1_keep 9 = .ok (.iload 4, 2) := by decide +kernel
theorem dX1_keep_11 : decode cX1_keep 11 = .ok (.iload_n 3, 1) := by decide +kernel
theorem dX1_keep_12 : decode cX1_keep 12 = .ok (.if_icmp .ge 36, 3) := by decide +kernel
theorem dX1_keep_15 : decode cX1_keep 15 = .ok (.aload_n 0, 1) := by decide +kernel
theorem dX1_keep_16 : decode cX1_keep 16 = .ok (.getfield 24, 3) := by decide +kernel
theorem dX1_keep_19 : decode cX1_keep 19 = .ok (.iload_n 1, 1) := by decide +kernel
theorem dX1_keep_20 : decode cX1_keep 20 = .ok (.iload 4, 2) := by decide +kernel
theorem dX1_keep_22 : decode cX1_keep 22 = .ok (.iadd, 1) := by decide +kernel
theorem dX1_keep_23 : decode cX1_keep 23 = .ok (.sipush 4095, 3) := by decide +kernel
theorem dX1_keep_26 : decode cX1_keep 26 = .ok (.iand, 1) := by decide +kernel
theorem dX1_keep_27 : decode cX1_keep 27 = .ok (.iload_n 2, 1) := by decide +kernel
theorem dX1_keep_28 : decode cX1_keep 28 = .ok (.bipush 24, 2) := by decide +kernel
theorem dX1_keep_30 : decode cX1_keep 30 = .ok (.bipush 8, 2) := by decide +kernel
theorem dX1_keep_32 : decode cX1_keep 32 = .ok (.iload 4, 2) := by decide +kernel
theorem dX1_keep_34 : decode cX1_keep 34 = .ok (.imul, 1) := by decide +kernel
theorem dX1_keep_35 : decode cX1_keep 35 = .ok (.isub, 1) := by decide +kernel
theorem dX1_keep_36 : decode cX1_keep 36 = .ok (.iushr, 1) := by decide +kernel
theorem dX1_keep_37 : decode cX1_keep 37 = .ok (.sipush 255, 3) := by decide +kernel
theorem dX1_keep_40 : decode cX1_keep 40 = .ok (.iand, 1) := by decide +kernel
theorem dX1_keep_41 : decode cX1_keep 41 = .ok (.iastore, 1) := by decide +kernel
theorem dX1_keep_42 : decode cX1_keep 42 = .ok (.iinc 4 1, 3) := by decide +kernel
theorem dX1_keep_45 : decode cX1_keep 45 = .ok (.goto (-42), 3) := by decide +kernel
theorem dX1_keep_48 : decode cX1_keep 48 = .ok (.return_, 1) := by decide +kernel
theorem dX1_kept_0 : decode cX1_kept 0 = .ok (.aload_n 0, 1) := by decide +kernel
theorem dX1_kept_1 : decode cX1_kept 1 = .ok (.getfield 24, 3) := by decide +kernel
theorem dX1_kept_4 : decode cX1_kept 4 = .ok (.iload_n 1, 1) := by decide +kernel
theorem dX1_kept_5 : decode cX1_kept 5 = .ok (.sipush 4095, 3) := by decide +kernel
theorem dX1_kept_8 : decode cX1_kept 8 = .ok (.iand, 1) := by decide +kernel
theorem dX1_kept_9 : decode cX1_kept 9 = .ok (.iaload, 1) := by decide +kernel
theorem dX1_kept_10 : decode cX1_kept 10 = .ok (.ireturn, 1) := by decide +kernel
theorem dX1_keptWord_0 : decode cX1_keptWord 0 = .ok (.aload_n 0, 1) := by decide +kernel
theorem dX1_keptWord_1 : decode cX1_keptWord 1 = .ok (.iload_n 1, 1) := by decide +kernel
theorem dX1_keptWord_2 : decode cX1_keptWord 2 = .ok (.iconst 1, 1) := by decide +kernel
theorem dX1_keptWord_3 : decode cX1_keptWord 3 = .ok (.iadd, 1) := by decide +kernel
theorem dX1_keptWord_4 : decode cX1_keptWord 4 = .ok (.invokevirtual 63, 3) := by decide +kernel
theorem dX1_keptWord_7 : decode cX1_keptWord 7 = .ok (.bipush 8, 2) := by decide +kernel
theorem dX1_keptWord_9 : decode cX1_keptWord 9 = .ok (.ishl, 1) := by decide +kernel
theorem dX1_keptWord_10 : decode cX1_keptWord 10 = .ok (.aload_n 0, 1) := by decide +kernel
theorem dX1_keptWord_11 : decode cX1_keptWord 11 = .ok (.iload_n 1, 1) := by decide +kernel
theorem dX1_keptWord_12 : decode cX1_keptWord 12 = .ok (.invokevirtual 63, 3) := by decide +kernel
theorem dX1_keptWord_15 : decode cX1_keptWord 15 = .ok (.ior, 1) := by decide +kernel
theorem dX1_keptWord_16 : decode cX1_keptWord 16 = .ok (.ireturn, 1) := by decide +kernel
theorem dX1_valueOf_0 : decode cX1_valueOf 0 = .ok (.iload_n 1, 1) := by decide +kernel
theorem dX1_valueOf_1 : decode cX1_valueOf 1 = .ok (.tableswitch 69 0 5 #[39, 44, 49, 54, 59, 64], 39) := by decide +kernel
theorem dX1_valueOf_40 : decode cX1_valueOf 40 = .ok (.aload_n 0, 1) := by decide +kernel
theorem dX1_valueOf_41 : decode cX1_valueOf 41 = .ok (.getfield 41, 3) := by decide +kernel
theorem dX1_valueOf_44 : decode cX1_valueOf 44 = .ok (.ireturn, 1) := by decide +kernel
theorem dX1_valueOf_45 : decode cX1_valueOf 45 = .ok (.aload_n 0, 1) := by decide +kernel
theorem dX1_valueOf_46 : decode cX1_valueOf 46 = .ok (.getfield 44, 3) := by decide +kernel
theorem dX1_valueOf_49 : decode cX1_valueOf 49 = .ok (.ireturn, 1) := by decide +kernel
theorem dX1_valueOf_50 : decode cX1_valueOf 50 = .ok (.aload_n 0, 1) := by decide +kernel
theorem dX1_valueOf_51 : decode cX1_valueOf 51 = .ok (.getfield 47, 3) := by decide +kernel
theorem dX1_valueOf_54 : decode cX1_valueOf 54 = .ok (.ireturn, 1) := by decide +kernel
theorem dX1_valueOf_55 : decode cX1_valueOf 55 = .ok (.aload_n 0, 1) := by decide +kernel
theorem dX1_valueOf_56 : decode cX1_valueOf 56 = .ok (.getfield 50, 3) := by decide +kernel
theorem dX1_valueOf_59 : decode cX1_valueOf 59 = .ok (.ireturn, 1) := by decide +kernel
theorem dX1_valueOf_60 : decode cX1_valueOf 60 = .ok (.aload_n 0, 1) := by decide +kernel
theorem dX1_valueOf_61 : decode cX1_valueOf 61 = .ok (.getfield 28, 3) := by decide +kernel
theorem dX1_valueOf_64 : decode cX1_valueOf 64 = .ok (.ireturn, 1) := by decide +kernel
theorem dX1_valueOf_65 : decode cX1_valueOf 65 = .ok (.aload_n 0, 1) := by decide +kernel
theorem dX1_valueOf_66 : decode cX1_valueOf 66 = .ok (.getfield 53, 3) := by decide +kernel
theorem dX1_valueOf_69 : decode cX1_valueOf 69 = .ok (.ireturn, 1) := by decide +kernel
theorem dX1_valueOf_70 : decode cX1_valueOf 70 = .ok (.aload_n 0, 1) := by decide +kernel
theorem dX1_valueOf_71 : decode cX1_valueOf 71 = .ok (.invokevirtual 67, 3) := by decide +kernel
theorem dX1_valueOf_74 : decode cX1_valueOf 74 = .ok (.ifCond .eq 7, 3) := by decide +kernel
theorem dX1_valueOf_77 : decode cX1_valueOf 77 = .ok (.iconst 1, 1) := by decide +kernel
theorem dX1_valueOf_78 : decode cX1_valueOf 78 = .ok (.goto 4, 3) := by decide +kernel
theorem dX1_valueOf_81 : decode cX1_valueOf 81 = .ok (.iconst 0, 1) := by decide +kernel
theorem dX1_valueOf_82 : decode cX1_valueOf 82 = .ok (.ireturn, 1) := by decide +kernel
theorem dX1_stepsDone_0 : decode cX1_stepsDone 0 = .ok (.aload_n 0, 1) := by decide +kernel
theorem dX1_stepsDone_1 : decode cX1_stepsDone 1 = .ok (.getfield 59, 3) := by decide +kernel
theorem dX1_stepsDone_4 : decode cX1_stepsDone 4 = .ok (.lreturn, 1) := by decide +kernel
theorem dX1_countsAsStanding_0 : decode cX1_countsAsStanding 0 = .ok (.aload_n 0, 1) := by decide +kernel
theorem dX1_countsAsStanding_1 : decode cX1_countsAsStanding 1 = .ok (.getfield 31, 3) := by decide +kernel
theorem dX1_countsAsStanding_4 : decode cX1_countsAsStanding 4 = .ok (.ifCond .eq 21, 3) := by decide +kernel
theorem dX1_countsAsStanding_7 : decode cX1_countsAsStanding 7 = .ok (.aload_n 0, 1) := by decide +kernel
theorem dX1_countsAsStanding_8 : decode cX1_countsAsStanding 8 = .ok (.getfield 15, 3) := by decide +kernel
theorem dX1_countsAsStanding_11 : decode cX1_countsAsStanding 11 = .ok (.aload_n 0, 1) := by decide +kernel
theorem dX1_countsAsStanding_12 : decode cX1_countsAsStanding 12 = .ok (.getfield 9, 3) := by decide +kernel
theorem dX1_countsAsStanding_15 : decode cX1_countsAsStanding 15 = .ok (.invokevirtual 71, 3) := by decide +kernel
theorem dX1_countsAsStanding_18 : decode cX1_countsAsStanding 18 = .ok (.ifCond .ne 7, 3) := by decide +kernel
theorem dX1_countsAsStanding_21 : decode cX1_countsAsStanding 21 = .ok (.iconst 1, 1) := by decide +kernel
theorem dX1_countsAsStanding_22 : decode cX1_countsAsStanding 22 = .ok (.goto 4, 3) := by decide +kernel
theorem dX1_countsAsStanding_25 : decode cX1_countsAsStanding 25 = .ok (.iconst 0, 1) := by decide +kernel
theorem dX1_countsAsStanding_26 : decode cX1_countsAsStanding 26 = .ok (.ireturn, 1) := by decide +kernel
theorem dX1_restart_0 : decode cX1_restart 0 = .ok (.aload_n 0, 1) := by decide +kernel
theorem dX1_restart_1 : decode cX1_restart 1 = .ok (.sipush 253, 3) := by decide +kernel
theorem dX1_restart_4 : decode cX1_restart 4 = .ok (.putfield 50, 3) := by decide +kernel
theorem dX1_restart_7 : decode cX1_restart 7 = .ok (.aload_n 0, 1) := by decide +kernel
theorem dX1_restart_8 : decode cX1_restart 8 = .ok (.dup, 1) := by decide +kernel
theorem dX1_restart_9 : decode cX1_restart 9 = .ok (.getfield 28, 3) := by decide +kernel
theorem dX1_restart_12 : decode cX1_restart 12 = .ok (.iconst 4, 1) := by decide +kernel
theorem dX1_restart_13 : decode cX1_restart 13 = .ok (.ior, 1) := by decide +kernel
theorem dX1_restart_14 : decode cX1_restart 14 = .ok (.putfield 28, 3) := by decide +kernel
theorem dX1_restart_17 : decode cX1_restart 17 = .ok (.aload_n 0, 1) := by decide +kernel
theorem dX1_restart_18 : decode cX1_restart 18 = .ok (.aload_n 0, 1) := by decide +kernel
theorem dX1_restart_19 : decode cX1_restart 19 = .ok (.ldc 77, 2) := by decide +kernel
theorem dX1_restart_21 : decode cX1_restart 21 = .ok (.invokevirtual 78, 3) := by decide +kernel
theorem dX1_restart_24 : decode cX1_restart 24 = .ok (.putfield 53, 3) := by decide +kernel
theorem dX1_restart_27 : decode cX1_restart 27 = .ok (.aload_n 0, 1) := by decide +kernel
theorem dX1_restart_28 : decode cX1_restart 28 = .ok (.iconst 0, 1) := by decide +kernel
theorem dX1_restart_29 : decode cX1_restart 29 = .ok (.putfield 31, 3) := by decide +kernel
theorem dX1_restart_32 : decode cX1_restart 32 = .ok (.aload_n 0, 1) := by decide +kernel
theorem dX1_restart_33 : decode cX1_restart 33 = .ok (.aload_n 0, 1) := by decide +kernel
theorem dX1_restart_34 : decode cX1_restart 34 = .ok (.getfield 15, 3) := by decide +kernel
theorem dX1_restart_37 : decode cX1_restart 37 = .ok (.aload_n 0, 1) := by decide +kernel
theorem dX1_restart_38 : decode cX1_restart 38 = .ok (.getfield 9, 3) := by decide +kernel
theorem dX1_restart_41 : decode cX1_restart 41 = .ok (.invokevirtual 81, 3) := by decide +kernel
theorem dX1_restart_44 : decode cX1_restart 44 = .ok (.putfield 56, 3) := by decide +kernel
theorem dX1_restart_47 : decode cX1_restart 47 = .ok (.return_, 1) := by decide +kernel
theorem dX1_step_0 : decode cX1_step 0 = .ok (.aload_n 0, 1) := by decide +kernel
theorem dX1_step_1 : decode cX1_step 1 = .ok (.getfield 15, 3) := by decide +kernel
theorem dX1_step_4 : decode cX1_step 4 = .ok (.aload_n 0, 1) := by decide +kernel
theorem dX1_step_5 : decode cX1_step 5 = .ok (.getfield 9, 3) := by decide +kernel
theorem dX1_step_8 : decode cX1_step 8 = .ok (.invokevirtual 71, 3) := by decide +kernel
theorem dX1_step_11 : decode cX1_step 11 = .ok (.ifCond .eq 27, 3) := by decide +kernel
theorem dX1_step_14 : decode cX1_step 14 = .ok (.aload_n 0, 1) := by decide +kernel
theorem dX1_step_15 : decode cX1_step 15 = .ok (.getfield 15, 3) := by decide +kernel
theorem dX1_step_18 : decode cX1_step 18 = .ok (.invokevirtual 84, 3) := by decide +kernel
theorem dX1_step_21 : decode cX1_step 21 = .ok (.aload_n 0, 1) := by decide +kernel
theorem dX1_step_22 : decode cX1_step 22 = .ok (.invokevirtual 87, 3) := by decide +kernel
theorem dX1_step_25 : decode cX1_step 25 = .ok (.aload_n 0, 1) := by decide +kernel
theorem dX1_step_26 : decode cX1_step 26 = .ok (.dup, 1) := by decide +kernel
theorem dX1_step_27 : decode cX1_step 27 = .ok (.getfield 59, 3) := by decide +kernel
theorem dX1_step_30 : decode cX1_step 30 = .ok (.lconst 1, 1) := by decide +kernel
theorem dX1_step_31 : decode cX1_step 31 = .ok (.ladd, 1) := by decide +kernel
theorem dX1_step_32 : decode cX1_step 32 = .ok (.putfield 59, 3) := by decide +kernel
theorem dX1_step_35 : decode cX1_step 35 = .ok (.goto 45, 3) := by decide +kernel
theorem dX1_step_38 : decode cX1_step 38 = .ok (.aload_n 0, 1) := by decide +kernel
theorem dX1_step_39 : decode cX1_step 39 = .ok (.getfield 31, 3) := by decide +kernel
theorem dX1_step_42 : decode cX1_step 42 = .ok (.ifCond .ne 38, 3) := by decide +kernel
theorem dX1_step_45 : decode cX1_step 45 = .ok (.aload_n 0, 1) := by decide +kernel
theorem dX1_step_46 : decode cX1_step 46 = .ok (.getfield 15, 3) := by decide +kernel
theorem dX1_step_49 : decode cX1_step 49 = .ok (.aload_n 0, 1) := by decide +kernel
theorem dX1_step_50 : decode cX1_step 50 = .ok (.getfield 9, 3) := by decide +kernel
theorem dX1_step_53 : decode cX1_step 53 = .ok (.invokevirtual 90, 3) := by decide +kernel
theorem dX1_step_56 : decode cX1_step 56 = .ok (.ifCond .ne 24, 3) := by decide +kernel
theorem dX1_step_59 : decode cX1_step 59 = .ok (.aload_n 0, 1) := by decide +kernel
theorem dX1_step_60 : decode cX1_step 60 = .ok (.invokevirtual 93, 3) := by decide +kernel
theorem dX1_step_63 : decode cX1_step 63 = .ok (.ifCond .ne 7, 3) := by decide +kernel
theorem dX1_step_66 : decode cX1_step 66 = .ok (.aload_n 0, 1) := by decide +kernel
theorem dX1_step_67 : decode cX1_step 67 = .ok (.invokevirtual 96, 3) := by decide +kernel
theorem dX1_step_70 : decode cX1_step 70 = .ok (.aload_n 0, 1) := by decide +kernel
theorem dX1_step_71 : decode cX1_step 71 = .ok (.dup, 1) := by decide +kernel
theorem dX1_step_72 : decode cX1_step 72 = .ok (.getfield 59, 3) := by decide +kernel
theorem dX1_step_75 : decode cX1_step 75 = .ok (.lconst 1, 1) := by decide +kernel
theorem dX1_step_76 : decode cX1_step 76 = .ok (.ladd, 1) := by decide +kernel
theorem dX1_step_77 : decode cX1_step 77 = .ok (.putfield 59, 3) := by decide +kernel
theorem dX1_step_80 : decode cX1_step 80 = .ok (.return_, 1) := by decide +kernel
theorem dX1_breaksIn_0 : decode cX1_breaksIn 0 = .ok (.aload_n 0, 1) := by decide +kernel
theorem dX1_breaksIn_1 : decode cX1_breaksIn 1 = .ok (.getfield 15, 3) := by decide +kernel
theorem dX1_breaksIn_4 : decode cX1_breaksIn 4 = .ok (.aload_n 0, 1) := by decide +kernel
theorem dX1_breaksIn_5 : decode cX1_breaksIn 5 = .ok (.getfield 9, 3) := by decide +kernel
theorem dX1_breaksIn_8 : decode cX1_breaksIn 8 = .ok (.invokevirtual 81, 3) := by decide +kernel
theorem dX1_breaksIn_11 : decode cX1_breaksIn 11 = .ok (.istore_n 1, 1) := by decide +kernel
theorem dX1_breaksIn_12 : decode cX1_breaksIn 12 = .ok (.iload_n 1, 1) := by decide +kernel
theorem dX1_breaksIn_13 : decode cX1_breaksIn 13 = .ok (.ifCond .eq 14, 3) := by decide +kernel
theorem dX1_breaksIn_16 : decode cX1_breaksIn 16 = .ok (.aload_n 0, 1) := by decide +kernel
theorem dX1_breaksIn_17 : decode cX1_breaksIn 17 = .ok (.getfield 56, 3) := by decide +kernel
theorem dX1_breaksIn_20 : decode cX1_breaksIn 20 = .ok (.ifCond .ne 7, 3) := by decide +kernel
theorem dX1_breaksIn_23 : decode cX1_breaksIn 23 = .ok (.iconst 1, 1) := by decide +kernel
theorem dX1_breaksIn_24 : decode cX1_breaksIn 24 = .ok (.goto 4, 3) := by decide +kernel
theorem dX1_breaksIn_27 : decode cX1_breaksIn 27 = .ok (.iconst 0, 1) := by decide +kernel
theorem dX1_breaksIn_28 : decode cX1_breaksIn 28 = .ok (.istore_n 2, 1) := by decide +kernel
theorem dX1_breaksIn_29 : decode cX1_breaksIn 29 = .ok (.aload_n 0, 1) := by decide +kernel
theorem dX1_breaksIn_30 : decode cX1_breaksIn 30 = .ok (.iload_n 1, 1) := by decide +kernel
theorem dX1_breaksIn_31 : decode cX1_breaksIn 31 = .ok (.putfield 56, 3) := by decide +kernel
theorem dX1_breaksIn_34 : decode cX1_breaksIn 34 = .ok (.iload_n 2, 1) := by decide +kernel
theorem dX1_breaksIn_35 : decode cX1_breaksIn 35 = .ok (.ifCond .eq 19, 3) := by decide +kernel
theorem dX1_breaksIn_38 : decode cX1_breaksIn 38 = .ok (.aload_n 0, 1) := by decide +kernel
theorem dX1_breaksIn_39 : decode cX1_breaksIn 39 = .ok (.ldc 99, 2) := by decide +kernel
theorem dX1_breaksIn_41 : decode cX1_breaksIn 41 = .ok (.aload_n 0, 1) := by decide +kernel
theorem dX1_breaksIn_42 : decode cX1_breaksIn 42 = .ok (.getfield 53, 3) := by decide +kernel
theorem dX1_breaksIn_45 : decode cX1_breaksIn 45 = .ok (.aload_n 0, 1) := by decide +kernel
theorem dX1_breaksIn_46 : decode cX1_breaksIn 46 = .ok (.getfield 28, 3) := by decide +kernel
theorem dX1_breaksIn_49 : decode cX1_breaksIn 49 = .ok (.invokevirtual 100, 3) := by decide +kernel
theorem dX1_breaksIn_52 : decode cX1_breaksIn 52 = .ok (.iconst 1, 1) := by decide +kernel
theorem dX1_breaksIn_53 : decode cX1_breaksIn 53 = .ok (.ireturn, 1) := by decide +kernel
theorem dX1_breaksIn_54 : decode cX1_breaksIn 54 = .ok (.aload_n 0, 1) := by decide +kernel
theorem dX1_breaksIn_55 : decode cX1_breaksIn 55 = .ok (.getfield 28, 3) := by decide +kernel
theorem dX1_breaksIn_58 : decode cX1_breaksIn 58 = .ok (.iconst 4, 1) := by decide +kernel
theorem dX1_breaksIn_59 : decode cX1_breaksIn 59 = .ok (.iand, 1) := by decide +kernel
theorem dX1_breaksIn_60 : decode cX1_breaksIn 60 = .ok (.ifCond .ne 33, 3) := by decide +kernel
theorem dX1_breaksIn_63 : decode cX1_breaksIn 63 = .ok (.aload_n 0, 1) := by decide +kernel
theorem dX1_breaksIn_64 : decode cX1_breaksIn 64 = .ok (.getfield 15, 3) := by decide +kernel
theorem dX1_breaksIn_67 : decode cX1_breaksIn 67 = .ok (.aload_n 0, 1) := by decide +kernel
theorem dX1_breaksIn_68 : decode cX1_breaksIn 68 = .ok (.getfield 9, 3) := by decide +kernel
theorem dX1_breaksIn_71 : decode cX1_breaksIn 71 = .ok (.invokevirtual 104, 3) := by decide +kernel
theorem dX1_breaksIn_74 : decode cX1_breaksIn 74 = .ok (.ifCond .eq 19, 3) := by decide +kernel
theorem dX1_breaksIn_77 : decode cX1_breaksIn 77 = .ok (.aload_n 0, 1) := by decide +kernel
theorem dX1_breaksIn_78 : decode cX1_breaksIn 78 = .ok (.ldc 107, 2) := by decide +kernel
theorem dX1_breaksIn_80 : decode cX1_breaksIn 80 = .ok (.aload_n 0, 1) := by decide +kernel
theorem dX1_breaksIn_81 : decode cX1_breaksIn 81 = .ok (.getfield 53, 3) := by decide +kernel
theorem dX1_breaksIn_84 : decode cX1_breaksIn 84 = .ok (.aload_n 0, 1) := by decide +kernel
theorem dX1_breaksIn_85 : decode cX1_breaksIn 85 = .ok (.getfield 28, 3) := by decide +kernel
theorem dX1_breaksIn_88 : decode cX1_breaksIn 88 = .ok (.invokevirtual 100, 3) := by decide +kernel
theorem dX1_breaksIn_91 : decode cX1_breaksIn 91 = .ok (.iconst 1, 1) := by decide +kernel
theorem dX1_breaksIn_92 : decode cX1_breaksIn 92 = .ok (.ireturn, 1) := by decide +kernel
theorem dX1_breaksIn_93 : decode cX1_breaksIn 93 = .ok (.iconst 0, 1) := by decide +kernel
theorem dX1_breaksIn_94 : decode cX1_breaksIn 94 = .ok (.ireturn, 1) := by decide +kernel
theorem dX1_breakTo_0 : decode cX1_breakTo 0 = .ok (.aload_n 0, 1) := by decide +kernel
theorem dX1_breakTo_1 : decode cX1_breakTo 1 = .ok (.iload_n 2, 1) := by decide +kernel
theorem dX1_breakTo_2 : decode cX1_breakTo 2 = .ok (.invokevirtual 108, 3) := by decide +kernel
theorem dX1_breakTo_5 : decode cX1_breakTo 5 = .ok (.aload_n 0, 1) := by decide +kernel
theorem dX1_breakTo_6 : decode cX1_breakTo 6 = .ok (.iload_n 3, 1) := by decide +kernel
theorem dX1_breakTo_7 : decode cX1_breakTo 7 = .ok (.invokevirtual 112, 3) := by decide +kernel
theorem dX1_breakTo_10 : decode cX1_breakTo 10 = .ok (.aload_n 0, 1) := by decide +kernel
theorem dX1_breakTo_11 : decode cX1_breakTo 11 = .ok (.dup, 1) := by decide +kernel
theorem dX1_breakTo_12 : decode cX1_breakTo 12 = .ok (.getfield 28, 3) := by decide +kernel
theorem dX1_breakTo_15 : decode cX1_breakTo 15 = .ok (.iconst 4, 1) := by decide +kernel
theorem dX1_breakTo_16 : decode cX1_breakTo 16 = .ok (.ior, 1) := by decide +kernel
theorem dX1_breakTo_17 : decode cX1_breakTo 17 = .ok (.putfield 28, 3) := by decide +kernel
theorem dX1_breakTo_20 : decode cX1_breakTo 20 = .ok (.aload_n 0, 1) := by decide +kernel
theorem dX1_breakTo_21 : decode cX1_breakTo 21 = .ok (.aload_n 0, 1) := by decide +kernel
theorem dX1_breakTo_22 : decode cX1_breakTo 22 = .ok (.iload_n 1, 1) := by decide +kernel
theorem dX1_breakTo_23 : decode cX1_breakTo 23 = .ok (.invokevirtual 78, 3) := by decide +kernel
theorem dX1_breakTo_26 : decode cX1_breakTo 26 = .ok (.putfield 53, 3) := by decide +kernel
theorem dX1_breakTo_29 : decode cX1_breakTo 29 = .ok (.return_, 1) := by decide +kernel
theorem dX1_instruction_0 : decode cX1_instruction 0 = .ok (.aload_n 0, 1) := by decide +kernel
theorem dX1_instruction_1 : decode cX1_instruction 1 = .ok (.aload_n 0, 1) := by decide +kernel
theorem dX1_instruction_2 : decode cX1_instruction 2 = .ok (.getfield 53, 3) := by decide +kernel
theorem dX1_instruction_5 : decode cX1_instruction 5 = .ok (.invokevirtual 115, 3) := by decide +kernel
theorem dX1_instruction_8 : decode cX1_instruction 8 = .ok (.sipush 255, 3) := by decide +kernel
theorem dX1_instruction_11 : decode cX1_instruction 11 = .ok (.iand, 1) := by decide +kernel
theorem dX1_instruction_12 : decode cX1_instruction 12 = .ok (.istore_n 1, 1) := by decide +kernel
theorem dX1_instruction_13 : decode cX1_instruction 13 = .ok (.getstatic 118, 3) := by decide +kernel
theorem dX1_instruction_16 : decode cX1_instruction 16 = .ok (.iload_n 1, 1) := by decide +kernel
theorem dX1_instruction_17 : decode cX1_instruction 17 = .ok (.iaload, 1) := by decide +kernel
theorem dX1_instruction_18 : decode cX1_instruction 18 = .ok (.istore_n 2, 1) := by decide +kernel
theorem dX1_instruction_19 : decode cX1_instruction 19 = .ok (.iload_n 2, 1) := by decide +kernel
theorem dX1_instruction_20 : decode cX1_instruction 20 = .ok (.ifCond .ne 9, 3) := by decide +kernel
theorem dX1_instruction_23 : decode cX1_instruction 23 = .ok (.aload_n 0, 1) := by decide +kernel
theorem dX1_instruction_24 : decode cX1_instruction 24 = .ok (.iconst 1, 1) := by decide +kernel
theorem dX1_instruction_25 : decode cX1_instruction 25 = .ok (.putfield 31, 3) := by decide +kernel
theorem dX1_instruction_28 : decode cX1_instruction 28 = .ok (.return_, 1) := by decide +kernel
theorem dX1_instruction_29 : decode cX1_instruction 29 = .ok (.aload_n 0, 1) := by decide +kernel
theorem dX1_instruction_30 : decode cX1_instruction 30 = .ok (.aload_n 0, 1) := by decide +kernel
theorem dX1_instruction_31 : decode cX1_instruction 31 = .ok (.getfield 53, 3) := by decide +kernel
theorem dX1_instruction_34 : decode cX1_instruction 34 = .ok (.iconst 1, 1) := by decide +kernel
theorem dX1_instruction_35 : decode cX1_instruction 35 = .ok (.iadd, 1) := by decide +kernel
theorem dX1_instruction_36 : decode cX1_instruction 36 = .ok (.ldc 123, 2) := by decide +kernel
theorem dX1_instruction_38 : decode cX1_instruction 38 = .ok (.iand, 1) := by decide +kernel
theorem dX1_instruction_39 : decode cX1_instruction 39 = .ok (.putfield 53, 3) := by decide +kernel
theorem dX1_instruction_42 : decode cX1_instruction 42 = .ok (.aload_n 0, 1) := by decide +kernel
theorem dX1_instruction_43 : decode cX1_instruction 43 = .ok (.getstatic 124, 3) := by decide +kernel
theorem dX1_instruction_46 : decode cX1_instruction 46 = .ok (.iload_n 1, 1) := by decide +kernel
theorem dX1_instruction_47 : decode cX1_instruction 47 = .ok (.iaload, 1) := by decide +kernel
theorem dX1_instruction_48 : decode cX1_instruction 48 = .ok (.invokevirtual 127, 3) := by decide +kernel
theorem dX1_instruction_51 : decode cX1_instruction 51 = .ok (.istore_n 3, 1) := by decide +kernel
theorem dX1_instruction_52 : decode cX1_instruction 52 = .ok (.iload_n 2, 1) := by decide +kernel
theorem dX1_instruction_53 : decode cX1_instruction 53 = .ok (.iconst 4, 1) := by decide +kernel
theorem dX1_instruction_54 : decode cX1_instruction 54 = .ok (.ishr, 1) := by decide +kernel
theorem dX1_instruction_55 : decode cX1_instruction 55 = .ok (.tableswitch 105 1 7 #[41, 54, 63, 72, 80, 88, 96], 41) := by decide +kernel
theorem dX1_instruction_96 : decode cX1_instruction 96 = .ok (.aload_n 0, 1) := by decide +kernel
theorem dX1_instruction_97 : decode cX1_instruction 97 = .ok (.iload_n 2, 1) := by decide +kernel
theorem dX1_instruction_98 : decode cX1_instruction 98 = .ok (.aload_n 0, 1) := by decide +kernel
theorem dX1_instruction_99 : decode cX1_instruction 99 = .ok (.iload_n 3, 1) := by decide +kernel
theorem dX1_instruction_100 : decode cX1_instruction 100 = .ok (.invokevirtual 115, 3) := by decide +kernel
theorem dX1_instruction_103 : decode cX1_instruction 103 = .ok (.invokevirtual 130, 3) := by decide +kernel
theorem dX1_instruction_106 : decode cX1_instruction 106 = .ok (.goto 64, 3) := by decide +kernel
theorem dX1_instruction_109 : decode cX1_instruction 109 = .ok (.aload_n 0, 1) := by decide +kernel
theorem dX1_instruction_110 : decode cX1_instruction 110 = .ok (.iload_n 2, 1) := by decide +kernel
theorem dX1_instruction_111 : decode cX1_instruction 111 = .ok (.iload_n 3, 1) := by decide +kernel
theorem dX1_instruction_112 : decode cX1_instruction 112 = .ok (.invokevirtual 134, 3) := by decide +kernel
theorem dX1_instruction_115 : decode cX1_instruction 115 = .ok (.goto 55, 3) := by decide +kernel
theorem dX1_instruction_118 : decode cX1_instruction 118 = .ok (.aload_n 0, 1) := by decide +kernel
theorem dX1_instruction_119 : decode cX1_instruction 119 = .ok (.iload_n 2, 1) := by decide +kernel
theorem dX1_instruction_120 : decode cX1_instruction 120 = .ok (.iload_n 3, 1) := by decide +kernel
theorem dX1_instruction_121 : decode cX1_instruction 121 = .ok (.invokevirtual 137, 3) := by decide +kernel
theorem dX1_instruction_124 : decode cX1_instruction 124 = .ok (.goto 46, 3) := by decide +kernel
theorem dX1_instruction_127 : decode cX1_instruction 127 = .ok (.aload_n 0, 1) := by decide +kernel
theorem dX1_instruction_128 : decode cX1_instruction 128 = .ok (.iload_n 2, 1) := by decide +kernel
theorem dX1_instruction_129 : decode cX1_instruction 129 = .ok (.invokevirtual 140, 3) := by decide +kernel
theorem dX1_instruction_132 : decode cX1_instruction 132 = .ok (.goto 38, 3) := by decide +kernel
theorem dX1_instruction_135 : decode cX1_instruction 135 = .ok (.aload_n 0, 1) := by decide +kernel
theorem dX1_instruction_136 : decode cX1_instruction 136 = .ok (.iload_n 2, 1) := by decide +kernel
theorem dX1_instruction_137 : decode cX1_instruction 137 = .ok (.invokevirtual 143, 3) := by decide +kernel
theorem dX1_instruction_140 : decode cX1_instruction 140 = .ok (.goto 30, 3) := by decide +kernel
theorem dX1_instruction_143 : decode cX1_instruction 143 = .ok (.aload_n 0, 1) := by decide +kernel
theorem dX1_instruction_144 : decode cX1_instruction 144 = .ok (.iload_n 2, 1) := by decide +kernel
theorem dX1_instruction_145 : decode cX1_instruction 145 = .ok (.invokevirtual 146, 3) := by decide +kernel
theorem dX1_instruction_148 : decode cX1_instruction 148 = .ok (.goto 22, 3) := by decide +kernel
theorem dX1_instruction_151 : decode cX1_instruction 151 = .ok (.aload_n 0, 1) := by decide +kernel
theorem dX1_instruction_152 : decode cX1_instruction 152 = .ok (.iload_n 2, 1) := by decide +kernel
theorem dX1_instruction_153 : decode cX1_instruction 153 = .ok (.iload_n 3, 1) := by decide +kernel
theorem dX1_instruction_154 : decode cX1_instruction 154 = .ok (.invokevirtual 149, 3) := by decide +kernel
theorem dX1_instruction_157 : decode cX1_instruction 157 = .ok (.goto 13, 3) := by decide +kernel
theorem dX1_instruction_160 : decode cX1_instruction 160 = .ok (.aload_n 0, 1) := by decide +kernel
theorem dX1_instruction_161 : decode cX1_instruction 161 = .ok (.iload_n 2, 1) := by decide +kernel
theorem dX1_instruction_162 : decode cX1_instruction 162 = .ok (.aload_n 0, 1) := by decide +kernel
theorem dX1_instruction_163 : decode cX1_instruction 163 = .ok (.iload_n 3, 1) := by decide +kernel
theorem dX1_instruction_164 : decode cX1_instruction 164 = .ok (.invokevirtual 115, 3) := by decide +kernel
theorem dX1_instruction_167 : decode cX1_instruction 167 = .ok (.invokevirtual 152, 3) := by decide +kernel
theorem dX1_instruction_170 : decode cX1_instruction 170 = .ok (.return_, 1) := by decide +kernel
theorem dX1_placeOf_0 : decode cX1_placeOf 0 = .ok (.iload_n 1, 1) := by decide +kernel
theorem dX1_placeOf_1 : decode cX1_placeOf 1 = .ok (.tableswitch 169 0 10 #[59, 61, 66, 71, 85, 169, 134, 147, 99, 117, 160], 59) := by decide +kernel
theorem dX1_placeOf_60 : decode cX1_placeOf 60 = .ok (.iconst (-1), 1) := by decide +kernel
theorem dX1_placeOf_61 : decode cX1_placeOf 61 = .ok (.ireturn, 1) := by decide +kernel
theorem dX1_placeOf_62 : decode cX1_placeOf 62 = .ok (.aload_n 0, 1) := by decide +kernel
theorem dX1_placeOf_63 : decode cX1_placeOf 63 = .ok (.invokevirtual 155, 3) := by decide +kernel
theorem dX1_placeOf_66 : decode cX1_placeOf 66 = .ok (.ireturn, 1) := by decide +kernel
theorem dX1_placeOf_67 : decode cX1_placeOf 67 = .ok (.aload_n 0, 1) := by decide +kernel
theorem dX1_placeOf_68 : decode cX1_placeOf 68 = .ok (.invokevirtual 159, 3) := by decide +kernel
theorem dX1_placeOf_71 : decode cX1_placeOf 71 = .ok (.ireturn, 1) := by decide +kernel
theorem dX1_placeOf_72 : decode cX1_placeOf 72 = .ok (.aload_n 0, 1) := by decide +kernel
theorem dX1_placeOf_73 : decode cX1_placeOf 73 = .ok (.invokevirtual 159, 3) := by decide +kernel
theorem dX1_placeOf_76 : decode cX1_placeOf 76 = .ok (.aload_n 0, 1) := by decide +kernel
theorem dX1_placeOf_77 : decode cX1_placeOf 77 = .ok (.getfield 44, 3) := by decide +kernel
theorem dX1_placeOf_80 : decode cX1_placeOf 80 = .ok (.iadd, 1) := by decide +kernel
theorem dX1_placeOf_81 : decode cX1_placeOf 81 = .ok (.sipush 255, 3) := by decide +kernel
theorem dX1_placeOf_84 : decode cX1_placeOf 84 = .ok (.iand, 1) := by decide +kernel
theorem dX1_placeOf_85 : decode cX1_placeOf 85 = .ok (.ireturn, 1) := by decide +kernel
theorem dX1_placeOf_86 : decode cX1_placeOf 86 = .ok (.aload_n 0, 1) := by decide +kernel
theorem dX1_placeOf_87 : decode cX1_placeOf 87 = .ok (.invokevirtual 159, 3) := by decide +kernel
theorem dX1_placeOf_90 : decode cX1_placeOf 90 = .ok (.aload_n 0, 1) := by decide +kernel
theorem dX1_placeOf_91 : decode cX1_placeOf 91 = .ok (.getfield 47, 3) := by decide +kernel
theorem dX1_placeOf_94 : decode cX1_placeOf 94 = .ok (.iadd, 1) := by decide +kernel
theorem dX1_placeOf_95 : decode cX1_placeOf 95 = .ok (.sipush 255, 3) := by decide +kernel
theorem dX1_placeOf_98 : decode cX1_placeOf 98 = .ok (.iand, 1) := by decide +kernel
theorem dX1_placeOf_99 : decode cX1_placeOf 99 = .ok (.ireturn, 1) := by decide +kernel
theorem dX1_placeOf_100 : decode cX1_placeOf 100 = .ok (.aload_n 0, 1) := by decide +kernel
theorem dX1_placeOf_101 : decode cX1_placeOf 101 = .ok (.aload_n 0, 1) := by decide +kernel
theorem dX1_placeOf_102 : decode cX1_placeOf 102 = .ok (.invokevirtual 159, 3) := by decide +kernel
theorem dX1_placeOf_105 : decode cX1_placeOf 105 = .ok (.aload_n 0, 1) := by decide +kernel
theorem dX1_placeOf_106 : decode cX1_placeOf 106 = .ok (.getfield 44, 3) := by decide +kernel
theorem dX1_placeOf_109 : decode cX1_placeOf 109 = .ok (.iadd, 1) := by decide +kernel
theorem dX1_placeOf_110 : decode cX1_placeOf 110 = .ok (.sipush 255, 3) := by decide +kernel
theorem dX1_placeOf_113 : decode cX1_placeOf 113 = .ok (.iand, 1) := by decide +kernel
theorem dX1_placeOf_114 : decode cX1_placeOf 114 = .ok (.invokevirtual 162, 3) := by decide +kernel
theorem dX1_placeOf_117 : decode cX1_placeOf 117 = .ok (.ireturn, 1) := by decide +kernel
theorem dX1_placeOf_118 : decode cX1_placeOf 118 = .ok (.aload_n 0, 1) := by decide +kernel
theorem dX1_placeOf_119 : decode cX1_placeOf 119 = .ok (.aload_n 0, 1) := by decide +kernel
theorem dX1_placeOf_120 : decode cX1_placeOf 120 = .ok (.invokevirtual 159, 3) := by decide +kernel
theorem dX1_placeOf_123 : decode cX1_placeOf 123 = .ok (.invokevirtual 162, 3) := by decide +kernel
theorem dX1_placeOf_126 : decode cX1_placeOf 126 = .ok (.aload_n 0, 1) := by decide +kernel
theorem dX1_placeOf_127 : decode cX1_placeOf 127 = .ok (.getfield 47, 3) := by decide +kernel
theorem dX1_placeOf_130 : decode cX1_placeOf 130 = .ok (.iadd, 1) := by decide +kernel
theorem dX1_placeOf_131 : decode cX1_placeOf 131 = .ok (.ldc 123, 2) := by decide +kernel
theorem dX1_placeOf_133 : decode cX1_placeOf 133 = .ok (.iand, 1) := by decide +kernel
theorem dX1_placeOf_134 : decode cX1_placeOf 134 = .ok (.ireturn, 1) := by decide +kernel
theorem dX1_placeOf_135 : decode cX1_placeOf 135 = .ok (.aload_n 0, 1) := by decide +kernel
theorem dX1_placeOf_136 : decode cX1_placeOf 136 = .ok (.invokevirtual 165, 3) := by decide +kernel
theorem dX1_placeOf_139 : decode cX1_placeOf 139 = .ok (.aload_n 0, 1) := by decide +kernel
theorem dX1_placeOf_140 : decode cX1_placeOf 140 = .ok (.getfield 44, 3) := by decide +kernel
theorem dX1_placeOf_143 : decode cX1_placeOf 143 = .ok (.iadd, 1) := by decide +kernel
theorem dX1_placeOf_144 : decode cX1_placeOf 144 = .ok (.ldc 123, 2) := by decide +kernel
theorem dX1_placeOf_146 : decode cX1_placeOf 146 = .ok (.iand, 1) := by decide +kernel
theorem dX1_placeOf_147 : decode cX1_placeOf 147 = .ok (.ireturn, 1) := by decide +kernel
theorem dX1_placeOf_148 : decode cX1_placeOf 148 = .ok (.aload_n 0, 1) := by decide +kernel
theorem dX1_placeOf_149 : decode cX1_placeOf 149 = .ok (.invokevirtual 165, 3) := by decide +kernel
theorem dX1_placeOf_152 : decode cX1_placeOf 152 = .ok (.aload_n 0, 1) := by decide +kernel
theorem dX1_placeOf_153 : decode cX1_placeOf 153 = .ok (.getfield 47, 3) := by decide +kernel
theorem dX1_placeOf_156 : decode cX1_placeOf 156 = .ok (.iadd, 1) := by decide +kernel
theorem dX1_placeOf_157 : decode cX1_placeOf 157 = .ok (.ldc 123, 2) := by decide +kernel
theorem dX1_placeOf_159 : decode cX1_placeOf 159 = .ok (.iand, 1) := by decide +kernel
theorem dX1_placeOf_160 : decode cX1_placeOf 160 = .ok (.ireturn, 1) := by decide +kernel
theorem dX1_placeOf_161 : decode cX1_placeOf 161 = .ok (.aload_n 0, 1) := by decide +kernel
theorem dX1_placeOf_162 : decode cX1_placeOf 162 = .ok (.aload_n 0, 1) := by decide +kernel
theorem dX1_placeOf_163 : decode cX1_placeOf 163 = .ok (.invokevirtual 165, 3) := by decide +kernel
theorem dX1_placeOf_166 : decode cX1_placeOf 166 = .ok (.invokevirtual 162, 3) := by decide +kernel
theorem dX1_placeOf_169 : decode cX1_placeOf 169 = .ok (.ireturn, 1) := by decide +kernel
theorem dX1_placeOf_170 : decode cX1_placeOf 170 = .ok (.aload_n 0, 1) := by decide +kernel
theorem dX1_placeOf_171 : decode cX1_placeOf 171 = .ok (.invokevirtual 165, 3) := by decide +kernel
theorem dX1_placeOf_174 : decode cX1_placeOf 174 = .ok (.ireturn, 1) := by decide +kernel
theorem dX1_placeBehind_0 : decode cX1_placeBehind 0 = .ok (.aload_n 0, 1) := by decide +kernel
theorem dX1_placeBehind_1 : decode cX1_placeBehind 1 = .ok (.getfield 53, 3) := by decide +kernel
theorem dX1_placeBehind_4 : decode cX1_placeBehind 4 = .ok (.istore_n 1, 1) := by decide +kernel
theorem dX1_placeBehind_5 : decode cX1_placeBehind 5 = .ok (.aload_n 0, 1) := by decide +kernel
theorem dX1_placeBehind_6 : decode cX1_placeBehind 6 = .ok (.aload_n 0, 1) := by decide +kernel
theorem dX1_placeBehind_7 : decode cX1_placeBehind 7 = .ok (.getfield 53, 3) := by decide +kernel
theorem dX1_placeBehind_10 : decode cX1_placeBehind 10 = .ok (.iconst 1, 1) := by decide +kernel
theorem dX1_placeBehind_11 : decode cX1_placeBehind 11 = .ok (.iadd, 1) := by decide +kernel
theorem dX1_placeBehind_12 : decode cX1_placeBehind 12 = .ok (.ldc 123, 2) := by decide +kernel
theorem dX1_placeBehind_14 : decode cX1_placeBehind 14 = .ok (.iand, 1) := by decide +kernel
theorem dX1_placeBehind_15 : decode cX1_placeBehind 15 = .ok (.putfield 53, 3) := by decide +kernel
theorem dX1_placeBehind_18 : decode cX1_placeBehind 18 = .ok (.iload_n 1, 1) := by decide +kernel
theorem dX1_placeBehind_19 : decode cX1_placeBehind 19 = .ok (.ireturn, 1) := by decide +kernel
theorem dX1_byteBehind_0 : decode cX1_byteBehind 0 = .ok (.aload_n 0, 1) := by decide +kernel
theorem dX1_byteBehind_1 : decode cX1_byteBehind 1 = .ok (.aload_n 0, 1) := by decide +kernel
theorem dX1_byteBehind_2 : decode cX1_byteBehind 2 = .ok (.invokevirtual 155, 3) := by decide +kernel
theorem dX1_byteBehind_5 : decode cX1_byteBehind 5 = .ok (.invokevirtual 115, 3) := by decide +kernel
theorem dX1_byteBehind_8 : decode cX1_byteBehind 8 = .ok (.ireturn, 1) := by decide +kernel
theorem dX1_wordBehind_0 : decode cX1_wordBehind 0 = .ok (.aload_n 0, 1) := by decide +kernel
theorem dX1_wordBehind_1 : decode cX1_wordBehind 1 = .ok (.aload_n 0, 1) := by decide +kernel
theorem dX1_wordBehind_2 : decode cX1_wordBehind 2 = .ok (.invokevirtual 155, 3) := by decide +kernel
theorem dX1_wordBehind_5 : decode cX1_wordBehind 5 = .ok (.invokevirtual 115, 3) := by decide +kernel
theorem dX1_wordBehind_8 : decode cX1_wordBehind 8 = .ok (.istore_n 1, 1) := by decide +kernel
theorem dX1_wordBehind_9 : decode cX1_wordBehind 9 = .ok (.aload_n 0, 1) := by decide +kernel
theorem dX1_wordBehind_10 : decode cX1_wordBehind 10 = .ok (.aload_n 0, 1) := by decide +kernel
theorem dX1_wordBehind_11 : decode cX1_wordBehind 11 = .ok (.invokevirtual 155, 3) := by decide +kernel
theorem dX1_wordBehind_14 : decode cX1_wordBehind 14 = .ok (.invokevirtual 115, 3) := by decide +kernel
theorem dX1_wordBehind_17 : decode cX1_wordBehind 17 = .ok (.bipush 8, 2) := by decide +kernel
theorem dX1_wordBehind_19 : decode cX1_wordBehind 19 = .ok (.ishl, 1) := by decide +kernel
theorem dX1_wordBehind_20 : decode cX1_wordBehind 20 = .ok (.iload_n 1, 1) := by decide +kernel
theorem dX1_wordBehind_21 : decode cX1_wordBehind 21 = .ok (.ior, 1) := by decide +kernel
theorem dX1_wordBehind_22 : decode cX1_wordBehind 22 = .ok (.ireturn, 1) := by decide +kernel
theorem dX1_wordAt_0 : decode cX1_wordAt 0 = .ok (.aload_n 0, 1) := by decide +kernel
theorem dX1_wordAt_1 : decode cX1_wordAt 1 = .ok (.iload_n 1, 1) := by decide +kernel
theorem dX1_wordAt_2 : decode cX1_wordAt 2 = .ok (.invokevirtual 115, 3) := by decide +kernel
theorem dX1_wordAt_5 : decode cX1_wordAt 5 = .ok (.istore_n 2, 1) := by decide +kernel
theorem dX1_wordAt_6 : decode cX1_wordAt 6 = .ok (.aload_n 0, 1) := by decide +kernel
theorem dX1_wordAt_7 : decode cX1_wordAt 7 = .ok (.iload_n 1, 1) := by decide +kernel
theorem dX1_wordAt_8 : decode cX1_wordAt 8 = .ok (.ldc 168, 2) := by decide +kernel
theorem dX1_wordAt_10 : decode cX1_wordAt 10 = .ok (.iand, 1) := by decide +kernel
theorem dX1_wordAt_11 : decode cX1_wordAt 11 = .ok (.iload_n 1, 1) := by decide +kernel
theorem dX1_wordAt_12 : decode cX1_wordAt 12 = .ok (.iconst 1, 1) := by decide +kernel
theorem dX1_wordAt_13 : decode cX1_wordAt 13 = .ok (.iadd, 1) := by decide +kernel
theorem dX1_wordAt_14 : decode cX1_wordAt 14 = .ok (.sipush 255, 3) := by decide +kernel
theorem dX1_wordAt_17 : decode cX1_wordAt 17 = .ok (.iand, 1) := by decide +kernel
theorem dX1_wordAt_18 : decode cX1_wordAt 18 = .ok (.ior, 1) := by decide +kernel
theorem dX1_wordAt_19 : decode cX1_wordAt 19 = .ok (.invokevirtual 115, 3) := by decide +kernel
theorem dX1_wordAt_22 : decode cX1_wordAt 22 = .ok (.bipush 8, 2) := by decide +kernel
theorem dX1_wordAt_24 : decode cX1_wordAt 24 = .ok (.ishl, 1) := by decide +kernel
theorem dX1_wordAt_25 : decode cX1_wordAt 25 = .ok (.iload_n 2, 1) := by decide +kernel
theorem dX1_wordAt_26 : decode cX1_wordAt 26 = .ok (.ior, 1) := by decide +kernel
theorem dX1_wordAt_27 : decode cX1_wordAt 27 = .ok (.ireturn, 1) := by decide +kernel
theorem dX1_use_0 : decode cX1_use 0 = .ok (.iload_n 1, 1) := by decide +kernel
theorem dX1_use_1 : decode cX1_use 1 = .ok (.tableswitch 202 16 26 #[59, 71, 83, 95, 112, 129, 146, 154, 166, 178, 190], 59) := by decide +kernel
theorem dX1_use_60 : decode cX1_use 60 = .ok (.aload_n 0, 1) := by decide +kernel
theorem dX1_use_61 : decode cX1_use 61 = .ok (.aload_n 0, 1) := by decide +kernel
theorem dX1_use_62 : decode cX1_use 62 = .ok (.iload_n 2, 1) := by decide +kernel
theorem dX1_use_63 : decode cX1_use 63 = .ok (.invokevirtual 169, 3) := by decide +kernel
theorem dX1_use_66 : decode cX1_use 66 = .ok (.putfield 41, 3) := by decide +kernel
theorem dX1_use_69 : decode cX1_use 69 = .ok (.goto 139, 3) := by decide +kernel
theorem dX1_use_72 : decode cX1_use 72 = .ok (.aload_n 0, 1) := by decide +kernel
theorem dX1_use_73 : decode cX1_use 73 = .ok (.aload_n 0, 1) := by decide +kernel
theorem dX1_use_74 : decode cX1_use 74 = .ok (.iload_n 2, 1) := by decide +kernel
theorem dX1_use_75 : decode cX1_use 75 = .ok (.invokevirtual 169, 3) := by decide +kernel
theorem dX1_use_78 : decode cX1_use 78 = .ok (.putfield 44, 3) := by decide +kernel
theorem dX1_use_81 : decode cX1_use 81 = .ok (.goto 127, 3) := by decide +kernel
theorem dX1_use_84 : decode cX1_use 84 = .ok (.aload_n 0, 1) := by decide +kernel
theorem dX1_use_85 : decode cX1_use 85 = .ok (.aload_n 0, 1) := by decide +kernel
theorem dX1_use_86 : decode cX1_use 86 = .ok (.iload_n 2, 1) := by decide +kernel
theorem dX1_use_87 : decode cX1_use 87 = .ok (.invokevirtual 169, 3) := by decide +kernel
theorem dX1_use_90 : decode cX1_use 90 = .ok (.putfield 47, 3) := by decide +kernel
theorem dX1_use_93 : decode cX1_use 93 = .ok (.goto 115, 3) := by decide +kernel
theorem dX1_use_96 : decode cX1_use 96 = .ok (.aload_n 0, 1) := by decide +kernel
theorem dX1_use_97 : decode cX1_use 97 = .ok (.aload_n 0, 1) := by decide +kernel
theorem dX1_use_98 : decode cX1_use 98 = .ok (.aload_n 0, 1) := by decide +kernel
theorem dX1_use_99 : decode cX1_use 99 = .ok (.getfield 41, 3) := by decide +kernel
theorem dX1_use_102 : decode cX1_use 102 = .ok (.iload_n 2, 1) := by decide +kernel
theorem dX1_use_103 : decode cX1_use 103 = .ok (.ior, 1) := by decide +kernel
theorem dX1_use_104 : decode cX1_use 104 = .ok (.invokevirtual 169, 3) := by decide +kernel
theorem dX1_use_107 : decode cX1_use 107 = .ok (.putfield 41, 3) := by decide +kernel
theorem dX1_use_110 : decode cX1_use 110 = .ok (.goto 98, 3) := by decide +kernel
theorem dX1_use_113 : decode cX1_use 113 = .ok (.aload_n 0, 1) := by decide +kernel
theorem dX1_use_114 : decode cX1_use 114 = .ok (.aload_n 0, 1) := by decide +kernel
theorem dX1_use_115 : decode cX1_use 115 = .ok (.aload_n 0, 1) := by decide +kernel
theorem dX1_use_116 : decode cX1_use 116 = .ok (.getfield 41, 3) := by decide +kernel
theorem dX1_use_119 : decode cX1_use 119 = .ok (.iload_n 2, 1) := by decide +kernel
theorem dX1_use_120 : decode cX1_use 120 = .ok (.iand, 1) := by decide +kernel
theorem dX1_use_121 : decode cX1_use 121 = .ok (.invokevirtual 169, 3) := by decide +kernel
theorem dX1_use_124 : decode cX1_use 124 = .ok (.putfield 41, 3) := by decide +kernel
theorem dX1_use_127 : decode cX1_use 127 = .ok (.goto 81, 3) := by decide +kernel
theorem dX1_use_130 : decode cX1_use 130 = .ok (.aload_n 0, 1) := by decide +kernel
theorem dX1_use_131 : decode cX1_use 131 = .ok (.aload_n 0, 1) := by decide +kernel
theorem dX1_use_132 : decode cX1_use 132 = .ok (.aload_n 0, 1) := by decide +kernel
theorem dX1_use_133 : decode cX1_use 133 = .ok (.getfield 41, 3) := by decide +kernel
theorem dX1_use_136 : decode cX1_use 136 = .ok (.iload_n 2, 1) := by decide +kernel
theorem dX1_use_137 : decode cX1_use 137 = .ok (.ixor, 1) := by decide +kernel
theorem dX1_use_138 : decode cX1_use 138 = .ok (.invokevirtual 169, 3) := by decide +kernel
theorem dX1_use_141 : decode cX1_use 141 = .ok (.putfield 41, 3) := by decide +kernel
theorem dX1_use_144 : decode cX1_use 144 = .ok (.goto 64, 3) := by decide +kernel
theorem dX1_use_147 : decode cX1_use 147 = .ok (.aload_n 0, 1) := by decide +kernel
theorem dX1_use_148 : decode cX1_use 148 = .ok (.iload_n 2, 1) := by decide +kernel
theorem dX1_use_149 : decode cX1_use 149 = .ok (.invokevirtual 172, 3) := by decide +kernel
theorem dX1_use_152 : decode cX1_use 152 = .ok (.goto 56, 3) := by decide +kernel
theorem dX1_use_155 : decode cX1_use 155 = .ok (.aload_n 0, 1) := by decide +kernel
theorem dX1_use_156 : decode cX1_use 156 = .ok (.iload_n 2, 1) := by decide +kernel
theorem dX1_use_157 : decode cX1_use 157 = .ok (.sipush 255, 3) := by decide +kernel
theorem dX1_use_160 : decode cX1_use 160 = .ok (.ixor, 1) := by decide +kernel
theorem dX1_use_161 : decode cX1_use 161 = .ok (.invokevirtual 172, 3) := by decide +kernel
theorem dX1_use_164 : decode cX1_use 164 = .ok (.goto 44, 3) := by decide +kernel
theorem dX1_use_167 : decode cX1_use 167 = .ok (.aload_n 0, 1) := by decide +kernel
theorem dX1_use_168 : decode cX1_use 168 = .ok (.aload_n 0, 1) := by decide +kernel
theorem dX1_use_169 : decode cX1_use 169 = .ok (.getfield 41, 3) := by decide +kernel
theorem dX1_use_172 : decode cX1_use 172 = .ok (.iload_n 2, 1) := by decide +kernel
theorem dX1_use_173 : decode cX1_use 173 = .ok (.invokevirtual 175, 3) := by decide +kernel
theorem dX1_use_176 : decode cX1_use 176 = .ok (.goto 32, 3) := by decide +kernel
theorem dX1_use_179 : decode cX1_use 179 = .ok (.aload_n 0, 1) := by decide +kernel
theorem dX1_use_180 : decode cX1_use 180 = .ok (.aload_n 0, 1) := by decide +kernel
theorem dX1_use_181 : decode cX1_use 181 = .ok (.getfield 44, 3) := by decide +kernel
theorem dX1_use_184 : decode cX1_use 184 = .ok (.iload_n 2, 1) := by decide +kernel
theorem dX1_use_185 : decode cX1_use 185 = .ok (.invokevirtual 175, 3) := by decide +kernel
theorem dX1_use_188 : decode cX1_use 188 = .ok (.goto 20, 3) := by decide +kernel
theorem dX1_use_191 : decode cX1_use 191 = .ok (.aload_n 0, 1) := by decide +kernel
theorem dX1_use_192 : decode cX1_use 192 = .ok (.aload_n 0, 1) := by decide +kernel
theorem dX1_use_193 : decode cX1_use 193 = .ok (.getfield 47, 3) := by decide +kernel
theorem dX1_use_196 : decode cX1_use 196 = .ok (.iload_n 2, 1) := by decide +kernel
theorem dX1_use_197 : decode cX1_use 197 = .ok (.invokevirtual 175, 3) := by decide +kernel
theorem dX1_use_200 : decode cX1_use 200 = .ok (.goto 8, 3) := by decide +kernel
theorem dX1_use_203 : decode cX1_use 203 = .ok (.aload_n 0, 1) := by decide +kernel
theorem dX1_use_204 : decode cX1_use 204 = .ok (.iload_n 2, 1) := by decide +kernel
theorem dX1_use_205 : decode cX1_use 205 = .ok (.invokevirtual 178, 3) := by decide +kernel
theorem dX1_use_208 : decode cX1_use 208 = .ok (.return_, 1) := by decide +kernel
theorem dX1_store_0 : decode cX1_store 0 = .ok (.iload_n 1, 1) := by decide +kernel
theorem dX1_store_1 : decode cX1_store 1 = .ok (.lookupswitch 51 #[(32, 27), (33, 39)], 27) := by decide +kernel
theorem dX1_store_28 : decode cX1_store 28 = .ok (.aload_n 0, 1) := by decide +kernel
theorem dX1_store_29 : decode cX1_store 29 = .ok (.iload_n 2, 1) := by decide +kernel
theorem dX1_store_30 : decode cX1_store 30 = .ok (.aload_n 0, 1) := by decide +kernel
theorem dX1_store_31 : decode cX1_store 31 = .ok (.getfield 41, 3) := by decide +kernel
theorem dX1_store_34 : decode cX1_store 34 = .ok (.invokevirtual 181, 3) := by decide +kernel
theorem dX1_store_37 : decode cX1_store 37 = .ok (.goto 24, 3) := by decide +kernel
theorem dX1_store_40 : decode cX1_store 40 = .ok (.aload_n 0, 1) := by decide +kernel
theorem dX1_store_41 : decode cX1_store 41 = .ok (.iload_n 2, 1) := by decide +kernel
theorem dX1_store_42 : decode cX1_store 42 = .ok (.aload_n 0, 1) := by decide +kernel
theorem dX1_store_43 : decode cX1_store 43 = .ok (.getfield 44, 3) := by decide +kernel
theorem dX1_store_46 : decode cX1_store 46 = .ok (.invokevirtual 181, 3) := by decide +kernel
theorem dX1_store_49 : decode cX1_store 49 = .ok (.goto 12, 3) := by decide +kernel
theorem dX1_store_52 : decode cX1_store 52 = .ok (.aload_n 0, 1) := by decide +kernel
theorem dX1_store_53 : decode cX1_store 53 = .ok (.iload_n 2, 1) := by decide +kernel
theorem dX1_store_54 : decode cX1_store 54 = .ok (.aload_n 0, 1) := by decide +kernel
theorem dX1_store_55 : decode cX1_store 55 = .ok (.getfield 47, 3) := by decide +kernel
theorem dX1_store_58 : decode cX1_store 58 = .ok (.invokevirtual 181, 3) := by decide +kernel
theorem dX1_store_61 : decode cX1_store 61 = .ok (.return_, 1) := by decide +kernel
theorem dX1_add_0 : decode cX1_add 0 = .ok (.aload_n 0, 1) := by decide +kernel
theorem dX1_add_1 : decode cX1_add 1 = .ok (.getfield 41, 3) := by decide +kernel
theorem dX1_add_4 : decode cX1_add 4 = .ok (.iload_n 1, 1) := by decide +kernel
theorem dX1_add_5 : decode cX1_add 5 = .ok (.iadd, 1) := by decide +kernel
theorem dX1_add_6 : decode cX1_add 6 = .ok (.aload_n 0, 1) := by decide +kernel
theorem dX1_add_7 : decode cX1_add 7 = .ok (.getfield 28, 3) := by decide +kernel
theorem dX1_add_10 : decode cX1_add 10 = .ok (.iconst 1, 1) := by decide +kernel
theorem dX1_add_11 : decode cX1_add 11 = .ok (.iand, 1) := by decide +kernel
theorem dX1_add_12 : decode cX1_add 12 = .ok (.iadd, 1) := by decide +kernel
theorem dX1_add_13 : decode cX1_add 13 = .ok (.istore_n 2, 1) := by decide +kernel
theorem dX1_add_14 : decode cX1_add 14 = .ok (.aload_n 0, 1) := by decide +kernel
theorem dX1_add_15 : decode cX1_add 15 = .ok (.iconst 1, 1) := by decide +kernel
theorem dX1_add_16 : decode cX1_add 16 = .ok (.iload_n 2, 1) := by decide +kernel
theorem dX1_add_17 : decode cX1_add 17 = .ok (.sipush 255, 3) := by decide +kernel
theorem dX1_add_20 : decode cX1_add 20 = .ok (.if_icmp .le 7, 3) := by decide +kernel
theorem dX1_add_23 : decode cX1_add 23 = .ok (.iconst 1, 1) := by decide +kernel
theorem dX1_add_24 : decode cX1_add 24 = .ok (.goto 4, 3) := by decide +kernel
theorem dX1_add_27 : decode cX1_add 27 = .ok (.iconst 0, 1) := by decide +kernel
theorem dX1_add_28 : decode cX1_add 28 = .ok (.invokevirtual 184, 3) := by decide +kernel
theorem dX1_add_31 : decode cX1_add 31 = .ok (.aload_n 0, 1) := by decide +kernel
theorem dX1_add_32 : decode cX1_add 32 = .ok (.bipush 64, 2) := by decide +kernel
theorem dX1_add_34 : decode cX1_add 34 = .ok (.aload_n 0, 1) := by decide +kernel
theorem dX1_add_35 : decode cX1_add 35 = .ok (.getfield 41, 3) := by decide +kernel
theorem dX1_add_38 : decode cX1_add 38 = .ok (.iload_n 2, 1) := by decide +kernel
theorem dX1_add_39 : decode cX1_add 39 = .ok (.ixor, 1) := by decide +kernel
theorem dX1_add_40 : decode cX1_add 40 = .ok (.iload_n 1, 1) := by decide +kernel
theorem dX1_add_41 : decode cX1_add 41 = .ok (.iload_n 2, 1) := by decide +kernel
theorem dX1_add_42 : decode cX1_add 42 = .ok (.ixor, 1) := by decide +kernel
theorem dX1_add_43 : decode cX1_add 43 = .ok (.iand, 1) := by decide +kernel
theorem dX1_add_44 : decode cX1_add 44 = .ok (.sipush 128, 3) := by decide +kernel
theorem dX1_add_47 : decode cX1_add 47 = .ok (.iand, 1) := by decide +kernel
theorem dX1_add_48 : decode cX1_add 48 = .ok (.ifCond .eq 7, 3) := by decide +kernel
theorem dX1_add_51 : decode cX1_add 51 = .ok (.iconst 1, 1) := by decide +kernel
theorem dX1_add_52 : decode cX1_add 52 = .ok (.goto 4, 3) := by decide +kernel
theorem dX1_add_55 : decode cX1_add 55 = .ok (.iconst 0, 1) := by decide +kernel
theorem dX1_add_56 : decode cX1_add 56 = .ok (.invokevirtual 184, 3) := by decide +kernel
theorem dX1_add_59 : decode cX1_add 59 = .ok (.aload_n 0, 1) := by decide +kernel
theorem dX1_add_60 : decode cX1_add 60 = .ok (.aload_n 0, 1) := by decide +kernel
theorem dX1_add_61 : decode cX1_add 61 = .ok (.iload_n 2, 1) := by decide +kernel
theorem dX1_add_62 : decode cX1_add 62 = .ok (.sipush 255, 3) := by decide +kernel
theorem dX1_add_65 : decode cX1_add 65 = .ok (.iand, 1) := by decide +kernel
theorem dX1_add_66 : decode cX1_add 66 = .ok (.invokevirtual 169, 3) := by decide +kernel
theorem dX1_add_69 : decode cX1_add 69 = .ok (.putfield 41, 3) := by decide +kernel
theorem dX1_add_72 : decode cX1_add 72 = .ok (.return_, 1) := by decide +kernel
theorem dX1_compare_0 : decode cX1_compare 0 = .ok (.aload_n 0, 1) := by decide +kernel
theorem dX1_compare_1 : decode cX1_compare 1 = .ok (.iconst 1, 1) := by decide +kernel
theorem dX1_compare_2 : decode cX1_compare 2 = .ok (.iload_n 1, 1) := by decide +kernel
theorem dX1_compare_3 : decode cX1_compare 3 = .ok (.iload_n 2, 1) := by decide +kernel
theorem dX1_compare_4 : decode cX1_compare 4 = .ok (.if_icmp .lt 7, 3) := by decide +kernel
theorem dX1_compare_7 : decode cX1_compare 7 = .ok (.iconst 1, 1) := by decide +kernel
theorem dX1_compare_8 : decode cX1_compare 8 = .ok (.goto 4, 3) := by decide +kernel
theorem dX1_compare_11 : decode cX1_compare 11 = .ok (.iconst 0, 1) := by decide +kernel
theorem dX1_compare_12 : decode cX1_compare 12 = .ok (.invokevirtual 184, 3) := by decide +kernel
theorem dX1_compare_15 : decode cX1_compare 15 = .ok (.aload_n 0, 1) := by decide +kernel
theorem dX1_compare_16 : decode cX1_compare 16 = .ok (.iload_n 1, 1) := by decide +kernel
theorem dX1_compare_17 : decode cX1_compare 17 = .ok (.iload_n 2, 1) := by decide +kernel
theorem dX1_compare_18 : decode cX1_compare 18 = .ok (.isub, 1) := by decide +kernel
theorem dX1_compare_19 : decode cX1_compare 19 = .ok (.sipush 255, 3) := by decide +kernel
theorem dX1_compare_22 : decode cX1_compare 22 = .ok (.iand, 1) := by decide +kernel
theorem dX1_compare_23 : decode cX1_compare 23 = .ok (.invokevirtual 169, 3) := by decide +kernel
theorem dX1_compare_26 : decode cX1_compare 26 = .ok (.pop, 1) := by decide +kernel
theorem dX1_compare_27 : decode cX1_compare 27 = .ok (.return_, 1) := by decide +kernel
theorem dX1_testBits_0 : decode cX1_testBits 0 = .ok (.aload_n 0, 1) := by decide +kernel
theorem dX1_testBits_1 : decode cX1_testBits 1 = .ok (.iconst 2, 1) := by decide +kernel
theorem dX1_testBits_2 : decode cX1_testBits 2 = .ok (.aload_n 0, 1) := by decide +kernel
theorem dX1_testBits_3 : decode cX1_testBits 3 = .ok (.getfield 41, 3) := by decide +kernel
theorem dX1_testBits_6 : decode cX1_testBits 6 = .ok (.iload_n 1, 1) := by decide +kernel
theorem dX1_testBits_7 : decode cX1_testBits 7 = .ok (.iand, 1) := by decide +kernel
theorem dX1_testBits_8 : decode cX1_testBits 8 = .ok (.ifCond .ne 7, 3) := by decide +kernel
theorem dX1_testBits_11 : decode cX1_testBits 11 = .ok (.iconst 1, 1) := by decide +kernel
theorem dX1_testBits_12 : decode cX1_testBits 12 = .ok (.goto 4, 3) := by decide +kernel
theorem dX1_testBits_15 : decode cX1_testBits 15 = .ok (.iconst 0, 1) := by decide +kernel
theorem dX1_testBits_16 : decode cX1_testBits 16 = .ok (.invokevirtual 184, 3) := by decide +kernel
theorem dX1_testBits_19 : decode cX1_testBits 19 = .ok (.aload_n 0, 1) := by decide +kernel
theorem dX1_testBits_20 : decode cX1_testBits 20 = .ok (.sipush 128, 3) := by decide +kernel
theorem dX1_testBits_23 : decode cX1_testBits 23 = .ok (.iload_n 1, 1) := by decide +kernel
theorem dX1_testBits_24 : decode cX1_testBits 24 = .ok (.sipush 128, 3) := by decide +kernel
theorem dX1_testBits_27 : decode cX1_testBits 27 = .ok (.iand, 1) := by decide +kernel
theorem dX1_testBits_28 : decode cX1_testBits 28 = .ok (.ifCond .eq 7, 3) := by decide +kernel
theorem dX1_testBits_31 : decode cX1_testBits 31 = .ok (.iconst 1, 1) := by decide +kernel
theorem dX1_testBits_32 : decode cX1_testBits 32 = .ok (.goto 4, 3) := by decide +kernel
theorem dX1_testBits_35 : decode cX1_testBits 35 = .ok (.iconst 0, 1) := by decide +kernel
theorem dX1_testBits_36 : decode cX1_testBits 36 = .ok (.invokevirtual 184, 3) := by decide +kernel
theorem dX1_testBits_39 : decode cX1_testBits 39 = .ok (.aload_n 0, 1) := by decide +kernel
theorem dX1_testBits_40 : decode cX1_testBits 40 = .ok (.bipush 64, 2) := by decide +kernel
theorem dX1_testBits_42 : decode cX1_testBits 42 = .ok (.iload_n 1, 1) := by decide +kernel
theorem dX1_testBits_43 : decode cX1_testBits 43 = .ok (.bipush 64, 2) := by decide +kernel
theorem dX1_testBits_45 : decode cX1_testBits 45 = .ok (.iand, 1) := by decide +kernel
theorem dX1_testBits_46 : decode cX1_testBits 46 = .ok (.ifCond .eq 7, 3) := by decide +kernel
theorem dX1_testBits_49 : decode cX1_testBits 49 = .ok (.iconst 1, 1) := by decide +kernel
theorem dX1_testBits_50 : decode cX1_testBits 50 = .ok (.goto 4, 3) := by decide +kernel
theorem dX1_testBits_53 : decode cX1_testBits 53 = .ok (.iconst 0, 1) := by decide +kernel
theorem dX1_testBits_54 : decode cX1_testBits 54 = .ok (.invokevirtual 184, 3) := by decide +kernel
theorem dX1_testBits_57 : decode cX1_testBits 57 = .ok (.return_, 1) := by decide +kernel
theorem dX1_change_0 : decode cX1_change 0 = .ok (.iload_n 2, 1) := by decide +kernel
theorem dX1_change_1 : decode cX1_change 1 = .ok (.iconst (-1), 1) := by decide +kernel
theorem dX1_change_2 : decode cX1_change 2 = .ok (.if_icmp .ne 10, 3) := by decide +kernel
theorem dX1_change_5 : decode cX1_change 5 = .ok (.aload_n 0, 1) := by decide +kernel
theorem dX1_change_6 : decode cX1_change 6 = .ok (.getfield 41, 3) := by decide +kernel
theorem dX1_change_9 : decode cX1_change 9 = .ok (.goto 8, 3) := by decide +kernel
theorem dX1_change_12 : decode cX1_change 12 = .ok (.aload_n 0, 1) := by decide +kernel
theorem dX1_change_13 : decode cX1_change 13 = .ok (.iload_n 2, 1) := by decide +kernel
theorem dX1_change_14 : decode cX1_change 14 = .ok (.invokevirtual 115, 3) := by decide +kernel
theorem dX1_change_17 : decode cX1_change 17 = .ok (.istore_n 3, 1) := by decide +kernel
theorem dX1_change_18 : decode cX1_change 18 = .ok (.aload_n 0, 1) := by decide +kernel
theorem dX1_change_19 : decode cX1_change 19 = .ok (.aload_n 0, 1) := by decide +kernel
theorem dX1_change_20 : decode cX1_change 20 = .ok (.iload_n 1, 1) := by decide +kernel
theorem dX1_change_21 : decode cX1_change 21 = .ok (.iload_n 3, 1) := by decide +kernel
theorem dX1_change_22 : decode cX1_change 22 = .ok (.invokevirtual 188, 3) := by decide +kernel
theorem dX1_change_25 : decode cX1_change 25 = .ok (.invokevirtual 169, 3) := by decide +kernel
theorem dX1_change_28 : decode cX1_change 28 = .ok (.istore 4, 2) := by decide +kernel
theorem dX1_change_30 : decode cX1_change 30 = .ok (.iload_n 2, 1) := by decide +kernel
theorem dX1_change_31 : decode cX1_change 31 = .ok (.iconst (-1), 1) := by decide +kernel
theorem dX1_change_32 : decode cX1_change 32 = .ok (.if_icmp .ne 12, 3) := by decide +kernel
theorem dX1_change_35 : decode cX1_change 35 = .ok (.aload_n 0, 1) := by decide +kernel
theorem dX1_change_36 : decode cX1_change 36 = .ok (.iload 4, 2) := by decide +kernel
theorem dX1_change_38 : decode cX1_change 38 = .ok (.putfield 41, 3) := by decide +kernel
theorem dX1_change_41 : decode cX1_change 41 = .ok (.goto 10, 3) := by decide +kernel
theorem dX1_change_44 : decode cX1_change 44 = .ok (.aload_n 0, 1) := by decide +kernel
theorem dX1_change_45 : decode cX1_change 45 = .ok (.iload_n 2, 1) := by decide +kernel
theorem dX1_change_46 : decode cX1_change 46 = .ok (.iload 4, 2) := by decide +kernel
theorem dX1_change_48 : decode cX1_change 48 = .ok (.invokevirtual 181, 3) := by decide +kernel
theorem dX1_change_51 : decode cX1_change 51 = .ok (.return_, 1) := by decide +kernel
theorem dX1_changed_0 : decode cX1_changed 0 = .ok (.aload_n 0, 1) := by decide +kernel
theorem dX1_changed_1 : decode cX1_changed 1 = .ok (.getfield 28, 3) := by decide +kernel
theorem dX1_changed_4 : decode cX1_changed 4 = .ok (.iconst 1, 1) := by decide +kernel
theorem dX1_changed_5 : decode cX1_changed 5 = .ok (.iand, 1) := by decide +kernel
theorem dX1_changed_6 : decode cX1_changed 6 = .ok (.istore_n 3, 1) := by decide +kernel
theorem dX1_changed_7 : decode cX1_changed 7 = .ok (.iload_n 1, 1) := by decide +kernel
theorem dX1_changed_8 : decode cX1_changed 8 = .ok (.tableswitch 139 48 52 #[36, 60, 86, 106, 131], 36) := by decide +kernel
theorem dX1_changed_44 : decode cX1_changed 44 = .ok (.aload_n 0, 1) := by decide +kernel
theorem dX1_changed_45 : decode cX1_changed 45 = .ok (.iconst 1, 1) := by decide +kernel
theorem dX1_changed_46 : decode cX1_changed 46 = .ok (.iload_n 2, 1) := by decide +kernel
theorem dX1_changed_47 : decode cX1_changed 47 = .ok (.bipush 127, 2) := by decide +kernel
theorem dX1_changed_49 : decode cX1_changed 49 = .ok (.if_icmp .le 7, 3) := by decide +kernel
theorem dX1_changed_52 : decode cX1_changed 52 = .ok (.iconst 1, 1) := by decide +kernel
theorem dX1_changed_53 : decode cX1_changed 53 = .ok (.goto 4, 3) := by decide +kernel
theorem dX1_changed_56 : decode cX1_changed 56 = .ok (.iconst 0, 1) := by decide +kernel
theorem dX1_changed_57 : decode cX1_changed 57 = .ok (.invokevirtual 184, 3) := by decide +kernel
theorem dX1_changed_60 : decode cX1_changed 60 = .ok (.iload_n 2, 1) := by decide +kernel
theorem dX1_changed_61 : decode cX1_changed 61 = .ok (.iconst 1, 1) := by decide +kernel
theorem dX1_changed_62 : decode cX1_changed 62 = .ok (.ishl, 1) := by decide +kernel
theorem dX1_changed_63 : decode cX1_changed 63 = .ok (.sipush 255, 3) := by decide +kernel
theorem dX1_changed_66 : decode cX1_changed 66 = .ok (.iand, 1) := by decide +kernel
theorem dX1_changed_67 : decode cX1_changed 67 = .ok (.ireturn, 1) := by decide +kernel
theorem dX1_changed_68 : decode cX1_changed 68 = .ok (.aload_n 0, 1) := by decide +kernel
theorem dX1_changed_69 : decode cX1_changed 69 = .ok (.iconst 1, 1) := by decide +kernel
theorem dX1_changed_70 : decode cX1_changed 70 = .ok (.iload_n 2, 1) := by decide +kernel
theorem dX1_changed_71 : decode cX1_changed 71 = .ok (.bipush 127, 2) := by decide +kernel
theorem dX1_changed_73 : decode cX1_changed 73 = .ok (.if_icmp .le 7, 3) := by decide +kernel
theorem dX1_changed_76 : decode cX1_changed 76 = .ok (.iconst 1, 1) := by decide +kernel
theorem dX1_changed_77 : decode cX1_changed 77 = .ok (.goto 4, 3) := by decide +kernel
theorem dX1_changed_80 : decode cX1_changed 80 = .ok (.iconst 0, 1) := by decide +kernel
theorem dX1_changed_81 : decode cX1_changed 81 = .ok (.invokevirtual 184, 3) := by decide +kernel
theorem dX1_changed_84 : decode cX1_changed 84 = .ok (.iload_n 2, 1) := by decide +kernel
theorem dX1_changed_85 : decode cX1_changed 85 = .ok (.iconst 1, 1) := by decide +kernel
theorem dX1_changed_86 : decode cX1_changed 86 = .ok (.ishl, 1) := by decide +kernel
theorem dX1_changed_87 : decode cX1_changed 87 = .ok (.iload_n 3, 1) := by decide +kernel
theorem dX1_changed_88 : decode cX1_changed 88 = .ok (.ior, 1) := by decide +kernel
theorem dX1_changed_89 : decode cX1_changed 89 = .ok (.sipush 255, 3) := by decide +kernel
theorem dX1_changed_92 : decode cX1_changed 92 = .ok (.iand, 1) := by decide +kernel
theorem dX1_changed_93 : decode cX1_changed 93 = .ok (.ireturn, 1) := by decide +kernel
theorem dX1_changed_94 : decode cX1_changed 94 = .ok (.aload_n 0, 1) := by decide +kernel
theorem dX1_changed_95 : decode cX1_changed 95 = .ok (.iconst 1, 1) := by decide +kernel
theorem dX1_changed_96 : decode cX1_changed 96 = .ok (.iload_n 2, 1) := by decide +kernel
theorem dX1_changed_97 : decode cX1_changed 97 = .ok (.iconst 1, 1) := by decide +kernel
theorem dX1_changed_98 : decode cX1_changed 98 = .ok (.iand, 1) := by decide +kernel
theorem dX1_changed_99 : decode cX1_changed 99 = .ok (.ifCond .eq 7, 3) := by decide +kernel
theorem dX1_changed_102 : decode cX1_changed 102 = .ok (.iconst 1, 1) := by decide +kernel
theorem dX1_changed_103 : decode cX1_changed 103 = .ok (.goto 4, 3) := by decide +kernel
theorem dX1_changed_106 : decode cX1_changed 106 = .ok (.iconst 0, 1) := by decide +kernel
theorem dX1_changed_107 : decode cX1_changed 107 = .ok (.invokevirtual 184, 3) := by decide +kernel
theorem dX1_changed_110 : decode cX1_changed 110 = .ok (.iload_n 2, 1) := by decide +kernel
theorem dX1_changed_111 : decode cX1_changed 111 = .ok (.iconst 1, 1) := by decide +kernel
theorem dX1_changed_112 : decode cX1_changed 112 = .ok (.ishr, 1) := by decide +kernel
theorem dX1_changed_113 : decode cX1_changed 113 = .ok (.ireturn, 1) := by decide +kernel
theorem dX1_changed_114 : decode cX1_changed 114 = .ok (.aload_n 0, 1) := by decide +kernel
theorem dX1_changed_115 : decode cX1_changed 115 = .ok (.iconst 1, 1) := by decide +kernel
theorem dX1_changed_116 : decode cX1_changed 116 = .ok (.iload_n 2, 1) := by decide +kernel
theorem dX1_changed_117 : decode cX1_changed 117 = .ok (.iconst 1, 1) := by decide +kernel
theorem dX1_changed_118 : decode cX1_changed 118 = .ok (.iand, 1) := by decide +kernel
theorem dX1_changed_119 : decode cX1_changed 119 = .ok (.ifCond .eq 7, 3) := by decide +kernel
theorem dX1_changed_122 : decode cX1_changed 122 = .ok (.iconst 1, 1) := by decide +kernel
theorem dX1_changed_123 : decode cX1_changed 123 = .ok (.goto 4, 3) := by decide +kernel
theorem dX1_changed_126 : decode cX1_changed 126 = .ok (.iconst 0, 1) := by decide +kernel
theorem dX1_changed_127 : decode cX1_changed 127 = .ok (.invokevirtual 184, 3) := by decide +kernel
theorem dX1_changed_130 : decode cX1_changed 130 = .ok (.iload_n 2, 1) := by decide +kernel
theorem dX1_changed_131 : decode cX1_changed 131 = .ok (.iconst 1, 1) := by decide +kernel
theorem dX1_changed_132 : decode cX1_changed 132 = .ok (.ishr, 1) := by decide +kernel
theorem dX1_changed_133 : decode cX1_changed 133 = .ok (.iload_n 3, 1) := by decide +kernel
theorem dX1_changed_134 : decode cX1_changed 134 = .ok (.bipush 7, 2) := by decide +kernel
theorem dX1_changed_136 : decode cX1_changed 136 = .ok (.ishl, 1) := by decide +kernel
theorem dX1_changed_137 : decode cX1_changed 137 = .ok (.ior, 1) := by decide +kernel
theorem dX1_changed_138 : decode cX1_changed 138 = .ok (.ireturn, 1) := by decide +kernel
theorem dX1_changed_139 : decode cX1_changed 139 = .ok (.iload_n 2, 1) := by decide +kernel
theorem dX1_changed_140 : decode cX1_changed 140 = .ok (.iconst 1, 1) := by decide +kernel
theorem dX1_changed_141 : decode cX1_changed 141 = .ok (.isub, 1) := by decide +kernel
theorem dX1_changed_142 : decode cX1_changed 142 = .ok (.sipush 255, 3) := by decide +kernel
theorem dX1_changed_145 : decode cX1_changed 145 = .ok (.iand, 1) := by decide +kernel
theorem dX1_changed_146 : decode cX1_changed 146 = .ok (.ireturn, 1) := by decide +kernel
theorem dX1_changed_147 : decode cX1_changed 147 = .ok (.iload_n 2, 1) := by decide +kernel
theorem dX1_changed_148 : decode cX1_changed 148 = .ok (.iconst 1, 1) := by decide +kernel
theorem dX1_changed_149 : decode cX1_changed 149 = .ok (.iadd, 1) := by decide +kernel
theorem dX1_changed_150 : decode cX1_changed 150 = .ok (.sipush 255, 3) := by decide +kernel
theorem dX1_changed_153 : decode cX1_changed 153 = .ok (.iand, 1) := by decide +kernel
theorem dX1_changed_154 : decode cX1_changed 154 = .ok (.ireturn, 1) := by decide +kernel
theorem dX1_move_0 : decode cX1_move 0 = .ok (.iload_n 1, 1) := by decide +kernel
theorem dX1_move_1 : decode cX1_move 1 = .ok (.tableswitch 225 64 73 #[55, 70, 85, 100, 115, 130, 141, 162, 183, 204], 55) := by decide +kernel
theorem dX1_move_56 : decode cX1_move 56 = .ok (.aload_n 0, 1) := by decide +kernel
theorem dX1_move_57 : decode cX1_move 57 = .ok (.aload_n 0, 1) := by decide +kernel
theorem dX1_move_58 : decode cX1_move 58 = .ok (.aload_n 0, 1) := by decide +kernel
theorem dX1_move_59 : decode cX1_move 59 = .ok (.getfield 41, 3) := by decide +kernel
theorem dX1_move_62 : decode cX1_move 62 = .ok (.invokevirtual 169, 3) := by decide +kernel
theorem dX1_move_65 : decode cX1_move 65 = .ok (.putfield 44, 3) := by decide +kernel
theorem dX1_move_68 : decode cX1_move 68 = .ok (.goto 158, 3) := by decide +kernel
theorem dX1_move_71 : decode cX1_move 71 = .ok (.aload_n 0, 1) := by decide +kernel
theorem dX1_move_72 : decode cX1_move 72 = .ok (.aload_n 0, 1) := by decide +kernel
theorem dX1_move_73 : decode cX1_move 73 = .ok (.aload_n 0, 1) := by decide +kernel
theorem dX1_move_74 : decode cX1_move 74 = .ok (.getfield 41, 3) := by decide +kernel
theorem dX1_move_77 : decode cX1_move 77 = .ok (.invokevirtual 169, 3) := by decide +kernel
theorem dX1_move_80 : decode cX1_move 80 = .ok (.putfield 47, 3) := by decide +kernel
theorem dX1_move_83 : decode cX1_move 83 = .ok (.goto 143, 3) := by decide +kernel
theorem dX1_move_86 : decode cX1_move 86 = .ok (.aload_n 0, 1) := by decide +kernel
theorem dX1_move_87 : decode cX1_move 87 = .ok (.aload_n 0, 1) := by decide +kernel
theorem dX1_move_88 : decode cX1_move 88 = .ok (.aload_n 0, 1) := by decide +kernel
theorem dX1_move_89 : decode cX1_move 89 = .ok (.getfield 44, 3) := by decide +kernel
theorem dX1_move_92 : decode cX1_move 92 = .ok (.invokevirtual 169, 3) := by decide +kernel
theorem dX1_move_95 : decode cX1_move 95 = .ok (.putfield 41, 3) := by decide +kernel
theorem dX1_move_98 : decode cX1_move 98 = .ok (.goto 128, 3) := by decide +kernel
theorem dX1_move_101 : decode cX1_move 101 = .ok (.aload_n 0, 1) := by decide +kernel
theorem dX1_move_102 : decode cX1_move 102 = .ok (.aload_n 0, 1) := by decide +kernel
theorem dX1_move_103 : decode cX1_move 103 = .ok (.aload_n 0, 1) := by decide +kernel
theorem dX1_move_104 : decode cX1_move 104 = .ok (.getfield 47, 3) := by decide +kernel
theorem dX1_move_107 : decode cX1_move 107 = .ok (.invokevirtual 169, 3) := by decide +kernel
theorem dX1_move_110 : decode cX1_move 110 = .ok (.putfield 41, 3) := by decide +kernel
theorem dX1_move_113 : decode cX1_move 113 = .ok (.goto 113, 3) := by decide +kernel
theorem dX1_move_116 : decode cX1_move 116 = .ok (.aload_n 0, 1) := by decide +kernel
theorem dX1_move_117 : decode cX1_move 117 = .ok (.aload_n 0, 1) := by decide +kernel
theorem dX1_move_118 : decode cX1_move 118 = .ok (.aload_n 0, 1) := by decide +kernel
theorem dX1_move_119 : decode cX1_move 119 = .ok (.getfield 50, 3) := by decide +kernel
theorem dX1_move_122 : decode cX1_move 122 = .ok (.invokevirtual 169, 3) := by decide +kernel
theorem dX1_move_125 : decode cX1_move 125 = .ok (.putfield 44, 3) := by decide +kernel
theorem dX1_move_128 : decode cX1_move 128 = .ok (.goto 98, 3) := by decide +kernel
theorem dX1_move_131 : decode cX1_move 131 = .ok (.aload_n 0, 1) := by decide +kernel
theorem dX1_move_132 : decode cX1_move 132 = .ok (.aload_n 0, 1) := by decide +kernel
theorem dX1_move_133 : decode cX1_move 133 = .ok (.getfield 44, 3) := by decide +kernel
theorem dX1_move_136 : decode cX1_move 136 = .ok (.putfield 50, 3) := by decide +kernel
theorem dX1_move_139 : decode cX1_move 139 = .ok (.goto 87, 3) := by decide +kernel
theorem dX1_move_142 : decode cX1_move 142 = .ok (.aload_n 0, 1) := by decide +kernel
theorem dX1_move_143 : decode cX1_move 143 = .ok (.aload_n 0, 1) := by decide +kernel
theorem dX1_move_144 : decode cX1_move 144 = .ok (.aload_n 0, 1) := by decide +kernel
theorem dX1_move_145 : decode cX1_move 145 = .ok (.getfield 44, 3) := by decide +kernel
theorem dX1_move_148 : decode cX1_move 148 = .ok (.iconst 1, 1) := by decide +kernel
theorem dX1_move_149 : decode cX1_move 149 = .ok (.iadd, 1) := by decide +kernel
theorem dX1_move_150 : decode cX1_move 150 = .ok (.sipush 255, 3) := by decide +kernel
theorem dX1_move_153 : decode cX1_move 153 = .ok (.iand, 1) := by decide +kernel
theorem dX1_move_154 : decode cX1_move 154 = .ok (.invokevirtual 169, 3) := by decide +kernel
theorem dX1_move_157 : decode cX1_move 157 = .ok (.putfield 44, 3) := by decide +kernel
theorem dX1_move_160 : decode cX1_move 160 = .ok (.goto 66, 3) := by decide +kernel
theorem dX1_move_163 : decode cX1_move 163 = .ok (.aload_n 0, 1) := by decide +kernel
theorem dX1_move_164 : decode cX1_move 164 = .ok (.aload_n 0, 1) := by decide +kernel
theorem dX1_move_165 : decode cX1_move 165 = .ok (.aload_n 0, 1) := by decide +kernel
theorem dX1_move_166 : decode cX1_move 166 = .ok (.getfield 47, 3) := by decide +kernel
theorem dX1_move_169 : decode cX1_move 169 = .ok (.iconst 1, 1) := by decide +kernel
theorem dX1_move_170 : decode cX1_move 170 = .ok (.iadd, 1) := by decide +kernel
theorem dX1_move_171 : decode cX1_move 171 = .ok (.sipush 255, 3) := by decide +kernel
theorem dX1_move_174 : decode cX1_move 174 = .ok (.iand, 1) := by decide +kernel
theorem dX1_move_175 : decode cX1_move 175 = .ok (.invokevirtual 169, 3) := by decide +kernel
theorem dX1_move_178 : decode cX1_move 178 = .ok (.putfield 47, 3) := by decide +kernel
theorem dX1_move_181 : decode cX1_move 181 = .ok (.goto 45, 3) := by decide +kernel
theorem dX1_move_184 : decode cX1_move 184 = .ok (.aload_n 0, 1) := by decide +kernel
theorem dX1_move_185 : decode cX1_move 185 = .ok (.aload_n 0, 1) := by decide +kernel
theorem dX1_move_186 : decode cX1_move 186 = .ok (.aload_n 0, 1) := by decide +kernel
theorem dX1_move_187 : decode cX1_move 187 = .ok (.getfield 44, 3) := by decide +kernel
theorem dX1_move_190 : decode cX1_move 190 = .ok (.iconst 1, 1) := by decide +kernel
theorem dX1_move_191 : decode cX1_move 191 = .ok (.isub, 1) := by decide +kernel
theorem dX1_move_192 : decode cX1_move 192 = .ok (.sipush 255, 3) := by decide +kernel
theorem dX1_move_195 : decode cX1_move 195 = .ok (.iand, 1) := by decide +kernel
theorem dX1_move_196 : decode cX1_move 196 = .ok (.invokevirtual 169, 3) := by decide +kernel
theorem dX1_move_199 : decode cX1_move 199 = .ok (.putfield 44, 3) := by decide +kernel
theorem dX1_move_202 : decode cX1_move 202 = .ok (.goto 24, 3) := by decide +kernel
theorem dX1_move_205 : decode cX1_move 205 = .ok (.aload_n 0, 1) := by decide +kernel
theorem dX1_move_206 : decode cX1_move 206 = .ok (.aload_n 0, 1) := by decide +kernel
theorem dX1_move_207 : decode cX1_move 207 = .ok (.aload_n 0, 1) := by decide +kernel
theorem dX1_move_208 : decode cX1_move 208 = .ok (.getfield 47, 3) := by decide +kernel
theorem dX1_move_211 : decode cX1_move 211 = .ok (.iconst 1, 1) := by decide +kernel
theorem dX1_move_212 : decode cX1_move 212 = .ok (.isub, 1) := by decide +kernel
theorem dX1_move_213 : decode cX1_move 213 = .ok (.sipush 255, 3) := by decide +kernel
theorem dX1_move_216 : decode cX1_move 216 = .ok (.iand, 1) := by decide +kernel
theorem dX1_move_217 : decode cX1_move 217 = .ok (.invokevirtual 169, 3) := by decide +kernel
theorem dX1_move_220 : decode cX1_move 220 = .ok (.putfield 47, 3) := by decide +kernel
theorem dX1_move_223 : decode cX1_move 223 = .ok (.goto 3, 3) := by decide +kernel
theorem dX1_move_226 : decode cX1_move 226 = .ok (.return_, 1) := by decide +kernel
theorem dX1_changeFlag_0 : decode cX1_changeFlag 0 = .ok (.iload_n 1, 1) := by decide +kernel
theorem dX1_changeFlag_1 : decode cX1_changeFlag 1 = .ok (.tableswitch 95 80 85 #[39, 48, 57, 66, 75, 85], 39) := by decide +kernel
theorem dX1_changeFlag_40 : decode cX1_changeFlag 40 = .ok (.aload_n 0, 1) := by decide +kernel
theorem dX1_changeFlag_41 : decode cX1_changeFlag 41 = .ok (.iconst 1, 1) := by decide +kernel
theorem dX1_changeFlag_42 : decode cX1_changeFlag 42 = .ok (.iconst 0, 1) := by decide +kernel
theorem dX1_changeFlag_43 : decode cX1_changeFlag 43 = .ok (.invokevirtual 184, 3) := by decide +kernel
theorem dX1_changeFlag_46 : decode cX1_changeFlag 46 = .ok (.goto 57, 3) := by decide +kernel
theorem dX1_changeFlag_49 : decode cX1_changeFlag 49 = .ok (.aload_n 0, 1) := by decide +kernel
theorem dX1_changeFlag_50 : decode cX1_changeFlag 50 = .ok (.iconst 1, 1) := by decide +kernel
theorem dX1_changeFlag_51 : decode cX1_changeFlag 51 = .ok (.iconst 1, 1) := by decide +kernel
theorem dX1_changeFlag_52 : decode cX1_changeFlag 52 = .ok (.invokevirtual 184, 3) := by decide +kernel
theorem dX1_changeFlag_55 : decode cX1_changeFlag 55 = .ok (.goto 48, 3) := by decide +kernel
theorem dX1_changeFlag_58 : decode cX1_changeFlag 58 = .ok (.aload_n 0, 1) := by decide +kernel
theorem dX1_changeFlag_59 : decode cX1_changeFlag 59 = .ok (.iconst 4, 1) := by decide +kernel
theorem dX1_changeFlag_60 : decode cX1_changeFlag 60 = .ok (.iconst 0, 1) := by decide +kernel
theorem dX1_changeFlag_61 : decode cX1_changeFlag 61 = .ok (.invokevirtual 184, 3) := by decide +kernel
theorem dX1_changeFlag_64 : decode cX1_changeFlag 64 = .ok (.goto 39, 3) := by decide +kernel
theorem dX1_changeFlag_67 : decode cX1_changeFlag 67 = .ok (.aload_n 0, 1) := by decide +kernel
theorem dX1_changeFlag_68 : decode cX1_changeFlag 68 = .ok (.iconst 4, 1) := by decide +kernel
theorem dX1_changeFlag_69 : decode cX1_changeFlag 69 = .ok (.iconst 1, 1) := by decide +kernel
theorem dX1_changeFlag_70 : decode cX1_changeFlag 70 = .ok (.invokevirtual 184, 3) := by decide +kernel
theorem dX1_changeFlag_73 : decode cX1_changeFlag 73 = .ok (.goto 30, 3) := by decide +kernel
theorem dX1_changeFlag_76 : decode cX1_changeFlag 76 = .ok (.aload_n 0, 1) := by decide +kernel
theorem dX1_changeFlag_77 : decode cX1_changeFlag 77 = .ok (.bipush 64, 2) := by decide +kernel
theorem dX1_changeFlag_79 : decode cX1_changeFlag 79 = .ok (.iconst 0, 1) := by decide +kernel
theorem dX1_changeFlag_80 : decode cX1_changeFlag 80 = .ok (.invokevirtual 184, 3) := by decide +kernel
theorem dX1_changeFlag_83 : decode cX1_changeFlag 83 = .ok (.goto 20, 3) := by decide +kernel
theorem dX1_changeFlag_86 : decode cX1_changeFlag 86 = .ok (.aload_n 0, 1) := by decide +kernel
theorem dX1_changeFlag_87 : decode cX1_changeFlag 87 = .ok (.bipush 8, 2) := by decide +kernel
theorem dX1_changeFlag_89 : decode cX1_changeFlag 89 = .ok (.iconst 0, 1) := by decide +kernel
theorem dX1_changeFlag_90 : decode cX1_changeFlag 90 = .ok (.invokevirtual 184, 3) := by decide +kernel
theorem dX1_changeFlag_93 : decode cX1_changeFlag 93 = .ok (.goto 10, 3) := by decide +kernel
theorem dX1_changeFlag_96 : decode cX1_changeFlag 96 = .ok (.aload_n 0, 1) := by decide +kernel
theorem dX1_changeFlag_97 : decode cX1_changeFlag 97 = .ok (.bipush 8, 2) := by decide +kernel
theorem dX1_changeFlag_99 : decode cX1_changeFlag 99 = .ok (.iconst 1, 1) := by decide +kernel
theorem dX1_changeFlag_100 : decode cX1_changeFlag 100 = .ok (.invokevirtual 184, 3) := by decide +kernel
theorem dX1_changeFlag_103 : decode cX1_changeFlag 103 = .ok (.return_, 1) := by decide +kernel
theorem dX1_useStack_0 : decode cX1_useStack 0 = .ok (.iload_n 1, 1) := by decide +kernel
theorem dX1_useStack_1 : decode cX1_useStack 1 = .ok (.tableswitch 67 96 98 #[27, 38, 53], 27) := by decide +kernel
theorem dX1_useStack_28 : decode cX1_useStack 28 = .ok (.aload_n 0, 1) := by decide +kernel
theorem dX1_useStack_29 : decode cX1_useStack 29 = .ok (.aload_n 0, 1) := by decide +kernel
theorem dX1_useStack_30 : decode cX1_useStack 30 = .ok (.getfield 41, 3) := by decide +kernel
theorem dX1_useStack_33 : decode cX1_useStack 33 = .ok (.invokevirtual 112, 3) := by decide +kernel
theorem dX1_useStack_36 : decode cX1_useStack 36 = .ok (.goto 36, 3) := by decide +kernel
theorem dX1_useStack_39 : decode cX1_useStack 39 = .ok (.aload_n 0, 1) := by decide +kernel
theorem dX1_useStack_40 : decode cX1_useStack 40 = .ok (.aload_n 0, 1) := by decide +kernel
theorem dX1_useStack_41 : decode cX1_useStack 41 = .ok (.aload_n 0, 1) := by decide +kernel
theorem dX1_useStack_42 : decode cX1_useStack 42 = .ok (.invokevirtual 192, 3) := by decide +kernel
theorem dX1_useStack_45 : decode cX1_useStack 45 = .ok (.invokevirtual 169, 3) := by decide +kernel
theorem dX1_useStack_48 : decode cX1_useStack 48 = .ok (.putfield 41, 3) := by decide +kernel
theorem dX1_useStack_51 : decode cX1_useStack 51 = .ok (.goto 21, 3) := by decide +kernel
theorem dX1_useStack_54 : decode cX1_useStack 54 = .ok (.aload_n 0, 1) := by decide +kernel
theorem dX1_useStack_55 : decode cX1_useStack 55 = .ok (.aload_n 0, 1) := by decide +kernel
theorem dX1_useStack_56 : decode cX1_useStack 56 = .ok (.getfield 28, 3) := by decide +kernel
theorem dX1_useStack_59 : decode cX1_useStack 59 = .ok (.bipush 16, 2) := by decide +kernel
theorem dX1_useStack_61 : decode cX1_useStack 61 = .ok (.ior, 1) := by decide +kernel
theorem dX1_useStack_62 : decode cX1_useStack 62 = .ok (.invokevirtual 112, 3) := by decide +kernel
theorem dX1_useStack_65 : decode cX1_useStack 65 = .ok (.goto 7, 3) := by decide +kernel
theorem dX1_useStack_68 : decode cX1_useStack 68 = .ok (.aload_n 0, 1) := by decide +kernel
theorem dX1_useStack_69 : decode cX1_useStack 69 = .ok (.invokevirtual 195, 3) := by decide +kernel
theorem dX1_useStack_72 : decode cX1_useStack 72 = .ok (.return_, 1) := by decide +kernel
theorem dX1_jump_0 : decode cX1_jump 0 = .ok (.iload_n 1, 1) := by decide +kernel
theorem dX1_jump_1 : decode cX1_jump 1 = .ok (.tableswitch 88 112 115 #[31, 39, 57, 73], 31) := by decide +kernel
theorem dX1_jump_32 : decode cX1_jump 32 = .ok (.aload_n 0, 1) := by decide +kernel
theorem dX1_jump_33 : decode cX1_jump 33 = .ok (.iload_n 2, 1) := by decide +kernel
theorem dX1_jump_34 : decode cX1_jump 34 = .ok (.putfield 53, 3) := by decide +kernel
theorem dX1_jump_37 : decode cX1_jump 37 = .ok (.goto 71, 3) := by decide +kernel
theorem dX1_jump_40 : decode cX1_jump 40 = .ok (.aload_n 0, 1) := by decide +kernel
theorem dX1_jump_41 : decode cX1_jump 41 = .ok (.aload_n 0, 1) := by decide +kernel
theorem dX1_jump_42 : decode cX1_jump 42 = .ok (.getfield 53, 3) := by decide +kernel
theorem dX1_jump_45 : decode cX1_jump 45 = .ok (.iconst 1, 1) := by decide +kernel
theorem dX1_jump_46 : decode cX1_jump 46 = .ok (.isub, 1) := by decide +kernel
theorem dX1_jump_47 : decode cX1_jump 47 = .ok (.invokevirtual 108, 3) := by decide +kernel
theorem dX1_jump_50 : decode cX1_jump 50 = .ok (.aload_n 0, 1) := by decide +kernel
theorem dX1_jump_51 : decode cX1_jump 51 = .ok (.iload_n 2, 1) := by decide +kernel
theorem dX1_jump_52 : decode cX1_jump 52 = .ok (.putfield 53, 3) := by decide +kernel
theorem dX1_jump_55 : decode cX1_jump 55 = .ok (.goto 53, 3) := by decide +kernel
theorem dX1_jump_58 : decode cX1_jump 58 = .ok (.aload_n 0, 1) := by decide +kernel
theorem dX1_jump_59 : decode cX1_jump 59 = .ok (.aload_n 0, 1) := by decide +kernel
theorem dX1_jump_60 : decode cX1_jump 60 = .ok (.invokevirtual 198, 3) := by decide +kernel
theorem dX1_jump_63 : decode cX1_jump 63 = .ok (.iconst 1, 1) := by decide +kernel
theorem dX1_jump_64 : decode cX1_jump 64 = .ok (.iadd, 1) := by decide +kernel
theorem dX1_jump_65 : decode cX1_jump 65 = .ok (.ldc 123, 2) := by decide +kernel
theorem dX1_jump_67 : decode cX1_jump 67 = .ok (.iand, 1) := by decide +kernel
theorem dX1_jump_68 : decode cX1_jump 68 = .ok (.putfield 53, 3) := by decide +kernel
theorem dX1_jump_71 : decode cX1_jump 71 = .ok (.goto 37, 3) := by decide +kernel
theorem dX1_jump_74 : decode cX1_jump 74 = .ok (.aload_n 0, 1) := by decide +kernel
theorem dX1_jump_75 : decode cX1_jump 75 = .ok (.invokevirtual 195, 3) := by decide +kernel
theorem dX1_jump_78 : decode cX1_jump 78 = .ok (.aload_n 0, 1) := by decide +kernel
theorem dX1_jump_79 : decode cX1_jump 79 = .ok (.aload_n 0, 1) := by decide +kernel
theorem dX1_jump_80 : decode cX1_jump 80 = .ok (.invokevirtual 198, 3) := by decide +kernel
theorem dX1_jump_83 : decode cX1_jump 83 = .ok (.putfield 53, 3) := by decide +kernel
theorem dX1_jump_86 : decode cX1_jump 86 = .ok (.goto 22, 3) := by decide +kernel
theorem dX1_jump_89 : decode cX1_jump 89 = .ok (.aload_n 0, 1) := by decide +kernel
theorem dX1_jump_90 : decode cX1_jump 90 = .ok (.ldc 107, 2) := by decide +kernel
theorem dX1_jump_92 : decode cX1_jump 92 = .ok (.aload_n 0, 1) := by decide +kernel
theorem dX1_jump_93 : decode cX1_jump 93 = .ok (.getfield 53, 3) := by decide +kernel
theorem dX1_jump_96 : decode cX1_jump 96 = .ok (.iconst 1, 1) := by decide +kernel
theorem dX1_jump_97 : decode cX1_jump 97 = .ok (.iadd, 1) := by decide +kernel
theorem dX1_jump_98 : decode cX1_jump 98 = .ok (.aload_n 0, 1) := by decide +kernel
theorem dX1_jump_99 : decode cX1_jump 99 = .ok (.getfield 28, 3) := by decide +kernel
theorem dX1_jump_102 : decode cX1_jump 102 = .ok (.bipush 16, 2) := by decide +kernel
theorem dX1_jump_104 : decode cX1_jump 104 = .ok (.ior, 1) := by decide +kernel
theorem dX1_jump_105 : decode cX1_jump 105 = .ok (.invokevirtual 100, 3) := by decide +kernel
theorem dX1_jump_108 : decode cX1_jump 108 = .ok (.return_, 1) := by decide +kernel
theorem dX1_branch_0 : decode cX1_branch 0 = .ok (.aload_n 0, 1) := by decide +kernel
theorem dX1_branch_1 : decode cX1_branch 1 = .ok (.iload_n 1, 1) := by decide +kernel
theorem dX1_branch_2 : decode cX1_branch 2 = .ok (.invokevirtual 201, 3) := by decide +kernel
theorem dX1_branch_5 : decode cX1_branch 5 = .ok (.ifCond .eq 17, 3) := by decide +kernel
theorem dX1_branch_8 : decode cX1_branch 8 = .ok (.aload_n 0, 1) := by decide +kernel
theorem dX1_branch_9 : decode cX1_branch 9 = .ok (.aload_n 0, 1) := by decide +kernel
theorem dX1_branch_10 : decode cX1_branch 10 = .ok (.getfield 53, 3) := by decide +kernel
theorem dX1_branch_13 : decode cX1_branch 13 = .ok (.iload_n 2, 1) := by decide +kernel
theorem dX1_branch_14 : decode cX1_branch 14 = .ok (.i2b, 1) := by decide +kernel
theorem dX1_branch_15 : decode cX1_branch 15 = .ok (.iadd, 1) := by decide +kernel
theorem dX1_branch_16 : decode cX1_branch 16 = .ok (.ldc 123, 2) := by decide +kernel
theorem dX1_branch_18 : decode cX1_branch 18 = .ok (.iand, 1) := by decide +kernel
theorem dX1_branch_19 : decode cX1_branch 19 = .ok (.putfield 53, 3) := by decide +kernel
theorem dX1_branch_22 : decode cX1_branch 22 = .ok (.return_, 1) := by decide +kernel
theorem dX1_goes_0 : decode cX1_goes 0 = .ok (.iload_n 1, 1) := by decide +kernel
theorem dX1_goes_1 : decode cX1_goes 1 = .ok (.tableswitch 154 128 134 #[43, 60, 77, 93, 109, 124, 139], 43) := by decide +kernel
theorem dX1_goes_44 : decode cX1_goes 44 = .ok (.aload_n 0, 1) := by decide +kernel
theorem dX1_goes_45 : decode cX1_goes 45 = .ok (.getfield 28, 3) := by decide +kernel
theorem dX1_goes_48 : decode cX1_goes 48 = .ok (.sipush 128, 3) := by decide +kernel
theorem dX1_goes_51 : decode cX1_goes 51 = .ok (.iand, 1) := by decide +kernel
theorem dX1_goes_52 : decode cX1_goes 52 = .ok (.ifCond .ne 7, 3) := by decide +kernel
theorem dX1_goes_55 : decode cX1_goes 55 = .ok (.iconst 1, 1) := by decide +kernel
theorem dX1_goes_56 : decode cX1_goes 56 = .ok (.goto 4, 3) := by decide +kernel
theorem dX1_goes_59 : decode cX1_goes 59 = .ok (.iconst 0, 1) := by decide +kernel
theorem dX1_goes_60 : decode cX1_goes 60 = .ok (.ireturn, 1) := by decide +kernel
theorem dX1_goes_61 : decode cX1_goes 61 = .ok (.aload_n 0, 1) := by decide +kernel
theorem dX1_goes_62 : decode cX1_goes 62 = .ok (.getfield 28, 3) := by decide +kernel
theorem dX1_goes_65 : decode cX1_goes 65 = .ok (.sipush 128, 3) := by decide +kernel
theorem dX1_goes_68 : decode cX1_goes 68 = .ok (.iand, 1) := by decide +kernel
theorem dX1_goes_69 : decode cX1_goes 69 = .ok (.ifCond .eq 7, 3) := by decide +kernel
theorem dX1_goes_72 : decode cX1_goes 72 = .ok (.iconst 1, 1) := by decide +kernel
theorem dX1_goes_73 : decode cX1_goes 73 = .ok (.goto 4, 3) := by decide +kernel
theorem dX1_goes_76 : decode cX1_goes 76 = .ok (.iconst 0, 1) := by decide +kernel
theorem dX1_goes_77 : decode cX1_goes 77 = .ok (.ireturn, 1) := by decide +kernel
theorem dX1_goes_78 : decode cX1_goes 78 = .ok (.aload_n 0, 1) := by decide +kernel
theorem dX1_goes_79 : decode cX1_goes 79 = .ok (.getfield 28, 3) := by decide +kernel
theorem dX1_goes_82 : decode cX1_goes 82 = .ok (.bipush 64, 2) := by decide +kernel
theorem dX1_goes_84 : decode cX1_goes 84 = .ok (.iand, 1) := by decide +kernel
theorem dX1_goes_85 : decode cX1_goes 85 = .ok (.ifCond .ne 7, 3) := by decide +kernel
theorem dX1_goes_88 : decode cX1_goes 88 = .ok (.iconst 1, 1) := by decide +kernel
theorem dX1_goes_89 : decode cX1_goes 89 = .ok (.goto 4, 3) := by decide +kernel
theorem dX1_goes_92 : decode cX1_goes 92 = .ok (.iconst 0, 1) := by decide +kernel
theorem dX1_goes_93 : decode cX1_goes 93 = .ok (.ireturn, 1) := by decide +kernel
theorem dX1_goes_94 : decode cX1_goes 94 = .ok (.aload_n 0, 1) := by decide +kernel
theorem dX1_goes_95 : decode cX1_goes 95 = .ok (.getfield 28, 3) := by decide +kernel
theorem dX1_goes_98 : decode cX1_goes 98 = .ok (.bipush 64, 2) := by decide +kernel
theorem dX1_goes_100 : decode cX1_goes 100 = .ok (.iand, 1) := by decide +kernel
theorem dX1_goes_101 : decode cX1_goes 101 = .ok (.ifCond .eq 7, 3) := by decide +kernel
theorem dX1_goes_104 : decode cX1_goes 104 = .ok (.iconst 1, 1) := by decide +kernel
theorem dX1_goes_105 : decode cX1_goes 105 = .ok (.goto 4, 3) := by decide +kernel
theorem dX1_goes_108 : decode cX1_goes 108 = .ok (.iconst 0, 1) := by decide +kernel
theorem dX1_goes_109 : decode cX1_goes 109 = .ok (.ireturn, 1) := by decide +kernel
theorem dX1_goes_110 : decode cX1_goes 110 = .ok (.aload_n 0, 1) := by decide +kernel
theorem dX1_goes_111 : decode cX1_goes 111 = .ok (.getfield 28, 3) := by decide +kernel
theorem dX1_goes_114 : decode cX1_goes 114 = .ok (.iconst 1, 1) := by decide +kernel
theorem dX1_goes_115 : decode cX1_goes 115 = .ok (.iand, 1) := by decide +kernel
theorem dX1_goes_116 : decode cX1_goes 116 = .ok (.ifCond .ne 7, 3) := by decide +kernel
theorem dX1_goes_119 : decode cX1_goes 119 = .ok (.iconst 1, 1) := by decide +kernel
theorem dX1_goes_120 : decode cX1_goes 120 = .ok (.goto 4, 3) := by decide +kernel
theorem dX1_goes_123 : decode cX1_goes 123 = .ok (.iconst 0, 1) := by decide +kernel
theorem dX1_goes_124 : decode cX1_goes 124 = .ok (.ireturn, 1) := by decide +kernel
theorem dX1_goes_125 : decode cX1_goes 125 = .ok (.aload_n 0, 1) := by decide +kernel
theorem dX1_goes_126 : decode cX1_goes 126 = .ok (.getfield 28, 3) := by decide +kernel
theorem dX1_goes_129 : decode cX1_goes 129 = .ok (.iconst 1, 1) := by decide +kernel
theorem dX1_goes_130 : decode cX1_goes 130 = .ok (.iand, 1) := by decide +kernel
theorem dX1_goes_131 : decode cX1_goes 131 = .ok (.ifCond .eq 7, 3) := by decide +kernel
theorem dX1_goes_134 : decode cX1_goes 134 = .ok (.iconst 1, 1) := by decide +kernel
theorem dX1_goes_135 : decode cX1_goes 135 = .ok (.goto 4, 3) := by decide +kernel
theorem dX1_goes_138 : decode cX1_goes 138 = .ok (.iconst 0, 1) := by decide +kernel
theorem dX1_goes_139 : decode cX1_goes 139 = .ok (.ireturn, 1) := by decide +kernel
theorem dX1_goes_140 : decode cX1_goes 140 = .ok (.aload_n 0, 1) := by decide +kernel
theorem dX1_goes_141 : decode cX1_goes 141 = .ok (.getfield 28, 3) := by decide +kernel
theorem dX1_goes_144 : decode cX1_goes 144 = .ok (.iconst 2, 1) := by decide +kernel
theorem dX1_goes_145 : decode cX1_goes 145 = .ok (.iand, 1) := by decide +kernel
theorem dX1_goes_146 : decode cX1_goes 146 = .ok (.ifCond .ne 7, 3) := by decide +kernel
theorem dX1_goes_149 : decode cX1_goes 149 = .ok (.iconst 1, 1) := by decide +kernel
theorem dX1_goes_150 : decode cX1_goes 150 = .ok (.goto 4, 3) := by decide +kernel
theorem dX1_goes_153 : decode cX1_goes 153 = .ok (.iconst 0, 1) := by decide +kernel
theorem dX1_goes_154 : decode cX1_goes 154 = .ok (.ireturn, 1) := by decide +kernel
theorem dX1_goes_155 : decode cX1_goes 155 = .ok (.aload_n 0, 1) := by decide +kernel
theorem dX1_goes_156 : decode cX1_goes 156 = .ok (.getfield 28, 3) := by decide +kernel
theorem dX1_goes_159 : decode cX1_goes 159 = .ok (.iconst 2, 1) := by decide +kernel
theorem dX1_goes_160 : decode cX1_goes 160 = .ok (.iand, 1) := by decide +kernel
theorem dX1_goes_161 : decode cX1_goes 161 = .ok (.ifCond .eq 7, 3) := by decide +kernel
theorem dX1_goes_164 : decode cX1_goes 164 = .ok (.iconst 1, 1) := by decide +kernel
theorem dX1_goes_165 : decode cX1_goes 165 = .ok (.goto 4, 3) := by decide +kernel
theorem dX1_goes_168 : decode cX1_goes 168 = .ok (.iconst 0, 1) := by decide +kernel
theorem dX1_goes_169 : decode cX1_goes 169 = .ok (.ireturn, 1) := by decide +kernel
theorem dX1_shown_0 : decode cX1_shown 0 = .ok (.aload_n 0, 1) := by decide +kernel
theorem dX1_shown_1 : decode cX1_shown 1 = .ok (.getfield 28, 3) := by decide +kernel
theorem dX1_shown_4 : decode cX1_shown 4 = .ok (.sipush (-131), 3) := by decide +kernel
theorem dX1_shown_7 : decode cX1_shown 7 = .ok (.iand, 1) := by decide +kernel
theorem dX1_shown_8 : decode cX1_shown 8 = .ok (.istore_n 2, 1) := by decide +kernel
theorem dX1_shown_9 : decode cX1_shown 9 = .ok (.aload_n 0, 1) := by decide +kernel
theorem dX1_shown_10 : decode cX1_shown 10 = .ok (.iload_n 2, 1) := by decide +kernel
theorem dX1_shown_11 : decode cX1_shown 11 = .ok (.iload_n 1, 1) := by decide +kernel
theorem dX1_shown_12 : decode cX1_shown 12 = .ok (.sipush 128, 3) := by decide +kernel
theorem dX1_shown_15 : decode cX1_shown 15 = .ok (.iand, 1) := by decide +kernel
theorem dX1_shown_16 : decode cX1_shown 16 = .ok (.ior, 1) := by decide +kernel
theorem dX1_shown_17 : decode cX1_shown 17 = .ok (.iload_n 1, 1) := by decide +kernel
theorem dX1_shown_18 : decode cX1_shown 18 = .ok (.ifCond .ne 7, 3) := by decide +kernel
theorem dX1_shown_21 : decode cX1_shown 21 = .ok (.iconst 2, 1) := by decide +kernel
theorem dX1_shown_22 : decode cX1_shown 22 = .ok (.goto 4, 3) := by decide +kernel
theorem dX1_shown_25 : decode cX1_shown 25 = .ok (.iconst 0, 1) := by decide +kernel
theorem dX1_shown_26 : decode cX1_shown 26 = .ok (.ior, 1) := by decide +kernel
theorem dX1_shown_27 : decode cX1_shown 27 = .ok (.putfield 28, 3) := by decide +kernel
theorem dX1_shown_30 : decode cX1_shown 30 = .ok (.iload_n 1, 1) := by decide +kernel
theorem dX1_shown_31 : decode cX1_shown 31 = .ok (.ireturn, 1) := by decide +kernel
theorem dX1_setFlag_0 : decode cX1_setFlag 0 = .ok (.aload_n 0, 1) := by decide +kernel
theorem dX1_setFlag_1 : decode cX1_setFlag 1 = .ok (.iload_n 2, 1) := by decide +kernel
theorem dX1_setFlag_2 : decode cX1_setFlag 2 = .ok (.ifCond .eq 12, 3) := by decide +kernel
theorem dX1_setFlag_5 : decode cX1_setFlag 5 = .ok (.aload_n 0, 1) := by decide +kernel
theorem dX1_setFlag_6 : decode cX1_setFlag 6 = .ok (.getfield 28, 3) := by decide +kernel
theorem dX1_setFlag_9 : decode cX1_setFlag 9 = .ok (.iload_n 1, 1) := by decide +kernel
theorem dX1_setFlag_10 : decode cX1_setFlag 10 = .ok (.ior, 1) := by decide +kernel
theorem dX1_setFlag_11 : decode cX1_setFlag 11 = .ok (.goto 11, 3) := by decide +kernel
theorem dX1_setFlag_14 : decode cX1_setFlag 14 = .ok (.aload_n 0, 1) := by decide +kernel
theorem dX1_setFlag_15 : decode cX1_setFlag 15 = .ok (.getfield 28, 3) := by decide +kernel
theorem dX1_setFlag_18 : decode cX1_setFlag 18 = .ok (.iload_n 1, 1) := by decide +kernel
theorem dX1_setFlag_19 : decode cX1_setFlag 19 = .ok (.iconst (-1), 1) := by decide +kernel
theorem dX1_setFlag_20 : decode cX1_setFlag 20 = .ok (.ixor, 1) := by decide +kernel
theorem dX1_setFlag_21 : decode cX1_setFlag 21 = .ok (.iand, 1) := by decide +kernel
theorem dX1_setFlag_22 : decode cX1_setFlag 22 = .ok (.putfield 28, 3) := by decide +kernel
theorem dX1_setFlag_25 : decode cX1_setFlag 25 = .ok (.return_, 1) := by decide +kernel
theorem dX1_push_0 : decode cX1_push 0 = .ok (.aload_n 0, 1) := by decide +kernel
theorem dX1_push_1 : decode cX1_push 1 = .ok (.getfield 24, 3) := by decide +kernel
theorem dX1_push_4 : decode cX1_push 4 = .ok (.sipush 256, 3) := by decide +kernel
theorem dX1_push_7 : decode cX1_push 7 = .ok (.aload_n 0, 1) := by decide +kernel
theorem dX1_push_8 : decode cX1_push 8 = .ok (.getfield 50, 3) := by decide +kernel
theorem dX1_push_11 : decode cX1_push 11 = .ok (.iadd, 1) := by decide +kernel
theorem dX1_push_12 : decode cX1_push 12 = .ok (.sipush 4095, 3) := by decide +kernel
theorem dX1_push_15 : decode cX1_push 15 = .ok (.iand, 1) := by decide +kernel
theorem dX1_push_16 : decode cX1_push 16 = .ok (.iload_n 1, 1) := by decide +kernel
theorem dX1_push_17 : decode cX1_push 17 = .ok (.sipush 255, 3) := by decide +kernel
theorem dX1_push_20 : decode cX1_push 20 = .ok (.iand, 1) := by decide +kernel
theorem dX1_push_21 : decode cX1_push 21 = .ok (.iastore, 1) := by decide +kernel
theorem dX1_push_22 : decode cX1_push 22 = .ok (.aload_n 0, 1) := by decide +kernel
theorem dX1_push_23 : decode cX1_push 23 = .ok (.aload_n 0, 1) := by decide +kernel
theorem dX1_push_24 : decode cX1_push 24 = .ok (.getfield 50, 3) := by decide +kernel
theorem dX1_push_27 : decode cX1_push 27 = .ok (.iconst 1, 1) := by decide +kernel
theorem dX1_push_28 : decode cX1_push 28 = .ok (.isub, 1) := by decide +kernel
theorem dX1_push_29 : decode cX1_push 29 = .ok (.sipush 255, 3) := by decide +kernel
theorem dX1_push_32 : decode cX1_push 32 = .ok (.iand, 1) := by decide +kernel
theorem dX1_push_33 : decode cX1_push 33 = .ok (.putfield 50, 3) := by decide +kernel
theorem dX1_push_36 : decode cX1_push 36 = .ok (.return_, 1) := by decide +kernel
theorem dX1_pushWord_0 : decode cX1_pushWord 0 = .ok (.aload_n 0, 1) := by decide +kernel
theorem dX1_pushWord_1 : decode cX1_pushWord 1 = .ok (.iload_n 1, 1) := by decide +kernel
theorem dX1_pushWord_2 : decode cX1_pushWord 2 = .ok (.bipush 8, 2) := by decide +kernel
theorem dX1_pushWord_4 : decode cX1_pushWord 4 = .ok (.ishr, 1) := by decide +kernel
theorem dX1_pushWord_5 : decode cX1_pushWord 5 = .ok (.invokevirtual 112, 3) := by decide +kernel
theorem dX1_pushWord_8 : decode cX1_pushWord 8 = .ok (.aload_n 0, 1) := by decide +kernel
theorem dX1_pushWord_9 : decode cX1_pushWord 9 = .ok (.iload_n 1, 1) := by decide +kernel
theorem dX1_pushWord_10 : decode cX1_pushWord 10 = .ok (.invokevirtual 112, 3) := by decide +kernel
theorem dX1_pushWord_13 : decode cX1_pushWord 13 = .ok (.return_, 1) := by decide +kernel
theorem dX1_pull_0 : decode cX1_pull 0 = .ok (.aload_n 0, 1) := by decide +kernel
theorem dX1_pull_1 : decode cX1_pull 1 = .ok (.aload_n 0, 1) := by decide +kernel
theorem dX1_pull_2 : decode cX1_pull 2 = .ok (.getfield 50, 3) := by decide +kernel
theorem dX1_pull_5 : decode cX1_pull 5 = .ok (.iconst 1, 1) := by decide +kernel
theorem dX1_pull_6 : decode cX1_pull 6 = .ok (.iadd, 1) := by decide +kernel
theorem dX1_pull_7 : decode cX1_pull 7 = .ok (.sipush 255, 3) := by decide +kernel
theorem dX1_pull_10 : decode cX1_pull 10 = .ok (.iand, 1) := by decide +kernel
theorem dX1_pull_11 : decode cX1_pull 11 = .ok (.putfield 50, 3) := by decide +kernel
theorem dX1_pull_14 : decode cX1_pull 14 = .ok (.aload_n 0, 1) := by decide +kernel
theorem dX1_pull_15 : decode cX1_pull 15 = .ok (.sipush 256, 3) := by decide +kernel
theorem dX1_pull_18 : decode cX1_pull 18 = .ok (.aload_n 0, 1) := by decide +kernel
theorem dX1_pull_19 : decode cX1_pull 19 = .ok (.getfield 50, 3) := by decide +kernel
theorem dX1_pull_22 : decode cX1_pull 22 = .ok (.iadd, 1) := by decide +kernel
theorem dX1_pull_23 : decode cX1_pull 23 = .ok (.invokevirtual 63, 3) := by decide +kernel
theorem dX1_pull_26 : decode cX1_pull 26 = .ok (.ireturn, 1) := by decide +kernel
theorem dX1_pullWord_0 : decode cX1_pullWord 0 = .ok (.aload_n 0, 1) := by decide +kernel
theorem dX1_pullWord_1 : decode cX1_pullWord 1 = .ok (.invokevirtual 192, 3) := by decide +kernel
theorem dX1_pullWord_4 : decode cX1_pullWord 4 = .ok (.istore_n 1, 1) := by decide +kernel
theorem dX1_pullWord_5 : decode cX1_pullWord 5 = .ok (.aload_n 0, 1) := by decide +kernel
theorem dX1_pullWord_6 : decode cX1_pullWord 6 = .ok (.invokevirtual 192, 3) := by decide +kernel
theorem dX1_pullWord_9 : decode cX1_pullWord 9 = .ok (.bipush 8, 2) := by decide +kernel
theorem dX1_pullWord_11 : decode cX1_pullWord 11 = .ok (.ishl, 1) := by decide +kernel
theorem dX1_pullWord_12 : decode cX1_pullWord 12 = .ok (.iload_n 1, 1) := by decide +kernel
theorem dX1_pullWord_13 : decode cX1_pullWord 13 = .ok (.ior, 1) := by decide +kernel
theorem dX1_pullWord_14 : decode cX1_pullWord 14 = .ok (.ireturn, 1) := by decide +kernel
theorem dX1_pullStatus_0 : decode cX1_pullStatus 0 = .ok (.aload_n 0, 1) := by decide +kernel
theorem dX1_pullStatus_1 : decode cX1_pullStatus 1 = .ok (.aload_n 0, 1) := by decide +kernel
theorem dX1_pullStatus_2 : decode cX1_pullStatus 2 = .ok (.invokevirtual 192, 3) := by decide +kernel
theorem dX1_pullStatus_5 : decode cX1_pullStatus 5 = .ok (.bipush (-17), 2) := by decide +kernel
theorem dX1_pullStatus_7 : decode cX1_pullStatus 7 = .ok (.iand, 1) := by decide +kernel
theorem dX1_pullStatus_8 : decode cX1_pullStatus 8 = .ok (.bipush 32, 2) := by decide +kernel
theorem dX1_pullStatus_10 : decode cX1_pullStatus 10 = .ok (.ior, 1) := by decide +kernel
theorem dX1_pullStatus_11 : decode cX1_pullStatus 11 = .ok (.putfield 28, 3) := by decide +kernel
theorem dX1_pullStatus_14 : decode cX1_pullStatus 14 = .ok (.return_, 1) := by decide +kernel
theorem dX1_read_0 : decode cX1_read 0 = .ok (.iload_n 1, 1) := by decide +kernel
theorem dX1_read_1 : decode cX1_read 1 = .ok (.aload_n 0, 1) := by decide +kernel
theorem dX1_read_2 : decode cX1_read 2 = .ok (.getfield 21, 3) := by decide +kernel
theorem dX1_read_5 : decode cX1_read 5 = .ok (.isub, 1) := by decide +kernel
theorem dX1_read_6 : decode cX1_read 6 = .ok (.istore_n 2, 1) := by decide +kernel
theorem dX1_read_7 : decode cX1_read 7 = .ok (.iload_n 2, 1) := by decide +kernel
theorem dX1_read_8 : decode cX1_read 8 = .ok (.ifCond .lt 9, 3) := by decide +kernel
theorem dX1_read_11 : decode cX1_read 11 = .ok (.iload_n 2, 1) := by decide +kernel
theorem dX1_read_12 : decode cX1_read 12 = .ok (.bipush 8, 2) := by decide +kernel
theorem dX1_read_14 : decode cX1_read 14 = .ok (.if_icmp .lt 9, 3) := by decide +kernel
theorem dX1_read_17 : decode cX1_read 17 = .ok (.aload_n 0, 1) := by decide +kernel
theorem dX1_read_18 : decode cX1_read 18 = .ok (.iload_n 1, 1) := by decide +kernel
theorem dX1_read_19 : decode cX1_read 19 = .ok (.invokevirtual 63, 3) := by decide +kernel
theorem dX1_read_22 : decode cX1_read 22 = .ok (.ireturn, 1) := by decide +kernel
theorem dX1_read_23 : decode cX1_read 23 = .ok (.iload_n 2, 1) := by decide +kernel
theorem dX1_read_24 : decode cX1_read 24 = .ok (.iconst 1, 1) := by decide +kernel
theorem dX1_read_25 : decode cX1_read 25 = .ok (.iand, 1) := by decide +kernel
theorem dX1_read_26 : decode cX1_read 26 = .ok (.ifCond .ne 20, 3) := by decide +kernel
theorem dX1_read_29 : decode cX1_read 29 = .ok (.aload_n 0, 1) := by decide +kernel
theorem dX1_read_30 : decode cX1_read 30 = .ok (.getfield 15, 3) := by decide +kernel
theorem dX1_read_33 : decode cX1_read 33 = .ok (.aload_n 0, 1) := by decide +kernel
theorem dX1_read_34 : decode cX1_read 34 = .ok (.getfield 9, 3) := by decide +kernel
theorem dX1_read_37 : decode cX1_read 37 = .ok (.iload_n 2, 1) := by decide +kernel
theorem dX1_read_38 : decode cX1_read 38 = .ok (.iconst 1, 1) := by decide +kernel
theorem dX1_read_39 : decode cX1_read 39 = .ok (.ishr, 1) := by decide +kernel
theorem dX1_read_40 : decode cX1_read 40 = .ok (.invokevirtual 204, 3) := by decide +kernel
theorem dX1_read_43 : decode cX1_read 43 = .ok (.goto 20, 3) := by decide +kernel
theorem dX1_read_46 : decode cX1_read 46 = .ok (.aload_n 0, 1) := by decide +kernel
theorem dX1_read_47 : decode cX1_read 47 = .ok (.getfield 15, 3) := by decide +kernel
theorem dX1_read_50 : decode cX1_read 50 = .ok (.aload_n 0, 1) := by decide +kernel
theorem dX1_read_51 : decode cX1_read 51 = .ok (.getfield 9, 3) := by decide +kernel
theorem dX1_read_54 : decode cX1_read 54 = .ok (.iload_n 2, 1) := by decide +kernel
theorem dX1_read_55 : decode cX1_read 55 = .ok (.iconst 1, 1) := by decide +kernel
theorem dX1_read_56 : decode cX1_read 56 = .ok (.ishr, 1) := by decide +kernel
theorem dX1_read_57 : decode cX1_read 57 = .ok (.invokevirtual 207, 3) := by decide +kernel
theorem dX1_read_60 : decode cX1_read 60 = .ok (.invokevirtual 211, 3) := by decide +kernel
theorem dX1_read_63 : decode cX1_read 63 = .ok (.ireturn, 1) := by decide +kernel
theorem dX1_write_0 : decode cX1_write 0 = .ok (.iload_n 1, 1) := by decide +kernel
theorem dX1_write_1 : decode cX1_write 1 = .ok (.aload_n 0, 1) := by decide +kernel
theorem dX1_write_2 : decode cX1_write 2 = .ok (.getfield 21, 3) := by decide +kernel
theorem dX1_write_5 : decode cX1_write 5 = .ok (.isub, 1) := by decide +kernel
theorem dX1_write_6 : decode cX1_write 6 = .ok (.istore_n 3, 1) := by decide +kernel
theorem dX1_write_7 : decode cX1_write 7 = .ok (.iload_n 3, 1) := by decide +kernel
theorem dX1_write_8 : decode cX1_write 8 = .ok (.ifCond .lt 9, 3) := by decide +kernel
theorem dX1_write_11 : decode cX1_write 11 = .ok (.iload_n 3, 1) := by decide +kernel
theorem dX1_write_12 : decode cX1_write 12 = .ok (.bipush 8, 2) := by decide +kernel
theorem dX1_write_14 : decode cX1_write 14 = .ok (.if_icmp .lt 17, 3) := by decide +kernel
theorem dX1_write_17 : decode cX1_write 17 = .ok (.aload_n 0, 1) := by decide +kernel
theorem dX1_write_18 : decode cX1_write 18 = .ok (.getfield 24, 3) := by decide +kernel
theorem dX1_write_21 : decode cX1_write 21 = .ok (.iload_n 1, 1) := by decide +kernel
theorem dX1_write_22 : decode cX1_write 22 = .ok (.sipush 4095, 3) := by decide +kernel
theorem dX1_write_25 : decode cX1_write 25 = .ok (.iand, 1) := by decide +kernel
theorem dX1_write_26 : decode cX1_write 26 = .ok (.iload_n 2, 1) := by decide +kernel
theorem dX1_write_27 : decode cX1_write 27 = .ok (.iastore, 1) := by decide +kernel
theorem dX1_write_28 : decode cX1_write 28 = .ok (.goto 51, 3) := by decide +kernel
theorem dX1_write_31 : decode cX1_write 31 = .ok (.iload_n 3, 1) := by decide +kernel
theorem dX1_write_32 : decode cX1_write 32 = .ok (.iconst 1, 1) := by decide +kernel
theorem dX1_write_33 : decode cX1_write 33 = .ok (.iand, 1) := by decide +kernel
theorem dX1_write_34 : decode cX1_write 34 = .ok (.ifCond .eq 26, 3) := by decide +kernel
theorem dX1_write_37 : decode cX1_write 37 = .ok (.aload_n 0, 1) := by decide +kernel
theorem dX1_write_38 : decode cX1_write 38 = .ok (.getfield 15, 3) := by decide +kernel
theorem dX1_write_41 : decode cX1_write 41 = .ok (.iconst 1, 1) := by decide +kernel
theorem dX1_write_42 : decode cX1_write 42 = .ok (.aload_n 0, 1) := by decide +kernel
theorem dX1_write_43 : decode cX1_write 43 = .ok (.getfield 9, 3) := by decide +kernel
theorem dX1_write_46 : decode cX1_write 46 = .ok (.isub, 1) := by decide +kernel
theorem dX1_write_47 : decode cX1_write 47 = .ok (.iload_n 3, 1) := by decide +kernel
theorem dX1_write_48 : decode cX1_write 48 = .ok (.iconst 1, 1) := by decide +kernel
theorem dX1_write_49 : decode cX1_write 49 = .ok (.ishr, 1) := by decide +kernel
theorem dX1_write_50 : decode cX1_write 50 = .ok (.invokevirtual 207, 3) := by decide +kernel
theorem dX1_write_53 : decode cX1_write 53 = .ok (.iload_n 2, 1) := by decide +kernel
theorem dX1_write_54 : decode cX1_write 54 = .ok (.invokevirtual 216, 3) := by decide +kernel
theorem dX1_write_57 : decode cX1_write 57 = .ok (.goto 22, 3) := by decide +kernel
theorem dX1_write_60 : decode cX1_write 60 = .ok (.aload_n 0, 1) := by decide +kernel
theorem dX1_write_61 : decode cX1_write 61 = .ok (.getfield 9, 3) := by decide +kernel
theorem dX1_write_64 : decode cX1_write 64 = .ok (.ifCond .ne 15, 3) := by decide +kernel
theorem dX1_write_67 : decode cX1_write 67 = .ok (.iload_n 3, 1) := by decide +kernel
theorem dX1_write_68 : decode cX1_write 68 = .ok (.ifCond .ne 11, 3) := by decide +kernel
theorem dX1_write_71 : decode cX1_write 71 = .ok (.aload_n 0, 1) := by decide +kernel
theorem dX1_write_72 : decode cX1_write 72 = .ok (.getfield 15, 3) := by decide +kernel
theorem dX1_write_75 : decode cX1_write 75 = .ok (.iload_n 2, 1) := by decide +kernel
theorem dX1_write_76 : decode cX1_write 76 = .ok (.invokevirtual 219, 3) := by decide +kernel
theorem dX1_write_79 : decode cX1_write 79 = .ok (.return_, 1) := by decide +kernel
theorem dX2_init_0 : decode cX2_init 0 = .ok (.aload_n 0, 1) := by decide +kernel
theorem dX2_init_1 : decode cX2_init 1 = .ok (.invokespecial 1, 3) := by decide +kernel
theorem dX2_init_4 : decode cX2_init 4 = .ok (.aload_n 0, 1) := by decide +kernel
theorem dX2_init_5 : decode cX2_init 5 = .ok (.iload_n 1, 1) := by decide +kernel
theorem dX2_init_6 : decode cX2_init 6 = .ok (.newarray .int, 2) := by decide +kernel
theorem dX2_init_8 : decode cX2_init 8 = .ok (.putfield 7, 3) := by decide +kernel
theorem dX2_init_11 : decode cX2_init 11 = .ok (.aload_n 0, 1) := by decide +kernel
theorem dX2_init_12 : decode cX2_init 12 = .ok (.iload_n 2, 1) := by decide +kernel
theorem dX2_init_13 : decode cX2_init 13 = .ok (.putfield 13, 3) := by decide +kernel
theorem dX2_init_16 : decode cX2_init 16 = .ok (.return_, 1) := by decide +kernel
theorem dX2_forget_0 : decode cX2_forget 0 = .ok (.aload_n 0, 1) := by decide +kernel
theorem dX2_forget_1 : decode cX2_forget 1 = .ok (.iconst 0, 1) := by decide +kernel
theorem dX2_forget_2 : decode cX2_forget 2 = .ok (.putfield 17, 3) := by decide +kernel
theorem dX2_forget_5 : decode cX2_forget 5 = .ok (.aload_n 0, 1) := by decide +kernel
theorem dX2_forget_6 : decode cX2_forget 6 = .ok (.iconst 0, 1) := by decide +kernel
theorem dX2_forget_7 : decode cX2_forget 7 = .ok (.putfield 20, 3) := by decide +kernel
theorem dX2_forget_10 : decode cX2_forget 10 = .ok (.aload_n 0, 1) := by decide +kernel
theorem dX2_forget_11 : decode cX2_forget 11 = .ok (.iconst 0, 1) := by decide +kernel
theorem dX2_forget_12 : decode cX2_forget 12 = .ok (.putfield 23, 3) := by decide +kernel
theorem dX2_forget_15 : decode cX2_forget 15 = .ok (.return_, 1) := by decide +kernel
theorem dX2_next_0 : decode cX2_next 0 = .ok (.aload_n 0, 1) := by decide +kernel
theorem dX2_next_1 : decode cX2_next 1 = .ok (.getfield 17, 3) := by decide +kernel
theorem dX2_next_4 : decode cX2_next 4 = .ok (.ifCond .le 15, 3) := by decide +kernel
theorem dX2_next_7 : decode cX2_next 7 = .ok (.aload_n 0, 1) := by decide +kernel
theorem dX2_next_8 : decode cX2_next 8 = .ok (.getfield 7, 3) := by decide +kernel
theorem dX2_next_11 : decode cX2_next 11 = .ok (.aload_n 0, 1) := by decide +kernel
theorem dX2_next_12 : decode cX2_next 12 = .ok (.getfield 20, 3) := by decide +kernel
theorem dX2_next_15 : decode cX2_next 15 = .ok (.iaload, 1) := by decide +kernel
theorem dX2_next_16 : decode cX2_next 16 = .ok (.goto 7, 3) := by decide +kernel
theorem dX2_next_19 : decode cX2_next 19 = .ok (.aload_n 0, 1) := by decide +kernel
theorem dX2_next_20 : decode cX2_next 20 = .ok (.getfield 23, 3) := by decide +kernel
theorem dX2_next_23 : decode cX2_next 23 = .ok (.ireturn, 1) := by decide +kernel
theorem dX2_take_0 : decode cX2_take 0 = .ok (.aload_n 0, 1) := by decide +kernel
theorem dX2_take_1 : decode cX2_take 1 = .ok (.getfield 17, 3) := by decide +kernel
theorem dX2_take_4 : decode cX2_take 4 = .ok (.ifCond .le 54, 3) := by decide +kernel
theorem dX2_take_7 : decode cX2_take 7 = .ok (.aload_n 0, 1) := by decide +kernel
theorem dX2_take_8 : decode cX2_take 8 = .ok (.aload_n 0, 1) := by decide +kernel
theorem dX2_take_9 : decode cX2_take 9 = .ok (.getfield 7, 3) := by decide +kernel
theorem dX2_take_12 : decode cX2_take 12 = .ok (.aload_n 0, 1) := by decide +kernel
theorem dX2_take_13 : decode cX2_take 13 = .ok (.getfield 20, 3) := by decide +kernel
theorem dX2_take_16 : decode cX2_take 16 = .ok (.iaload, 1) := by decide +kernel
theorem dX2_take_17 : decode cX2_take 17 = .ok (.putfield 23, 3) := by decide +kernel
theorem dX2_take_20 : decode cX2_take 20 = .ok (.aload_n 0, 1) := by decide +kernel
theorem dX2_take_21 : decode cX2_take 21 = .ok (.aload_n 0, 1) := by decide +kernel
theorem dX2_take_22 : decode cX2_take 22 = .ok (.getfield 20, 3) := by decide +kernel
theorem dX2_take_25 : decode cX2_take 25 = .ok (.iconst 1, 1) := by decide +kernel
theorem dX2_take_26 : decode cX2_take 26 = .ok (.iadd, 1) := by decide +kernel
theorem dX2_take_27 : decode cX2_take 27 = .ok (.aload_n 0, 1) := by decide +kernel
theorem dX2_take_28 : decode cX2_take 28 = .ok (.getfield 7, 3) := by decide +kernel
theorem dX2_take_31 : decode cX2_take 31 = .ok (.arraylength, 1) := by decide +kernel
theorem dX2_take_32 : decode cX2_take 32 = .ok (.if_icmp .ge 12, 3) := by decide +kernel
theorem dX2_take_35 : decode cX2_take 35 = .ok (.aload_n 0, 1) := by decide +kernel
theorem dX2_take_36 : decode cX2_take 36 = .ok (.getfield 20, 3) := by decide +kernel
theorem dX2_take_39 : decode cX2_take 39 = .ok (.iconst 1, 1) := by decide +kernel
theorem dX2_take_40 : decode cX2_take 40 = .ok (.iadd, 1) := by decide +kernel
theorem dX2_take_41 : decode cX2_take 41 = .ok (.goto 4, 3) := by decide +kernel
theorem dX2_take_44 : decode cX2_take 44 = .ok (.iconst 0, 1) := by decide +kernel
theorem dX2_take_45 : decode cX2_take 45 = .ok (.putfield 20, 3) := by decide +kernel
theorem dX2_take_48 : decode cX2_take 48 = .ok (.aload_n 0, 1) := by decide +kernel
theorem dX2_take_49 : decode cX2_take 49 = .ok (.dup, 1) := by decide +kernel
theorem dX2_take_50 : decode cX2_take 50 = .ok (.getfield 17, 3) := by decide +kernel
theorem dX2_take_53 : decode cX2_take 53 = .ok (.iconst 1, 1) := by decide +kernel
theorem dX2_take_54 : decode cX2_take 54 = .ok (.isub, 1) := by decide +kernel
theorem dX2_take_55 : decode cX2_take 55 = .ok (.putfield 17, 3) := by decide +kernel
theorem dX2_take_58 : decode cX2_take 58 = .ok (.aload_n 0, 1) := by decide +kernel
theorem dX2_take_59 : decode cX2_take 59 = .ok (.getfield 23, 3) := by decide +kernel
theorem dX2_take_62 : decode cX2_take 62 = .ok (.ireturn, 1) := by decide +kernel
theorem dX2_put_0 : decode cX2_put 0 = .ok (.aload_n 0, 1) := by decide +kernel
theorem dX2_put_1 : decode cX2_put 1 = .ok (.getfield 17, 3) := by decide +kernel
theorem dX2_put_4 : decode cX2_put 4 = .ok (.aload_n 0, 1) := by decide +kernel
theorem dX2_put_5 : decode cX2_put 5 = .ok (.getfield 13, 3) := by decide +kernel
theorem dX2_put_8 : decode cX2_put 8 = .ok (.if_icmp .ge 49, 3) := by decide +kernel
theorem dX2_put_11 : decode cX2_put 11 = .ok (.aload_n 0, 1) := by decide +kernel
theorem dX2_put_12 : decode cX2_put 12 = .ok (.getfield 20, 3) := by decide +kernel
theorem dX2_put_15 : decode cX2_put 15 = .ok (.aload_n 0, 1) := by decide +kernel
theorem dX2_put_16 : decode cX2_put 16 = .ok (.getfield 17, 3) := by decide +kernel
theorem dX2_put_19 : decode cX2_put 19 = .ok (.iadd, 1) := by decide +kernel
theorem dX2_put_20 : decode cX2_put 20 = .ok (.istore_n 2, 1) := by decide +kernel
theorem dX2_put_21 : decode cX2_put 21 = .ok (.aload_n 0, 1) := by decide +kernel
theorem dX2_put_22 : decode cX2_put 22 = .ok (.getfield 7, 3) := by decide +kernel
theorem dX2_put_25 : decode cX2_put 25 = .ok (.iload_n 2, 1) := by decide +kernel
theorem dX2_put_26 : decode cX2_put 26 = .ok (.aload_n 0, 1) := by decide +kernel
theorem dX2_put_27 : decode cX2_put 27 = .ok (.getfield 7, 3) := by decide +kernel
theorem dX2_put_30 : decode cX2_put 30 = .ok (.arraylength, 1) := by decide +kernel
theorem dX2_put_31 : decode cX2_put 31 = .ok (.if_icmp .ge 7, 3) := by decide +kernel
theorem dX2_put_34 : decode cX2_put 34 = .ok (.iload_n 2, 1) := by decide +kernel
theorem dX2_put_35 : decode cX2_put 35 = .ok (.goto 10, 3) := by decide +kernel
theorem dX2_put_38 : decode cX2_put 38 = .ok (.iload_n 2, 1) := by decide +kernel
theorem dX2_put_39 : decode cX2_put 39 = .ok (.aload_n 0, 1) := by decide +kernel
theorem dX2_put_40 : decode cX2_put 40 = .ok (.getfield 7, 3) := by decide +kernel
theorem dX2_put_43 : decode cX2_put 43 = .ok (.arraylength, 1) := by decide +kernel
theorem dX2_put_44 : decode cX2_put 44 = .ok (.isub, 1) := by decide +kernel
theorem dX2_put_45 : decode cX2_put 45 = .ok (.iload_n 1, 1) := by decide +kernel
theorem dX2_put_46 : decode cX2_put 46 = .ok (.iastore, 1) := by decide +kernel
theorem dX2_put_47 : decode cX2_put 47 = .ok (.aload_n 0, 1) := by decide +kernel
theorem dX2_put_48 : decode cX2_put 48 = .ok (.dup, 1) := by decide +kernel
theorem dX2_put_49 : decode cX2_put 49 = .ok (.getfield 17, 3) := by decide +kernel
theorem dX2_put_52 : decode cX2_put 52 = .ok (.iconst 1, 1) := by decide +kernel
theorem dX2_put_53 : decode cX2_put 53 = .ok (.iadd, 1) := by decide +kernel
theorem dX2_put_54 : decode cX2_put 54 = .ok (.putfield 17, 3) := by decide +kernel
theorem dX2_put_57 : decode cX2_put 57 = .ok (.return_, 1) := by decide +kernel
theorem dX3_init_0 : decode cX3_init 0 = .ok (.aload_n 0, 1) := by decide +kernel
theorem dX3_init_1 : decode cX3_init 1 = .ok (.invokespecial 3, 3) := by decide +kernel
theorem dX3_init_4 : decode cX3_init 4 = .ok (.aload_n 0, 1) := by decide +kernel
theorem dX3_init_5 : decode cX3_init 5 = .ok (.bipush 8, 2) := by decide +kernel
theorem dX3_init_7 : decode cX3_init 7 = .ok (.anewarray 9, 3) := by decide +kernel
theorem dX3_init_10 : decode cX3_init 10 = .ok (.putfield 11, 3) := by decide +kernel
theorem dX3_init_13 : decode cX3_init 13 = .ok (.iconst 0, 1) := by decide +kernel
theorem dX3_init_14 : decode cX3_init 14 = .ok (.istore_n 1, 1) := by decide +kernel
theorem dX3_init_15 : decode cX3_init 15 = .ok (.iload_n 1, 1) := by decide +kernel
theorem dX3_init_16 : decode cX3_init 16 = .ok (.bipush 8, 2) := by decide +kernel
theorem dX3_init_18 : decode cX3_init 18 = .ok (.if_icmp .ge 43, 3) := by decide +kernel
theorem dX3_init_21 : decode cX3_init 21 = .ok (.aload_n 0, 1) := by decide +kernel
theorem dX3_init_22 : decode cX3_init 22 = .ok (.getfield 11, 3) := by decide +kernel
theorem dX3_init_25 : decode cX3_init 25 = .ok (.iload_n 1, 1) := by decide +kernel
theorem dX3_init_26 : decode cX3_init 26 = .ok (.new 9, 3) := by decide +kernel
theorem dX3_init_29 : decode cX3_init 29 = .ok (.dup, 1) := by decide +kernel
theorem dX3_init_30 : decode cX3_init 30 = .ok (.getstatic 17, 3) := by decide +kernel
theorem dX3_init_33 : decode cX3_init 33 = .ok (.iload_n 1, 1) := by decide +kernel
theorem dX3_init_34 : decode cX3_init 34 = .ok (.iaload, 1) := by decide +kernel
theorem dX3_init_35 : decode cX3_init 35 = .ok (.iload_n 1, 1) := by decide +kernel
theorem dX3_init_36 : decode cX3_init 36 = .ok (.iconst 4, 1) := by decide +kernel
theorem dX3_init_37 : decode cX3_init 37 = .ok (.irem, 1) := by decide +kernel
theorem dX3_init_38 : decode cX3_init 38 = .ok (.iconst 2, 1) := by decide +kernel
theorem dX3_init_39 : decode cX3_init 39 = .ok (.if_icmp .ne 7, 3) := by decide +kernel
theorem dX3_init_42 : decode cX3_init 42 = .ok (.iconst 1, 1) := by decide +kernel
theorem dX3_init_43 : decode cX3_init 43 = .ok (.goto 8, 3) := by decide +kernel
theorem dX3_init_46 : decode cX3_init 46 = .ok (.getstatic 17, 3) := by decide +kernel
theorem dX3_init_49 : decode cX3_init 49 = .ok (.iload_n 1, 1) := by decide +kernel
theorem dX3_init_50 : decode cX3_init 50 = .ok (.iaload, 1) := by decide +kernel
theorem dX3_init_51 : decode cX3_init 51 = .ok (.invokespecial 21, 3) := by decide +kernel
theorem dX3_init_54 : decode cX3_init 54 = .ok (.aastore, 1) := by decide +kernel
theorem dX3_init_55 : decode cX3_init 55 = .ok (.iinc 1 1, 3) := by decide +kernel
theorem dX3_init_58 : decode cX3_init 58 = .ok (.goto (-43), 3) := by decide +kernel
theorem dX3_init_61 : decode cX3_init 61 = .ok (.return_, 1) := by decide +kernel
theorem dX3_forget_0 : decode cX3_forget 0 = .ok (.iconst 0, 1) := by decide +kernel
theorem dX3_forget_1 : decode cX3_forget 1 = .ok (.istore_n 1, 1) := by decide +kernel
theorem dX3_forget_2 : decode cX3_forget 2 = .ok (.iload_n 1, 1) := by decide +kernel
theorem dX3_forget_3 : decode cX3_forget 3 = .ok (.bipush 8, 2) := by decide +kernel
theorem dX3_forget_5 : decode cX3_forget 5 = .ok (.if_icmp .ge 18, 3) := by decide +kernel
theorem dX3_forget_8 : decode cX3_forget 8 = .ok (.aload_n 0, 1) := by decide +kernel
theorem dX3_forget_9 : decode cX3_forget 9 = .ok (.getfield 11, 3) := by decide +kernel
theorem dX3_forget_12 : decode cX3_forget 12 = .ok (.iload_n 1, 1) := by decide +kernel
theorem dX3_forget_13 : decode cX3_forget 13 = .ok (.aaload, 1) := by decide +kernel
theorem dX3_forget_14 : decode cX3_forget 14 = .ok (.invokevirtual 24, 3) := by decide +kernel
theorem dX3_forget_17 : decode cX3_forget 17 = .ok (.iinc 1 1, 3) := by decide +kernel
theorem dX3_forget_20 : decode cX3_forget 20 = .ok (.goto (-18), 3) := by decide +kernel
theorem dX3_forget_23 : decode cX3_forget 23 = .ok (.aload_n 0, 1) := by decide +kernel
theorem dX3_forget_24 : decode cX3_forget 24 = .ok (.bipush 63, 2) := by decide +kernel
theorem dX3_forget_26 : decode cX3_forget 26 = .ok (.invokevirtual 27, 3) := by decide +kernel
theorem dX3_forget_29 : decode cX3_forget 29 = .ok (.aload_n 0, 1) := by decide +kernel
theorem dX3_forget_30 : decode cX3_forget 30 = .ok (.iconst 0, 1) := by decide +kernel
theorem dX3_forget_31 : decode cX3_forget 31 = .ok (.putfield 31, 3) := by decide +kernel
theorem dX3_forget_34 : decode cX3_forget 34 = .ok (.return_, 1) := by decide +kernel
theorem dX3_look_0 : decode cX3_look 0 = .ok (.iload_n 2, 1) := by decide +kernel
theorem dX3_look_1 : decode cX3_look 1 = .ok (.iconst 1, 1) := by decide +kernel
theorem dX3_look_2 : decode cX3_look 2 = .ok (.iand, 1) := by decide +kernel
theorem dX3_look_3 : decode cX3_look 3 = .ok (.ifCond .ne 14, 3) := by decide +kernel
theorem dX3_look_6 : decode cX3_look 6 = .ok (.aload_n 0, 1) := by decide +kernel
theorem dX3_look_7 : decode cX3_look 7 = .ok (.iload_n 1, 1) := by decide +kernel
theorem dX3_look_8 : decode cX3_look 8 = .ok (.iload_n 2, 1) := by decide +kernel
theorem dX3_look_9 : decode cX3_look 9 = .ok (.iconst 1, 1) := by decide +kernel
theorem dX3_look_10 : decode cX3_look 10 = .ok (.ishr, 1) := by decide +kernel
theorem dX3_look_11 : decode cX3_look 11 = .ok (.invokevirtual 35, 3) := by decide +kernel
theorem dX3_look_14 : decode cX3_look 14 = .ok (.goto 14, 3) := by decide +kernel
theorem dX3_look_17 : decode cX3_look 17 = .ok (.aload_n 0, 1) := by decide +kernel
theorem dX3_look_18 : decode cX3_look 18 = .ok (.iload_n 1, 1) := by decide +kernel
theorem dX3_look_19 : decode cX3_look 19 = .ok (.iload_n 2, 1) := by decide +kernel
theorem dX3_look_20 : decode cX3_look 20 = .ok (.iconst 1, 1) := by decide +kernel
theorem dX3_look_21 : decode cX3_look 21 = .ok (.ishr, 1) := by decide +kernel
theorem dX3_look_22 : decode cX3_look 22 = .ok (.invokevirtual 39, 3) := by decide +kernel
theorem dX3_look_25 : decode cX3_look 25 = .ok (.invokevirtual 43, 3) := by decide +kernel
theorem dX3_look_28 : decode cX3_look 28 = .ok (.ireturn, 1) := by decide +kernel
theorem dX3_status_0 : decode cX3_status 0 = .ok (.iload_n 1, 1) := by decide +kernel
theorem dX3_status_1 : decode cX3_status 1 = .ok (.iconst 1, 1) := by decide +kernel
theorem dX3_status_2 : decode cX3_status 2 = .ok (.iand, 1) := by decide +kernel
theorem dX3_status_3 : decode cX3_status 3 = .ok (.iconst 4, 1) := by decide +kernel
theorem dX3_status_4 : decode cX3_status 4 = .ok (.imul, 1) := by decide +kernel
theorem dX3_status_5 : decode cX3_status 5 = .ok (.iload_n 2, 1) := by decide +kernel
theorem dX3_status_6 : decode cX3_status 6 = .ok (.iconst 3, 1) := by decide +kernel
theorem dX3_status_7 : decode cX3_status 7 = .ok (.iand, 1) := by decide +kernel
theorem dX3_status_8 : decode cX3_status 8 = .ok (.iadd, 1) := by decide +kernel
theorem dX3_status_9 : decode cX3_status 9 = .ok (.istore_n 3, 1) := by decide +kernel
theorem dX3_status_10 : decode cX3_status 10 = .ok (.aload_n 0, 1) := by decide +kernel
theorem dX3_status_11 : decode cX3_status 11 = .ok (.getfield 11, 3) := by decide +kernel
theorem dX3_status_14 : decode cX3_status 14 = .ok (.iload_n 3, 1) := by decide +kernel
theorem dX3_status_15 : decode cX3_status 15 = .ok (.aaload, 1) := by decide +kernel
theorem dX3_status_16 : decode cX3_status 16 = .ok (.astore 4, 2) := by decide +kernel
theorem dX3_status_18 : decode cX3_status 18 = .ok (.aload_n 0, 1) := by decide +kernel
theorem dX3_status_19 : decode cX3_status 19 = .ok (.getfield 11, 3) := by decide +kernel
theorem dX3_status_22 : decode cX3_status 22 = .ok (.iload_n 3, 1) := by decide +kernel
theorem dX3_status_23 : decode cX3_status 23 = .ok (.iconst 4, 1) := by decide +kernel
theorem dX3_status_24 : decode cX3_status 24 = .ok (.ixor, 1) := by decide +kernel
theorem dX3_status_25 : decode cX3_status 25 = .ok (.aaload, 1) := by decide +kernel
theorem dX3_status_26 : decode cX3_status 26 = .ok (.astore 5, 2) := by decide +kernel
theorem dX3_status_28 : decode cX3_status 28 = .ok (.aload 4, 2) := by decide +kernel
theorem dX3_status_30 : decode cX3_status 30 = .ok (.getfield 47, 3) := by decide +kernel
theorem dX3_status_33 : decode cX3_status 33 = .ok (.ifCond .le 9, 3) := by decide +kernel
theorem dX3_status_36 : decode cX3_status 36 = .ok (.sipush 128, 3) := by decide +kernel
theorem dX3_status_39 : decode cX3_status 39 = .ok (.goto 4, 3) := by decide +kernel
theorem dX3_status_42 : decode cX3_status 42 = .ok (.iconst 0, 1) := by decide +kernel
theorem dX3_status_43 : decode cX3_status 43 = .ok (.aload 5, 2) := by decide +kernel
theorem dX3_status_45 : decode cX3_status 45 = .ok (.getfield 47, 3) := by decide +kernel
theorem dX3_status_48 : decode cX3_status 48 = .ok (.aload 5, 2) := by decide +kernel
theorem dX3_status_50 : decode cX3_status 50 = .ok (.getfield 51, 3) := by decide +kernel
theorem dX3_status_53 : decode cX3_status 53 = .ok (.if_icmp .ge 8, 3) := by decide +kernel
theorem dX3_status_56 : decode cX3_status 56 = .ok (.bipush 64, 2) := by decide +kernel
theorem dX3_status_58 : decode cX3_status 58 = .ok (.goto 4, 3) := by decide +kernel
theorem dX3_status_61 : decode cX3_status 61 = .ok (.iconst 0, 1) := by decide +kernel
theorem dX3_status_62 : decode cX3_status 62 = .ok (.ior, 1) := by decide +kernel
theorem dX3_status_63 : decode cX3_status 63 = .ok (.iload_n 2, 1) := by decide +kernel
theorem dX3_status_64 : decode cX3_status 64 = .ok (.ifCond .ne 10, 3) := by decide +kernel
theorem dX3_status_67 : decode cX3_status 67 = .ok (.aload_n 0, 1) := by decide +kernel
theorem dX3_status_68 : decode cX3_status 68 = .ok (.getfield 54, 3) := by decide +kernel
theorem dX3_status_71 : decode cX3_status 71 = .ok (.goto 5, 3) := by decide +kernel
theorem dX3_status_74 : decode cX3_status 74 = .ok (.bipush 63, 2) := by decide +kernel
theorem dX3_status_76 : decode cX3_status 76 = .ok (.ior, 1) := by decide +kernel
theorem dX3_status_77 : decode cX3_status 77 = .ok (.ireturn, 1) := by decide +kernel
theorem dX3_rowFor_0 : decode cX3_rowFor 0 = .ok (.aload_n 0, 1) := by decide +kernel
theorem dX3_rowFor_1 : decode cX3_rowFor 1 = .ok (.getfield 11, 3) := by decide +kernel
theorem dX3_rowFor_4 : decode cX3_rowFor 4 = .ok (.iload_n 1, 1) := by decide +kernel
theorem dX3_rowFor_5 : decode cX3_rowFor 5 = .ok (.iconst 1, 1) := by decide +kernel
theorem dX3_rowFor_6 : decode cX3_rowFor 6 = .ok (.iand, 1) := by decide +kernel
theorem dX3_rowFor_7 : decode cX3_rowFor 7 = .ok (.iconst 4, 1) := by decide +kernel
theorem dX3_rowFor_8 : decode cX3_rowFor 8 = .ok (.imul, 1) := by decide +kernel
theorem dX3_rowFor_9 : decode cX3_rowFor 9 = .ok (.iload_n 2, 1) := by decide +kernel
theorem dX3_rowFor_10 : decode cX3_rowFor 10 = .ok (.iconst 3, 1) := by decide +kernel
theorem dX3_rowFor_11 : decode cX3_rowFor 11 = .ok (.iand, 1) := by decide +kernel
theorem dX3_rowFor_12 : decode cX3_rowFor 12 = .ok (.iadd, 1) := by decide +kernel
theorem dX3_rowFor_13 : decode cX3_rowFor 13 = .ok (.aaload, 1) := by decide +kernel
theorem dX3_rowFor_14 : decode cX3_rowFor 14 = .ok (.areturn, 1) := by decide +kernel
theorem dX3_waiting_0 : decode cX3_waiting 0 = .ok (.aload_n 0, 1) := by decide +kernel
theorem dX3_waiting_1 : decode cX3_waiting 1 = .ok (.iload_n 1, 1) := by decide +kernel
theorem dX3_waiting_2 : decode cX3_waiting 2 = .ok (.iload_n 2, 1) := by decide +kernel
theorem dX3_waiting_3 : decode cX3_waiting 3 = .ok (.iconst 1, 1) := by decide +kernel
theorem dX3_waiting_4 : decode cX3_waiting 4 = .ok (.isub, 1) := by decide +kernel
theorem dX3_waiting_5 : decode cX3_waiting 5 = .ok (.invokevirtual 39, 3) := by decide +kernel
theorem dX3_waiting_8 : decode cX3_waiting 8 = .ok (.getfield 47, 3) := by decide +kernel
theorem dX3_waiting_11 : decode cX3_waiting 11 = .ok (.ireturn, 1) := by decide +kernel
theorem dX3_irq_0 : decode cX3_irq 0 = .ok (.iload_n 1, 1) := by decide +kernel
theorem dX3_irq_1 : decode cX3_irq 1 = .ok (.ifCond .ne 26, 3) := by decide +kernel
theorem dX3_irq_4 : decode cX3_irq 4 = .ok (.aload_n 0, 1) := by decide +kernel
theorem dX3_irq_5 : decode cX3_irq 5 = .ok (.iconst 1, 1) := by decide +kernel
theorem dX3_irq_6 : decode cX3_irq 6 = .ok (.invokevirtual 57, 3) := by decide +kernel
theorem dX3_irq_9 : decode cX3_irq 9 = .ok (.ifCond .eq 16, 3) := by decide +kernel
theorem dX3_irq_12 : decode cX3_irq 12 = .ok (.aload_n 0, 1) := by decide +kernel
theorem dX3_irq_13 : decode cX3_irq 13 = .ok (.iconst 0, 1) := by decide +kernel
theorem dX3_irq_14 : decode cX3_irq 14 = .ok (.iconst 4, 1) := by decide +kernel
theorem dX3_irq_15 : decode cX3_irq 15 = .ok (.invokevirtual 61, 3) := by decide +kernel
theorem dX3_irq_18 : decode cX3_irq 18 = .ok (.ifCond .le 7, 3) := by decide +kernel
theorem dX3_irq_21 : decode cX3_irq 21 = .ok (.iconst 1, 1) := by decide +kernel
theorem dX3_irq_22 : decode cX3_irq 22 = .ok (.goto 4, 3) := by decide +kernel
theorem dX3_irq_25 : decode cX3_irq 25 = .ok (.iconst 0, 1) := by decide +kernel
theorem dX3_irq_26 : decode cX3_irq 26 = .ok (.ireturn, 1) := by decide +kernel
theorem dX3_irq_27 : decode cX3_irq 27 = .ok (.aload_n 0, 1) := by decide +kernel
theorem dX3_irq_28 : decode cX3_irq 28 = .ok (.iconst 2, 1) := by decide +kernel
theorem dX3_irq_29 : decode cX3_irq 29 = .ok (.invokevirtual 57, 3) := by decide +kernel
theorem dX3_irq_32 : decode cX3_irq 32 = .ok (.ifCond .eq 12, 3) := by decide +kernel
theorem dX3_irq_35 : decode cX3_irq 35 = .ok (.aload_n 0, 1) := by decide +kernel
theorem dX3_irq_36 : decode cX3_irq 36 = .ok (.iconst 1, 1) := by decide +kernel
theorem dX3_irq_37 : decode cX3_irq 37 = .ok (.iconst 1, 1) := by decide +kernel
theorem dX3_irq_38 : decode cX3_irq 38 = .ok (.invokevirtual 61, 3) := by decide +kernel
theorem dX3_irq_41 : decode cX3_irq 41 = .ok (.ifCond .gt 20, 3) := by decide +kernel
theorem dX3_irq_44 : decode cX3_irq 44 = .ok (.aload_n 0, 1) := by decide +kernel
theorem dX3_irq_45 : decode cX3_irq 45 = .ok (.iconst 4, 1) := by decide +kernel
theorem dX3_irq_46 : decode cX3_irq 46 = .ok (.invokevirtual 57, 3) := by decide +kernel
theorem dX3_irq_49 : decode cX3_irq 49 = .ok (.ifCond .eq 16, 3) := by decide +kernel
theorem dX3_irq_52 : decode cX3_irq 52 = .ok (.aload_n 0, 1) := by decide +kernel
theorem dX3_irq_53 : decode cX3_irq 53 = .ok (.iconst 1, 1) := by decide +kernel
theorem dX3_irq_54 : decode cX3_irq 54 = .ok (.iconst 4, 1) := by decide +kernel
theorem dX3_irq_55 : decode cX3_irq 55 = .ok (.invokevirtual 61, 3) := by decide +kernel
theorem dX3_irq_58 : decode cX3_irq 58 = .ok (.ifCond .le 7, 3) := by decide +kernel
theorem dX3_irq_61 : decode cX3_irq 61 = .ok (.iconst 1, 1) := by decide +kernel
theorem dX3_irq_62 : decode cX3_irq 62 = .ok (.goto 4, 3) := by decide +kernel
theorem dX3_irq_65 : decode cX3_irq 65 = .ok (.iconst 0, 1) := by decide +kernel
theorem dX3_irq_66 : decode cX3_irq 66 = .ok (.ireturn, 1) := by decide +kernel
theorem dX3_nmi_0 : decode cX3_nmi 0 = .ok (.iload_n 1, 1) := by decide +kernel
theorem dX3_nmi_1 : decode cX3_nmi 1 = .ok (.iconst 1, 1) := by decide +kernel
theorem dX3_nmi_2 : decode cX3_nmi 2 = .ok (.if_icmp .ne 39, 3) := by decide +kernel
theorem dX3_nmi_5 : decode cX3_nmi 5 = .ok (.aload_n 0, 1) := by decide +kernel
theorem dX3_nmi_6 : decode cX3_nmi 6 = .ok (.bipush 8, 2) := by decide +kernel
theorem dX3_nmi_8 : decode cX3_nmi 8 = .ok (.invokevirtual 57, 3) := by decide +kernel
theorem dX3_nmi_11 : decode cX3_nmi 11 = .ok (.ifCond .eq 30, 3) := by decide +kernel
theorem dX3_nmi_14 : decode cX3_nmi 14 = .ok (.aload_n 0, 1) := by decide +kernel
theorem dX3_nmi_15 : decode cX3_nmi 15 = .ok (.iconst 1, 1) := by decide +kernel
theorem dX3_nmi_16 : decode cX3_nmi 16 = .ok (.iconst 3, 1) := by decide +kernel
theorem dX3_nmi_17 : decode cX3_nmi 17 = .ok (.invokevirtual 61, 3) := by decide +kernel
theorem dX3_nmi_20 : decode cX3_nmi 20 = .ok (.aload_n 0, 1) := by decide +kernel
theorem dX3_nmi_21 : decode cX3_nmi 21 = .ok (.bipush 16, 2) := by decide +kernel
theorem dX3_nmi_23 : decode cX3_nmi 23 = .ok (.invokevirtual 57, 3) := by decide +kernel
theorem dX3_nmi_26 : decode cX3_nmi 26 = .ok (.ifCond .eq 7, 3) := by decide +kernel
theorem dX3_nmi_29 : decode cX3_nmi 29 = .ok (.iconst 2, 1) := by decide +kernel
theorem dX3_nmi_30 : decode cX3_nmi 30 = .ok (.goto 4, 3) := by decide +kernel
theorem dX3_nmi_33 : decode cX3_nmi 33 = .ok (.iconst 1, 1) := by decide +kernel
theorem dX3_nmi_34 : decode cX3_nmi 34 = .ok (.if_icmp .lt 7, 3) := by decide +kernel
theorem dX3_nmi_37 : decode cX3_nmi 37 = .ok (.iconst 1, 1) := by decide +kernel
theorem dX3_nmi_38 : decode cX3_nmi 38 = .ok (.goto 4, 3) := by decide +kernel
theorem dX3_nmi_41 : decode cX3_nmi 41 = .ok (.iconst 0, 1) := by decide +kernel
theorem dX3_nmi_42 : decode cX3_nmi 42 = .ok (.ireturn, 1) := by decide +kernel
theorem dX3_holds_0 : decode cX3_holds 0 = .ok (.iload_n 1, 1) := by decide +kernel
theorem dX3_holds_1 : decode cX3_holds 1 = .ok (.iconst 1, 1) := by decide +kernel
theorem dX3_holds_2 : decode cX3_holds 2 = .ok (.if_icmp .ne 16, 3) := by decide +kernel
theorem dX3_holds_5 : decode cX3_holds 5 = .ok (.aload_n 0, 1) := by decide +kernel
theorem dX3_holds_6 : decode cX3_holds 6 = .ok (.bipush 32, 2) := by decide +kernel
theorem dX3_holds_8 : decode cX3_holds 8 = .ok (.invokevirtual 57, 3) := by decide +kernel
theorem dX3_holds_11 : decode cX3_holds 11 = .ok (.ifCond .eq 7, 3) := by decide +kernel
theorem dX3_holds_14 : decode cX3_holds 14 = .ok (.iconst 1, 1) := by decide +kernel
theorem dX3_holds_15 : decode cX3_holds 15 = .ok (.goto 4, 3) := by decide +kernel
theorem dX3_holds_18 : decode cX3_holds 18 = .ok (.iconst 0, 1) := by decide +kernel
theorem dX3_holds_19 : decode cX3_holds 19 = .ok (.ireturn, 1) := by decide +kernel
theorem dX3_resetComes_0 : decode cX3_resetComes 0 = .ok (.iload_n 1, 1) := by decide +kernel
theorem dX3_resetComes_1 : decode cX3_resetComes 1 = .ok (.iconst 1, 1) := by decide +kernel
theorem dX3_resetComes_2 : decode cX3_resetComes 2 = .ok (.if_icmp .ne 23, 3) := by decide +kernel
theorem dX3_resetComes_5 : decode cX3_resetComes 5 = .ok (.aload_n 0, 1) := by decide +kernel
theorem dX3_resetComes_6 : decode cX3_resetComes 6 = .ok (.getfield 31, 3) := by decide +kernel
theorem dX3_resetComes_9 : decode cX3_resetComes 9 = .ok (.ifCond .eq 16, 3) := by decide +kernel
theorem dX3_resetComes_12 : decode cX3_resetComes 12 = .ok (.aload_n 0, 1) := by decide +kernel
theorem dX3_resetComes_13 : decode cX3_resetComes 13 = .ok (.bipush 32, 2) := by decide +kernel
theorem dX3_resetComes_15 : decode cX3_resetComes 15 = .ok (.invokevirtual 57, 3) := by decide +kernel
theorem dX3_resetComes_18 : decode cX3_resetComes 18 = .ok (.ifCond .ne 7, 3) := by decide +kernel
theorem dX3_resetComes_21 : decode cX3_resetComes 21 = .ok (.iconst 1, 1) := by decide +kernel
theorem dX3_resetComes_22 : decode cX3_resetComes 22 = .ok (.goto 4, 3) := by decide +kernel
theorem dX3_resetComes_25 : decode cX3_resetComes 25 = .ok (.iconst 0, 1) := by decide +kernel
theorem dX3_resetComes_26 : decode cX3_resetComes 26 = .ok (.ireturn, 1) := by decide +kernel
theorem dX3_endReset_0 : decode cX3_endReset 0 = .ok (.aload_n 0, 1) := by decide +kernel
theorem dX3_endReset_1 : decode cX3_endReset 1 = .ok (.iconst 0, 1) := by decide +kernel
theorem dX3_endReset_2 : decode cX3_endReset 2 = .ok (.putfield 31, 3) := by decide +kernel
theorem dX3_endReset_5 : decode cX3_endReset 5 = .ok (.return_, 1) := by decide +kernel
theorem dX3_writeFlags_0 : decode cX3_writeFlags 0 = .ok (.iload_n 1, 1) := by decide +kernel
theorem dX3_writeFlags_1 : decode cX3_writeFlags 1 = .ok (.bipush 63, 2) := by decide +kernel
theorem dX3_writeFlags_3 : decode cX3_writeFlags 3 = .ok (.iand, 1) := by decide +kernel
theorem dX3_writeFlags_4 : decode cX3_writeFlags 4 = .ok (.istore_n 2, 1) := by decide +kernel
theorem dX3_writeFlags_5 : decode cX3_writeFlags 5 = .ok (.aload_n 0, 1) := by decide +kernel
theorem dX3_writeFlags_6 : decode cX3_writeFlags 6 = .ok (.iload_n 1, 1) := by decide +kernel
theorem dX3_writeFlags_7 : decode cX3_writeFlags 7 = .ok (.sipush 128, 3) := by decide +kernel
theorem dX3_writeFlags_10 : decode cX3_writeFlags 10 = .ok (.iand, 1) := by decide +kernel
theorem dX3_writeFlags_11 : decode cX3_writeFlags 11 = .ok (.ifCond .eq 12, 3) := by decide +kernel
theorem dX3_writeFlags_14 : decode cX3_writeFlags 14 = .ok (.aload_n 0, 1) := by decide +kernel
theorem dX3_writeFlags_15 : decode cX3_writeFlags 15 = .ok (.getfield 54, 3) := by decide +kernel
theorem dX3_writeFlags_18 : decode cX3_writeFlags 18 = .ok (.iload_n 2, 1) := by decide +kernel
theorem dX3_writeFlags_19 : decode cX3_writeFlags 19 = .ok (.ior, 1) := by decide +kernel
theorem dX3_writeFlags_20 : decode cX3_writeFlags 20 = .ok (.goto 11, 3) := by decide +kernel
theorem dX3_writeFlags_23 : decode cX3_writeFlags 23 = .ok (.aload_n 0, 1) := by decide +kernel
theorem dX3_writeFlags_24 : decode cX3_writeFlags 24 = .ok (.getfield 54, 3) := by decide +kernel
theorem dX3_writeFlags_27 : decode cX3_writeFlags 27 = .ok (.iload_n 2, 1) := by decide +kernel
theorem dX3_writeFlags_28 : decode cX3_writeFlags 28 = .ok (.iconst (-1), 1) := by decide +kernel
theorem dX3_writeFlags_29 : decode cX3_writeFlags 29 = .ok (.ixor, 1) := by decide +kernel
theorem dX3_writeFlags_30 : decode cX3_writeFlags 30 = .ok (.iand, 1) := by decide +kernel
theorem dX3_writeFlags_31 : decode cX3_writeFlags 31 = .ok (.putfield 54, 3) := by decide +kernel
theorem dX3_writeFlags_34 : decode cX3_writeFlags 34 = .ok (.aload_n 0, 1) := by decide +kernel
theorem dX3_writeFlags_35 : decode cX3_writeFlags 35 = .ok (.aload_n 0, 1) := by decide +kernel
theorem dX3_writeFlags_36 : decode cX3_writeFlags 36 = .ok (.getfield 31, 3) := by decide +kernel
theorem dX3_writeFlags_39 : decode cX3_writeFlags 39 = .ok (.ifCond .ne 12, 3) := by decide +kernel
theorem dX3_writeFlags_42 : decode cX3_writeFlags 42 = .ok (.aload_n 0, 1) := by decide +kernel
theorem dX3_writeFlags_43 : decode cX3_writeFlags 43 = .ok (.bipush 32, 2) := by decide +kernel
theorem dX3_writeFlags_45 : decode cX3_writeFlags 45 = .ok (.invokevirtual 57, 3) := by decide +kernel
theorem dX3_writeFlags_48 : decode cX3_writeFlags 48 = .ok (.ifCond .eq 7, 3) := by decide +kernel
theorem dX3_writeFlags_51 : decode cX3_writeFlags 51 = .ok (.iconst 1, 1) := by decide +kernel
theorem dX3_writeFlags_52 : decode cX3_writeFlags 52 = .ok (.goto 4, 3) := by decide +kernel
theorem dX3_writeFlags_55 : decode cX3_writeFlags 55 = .ok (.iconst 0, 1) := by decide +kernel
theorem dX3_writeFlags_56 : decode cX3_writeFlags 56 = .ok (.putfield 31, 3) := by decide +kernel
theorem dX3_writeFlags_59 : decode cX3_writeFlags 59 = .ok (.aload_n 0, 1) := by decide +kernel
theorem dX3_writeFlags_60 : decode cX3_writeFlags 60 = .ok (.bipush 16, 2) := by decide +kernel
theorem dX3_writeFlags_62 : decode cX3_writeFlags 62 = .ok (.invokevirtual 57, 3) := by decide +kernel
theorem dX3_writeFlags_65 : decode cX3_writeFlags 65 = .ok (.ifCond .eq 7, 3) := by decide +kernel
theorem dX3_writeFlags_68 : decode cX3_writeFlags 68 = .ok (.iconst 2, 1) := by decide +kernel
theorem dX3_writeFlags_69 : decode cX3_writeFlags 69 = .ok (.goto 4, 3) := by decide +kernel
theorem dX3_writeFlags_72 : decode cX3_writeFlags 72 = .ok (.iconst 1, 1) := by decide +kernel
theorem dX3_writeFlags_73 : decode cX3_writeFlags 73 = .ok (.istore_n 3, 1) := by decide +kernel
theorem dX3_writeFlags_74 : decode cX3_writeFlags 74 = .ok (.aload_n 0, 1) := by decide +kernel
theorem dX3_writeFlags_75 : decode cX3_writeFlags 75 = .ok (.iconst 0, 1) := by decide +kernel
theorem dX3_writeFlags_76 : decode cX3_writeFlags 76 = .ok (.iconst 2, 1) := by decide +kernel
theorem dX3_writeFlags_77 : decode cX3_writeFlags 77 = .ok (.invokevirtual 39, 3) := by decide +kernel
theorem dX3_writeFlags_80 : decode cX3_writeFlags 80 = .ok (.iload_n 3, 1) := by decide +kernel
theorem dX3_writeFlags_81 : decode cX3_writeFlags 81 = .ok (.putfield 51, 3) := by decide +kernel
theorem dX3_writeFlags_84 : decode cX3_writeFlags 84 = .ok (.aload_n 0, 1) := by decide +kernel
theorem dX3_writeFlags_85 : decode cX3_writeFlags 85 = .ok (.iconst 1, 1) := by decide +kernel
theorem dX3_writeFlags_86 : decode cX3_writeFlags 86 = .ok (.iconst 2, 1) := by decide +kernel
theorem dX3_writeFlags_87 : decode cX3_writeFlags 87 = .ok (.invokevirtual 39, 3) := by decide +kernel
theorem dX3_writeFlags_90 : decode cX3_writeFlags 90 = .ok (.iload_n 3, 1) := by decide +kernel
theorem dX3_writeFlags_91 : decode cX3_writeFlags 91 = .ok (.putfield 51, 3) := by decide +kernel
theorem dX3_writeFlags_94 : decode cX3_writeFlags 94 = .ok (.return_, 1) := by decide +kernel
theorem dX3_isOn_0 : decode cX3_isOn 0 = .ok (.aload_n 0, 1) := by decide +kernel
theorem dX3_isOn_1 : decode cX3_isOn 1 = .ok (.getfield 54, 3) := by decide +kernel
theorem dX3_isOn_4 : decode cX3_isOn 4 = .ok (.iload_n 1, 1) := by decide +kernel
theorem dX3_isOn_5 : decode cX3_isOn 5 = .ok (.iand, 1) := by decide +kernel
theorem dX3_isOn_6 : decode cX3_isOn 6 = .ok (.ifCond .eq 7, 3) := by decide +kernel
theorem dX3_isOn_9 : decode cX3_isOn 9 = .ok (.iconst 1, 1) := by decide +kernel
theorem dX3_isOn_10 : decode cX3_isOn 10 = .ok (.goto 4, 3) := by decide +kernel
theorem dX3_isOn_13 : decode cX3_isOn 13 = .ok (.iconst 0, 1) := by decide +kernel
theorem dX3_isOn_14 : decode cX3_isOn 14 = .ok (.ireturn, 1) := by decide +kernel
theorem dX4_init_0 : decode cX4_init 0 = .ok (.aload_n 0, 1) := by decide +kernel
theorem dX4_init_1 : decode cX4_init 1 = .ok (.invokespecial 1, 3) := by decide +kernel
theorem dX4_init_4 : decode cX4_init 4 = .ok (.aload_n 0, 1) := by decide +kernel
theorem dX4_init_5 : decode cX4_init 5 = .ok (.new 7, 3) := by decide +kernel
theorem dX4_init_8 : decode cX4_init 8 = .ok (.dup, 1) := by decide +kernel
theorem dX4_init_9 : decode cX4_init 9 = .ok (.invokespecial 9, 3) := by decide +kernel
theorem dX4_init_12 : decode cX4_init 12 = .ok (.putfield 10, 3) := by decide +kernel
theorem dX4_init_15 : decode cX4_init 15 = .ok (.aload_n 0, 1) := by decide +kernel
theorem dX4_init_16 : decode cX4_init 16 = .ok (.new 16, 3) := by decide +kernel
theorem dX4_init_19 : decode cX4_init 19 = .ok (.dup, 1) := by decide +kernel
theorem dX4_init_20 : decode cX4_init 20 = .ok (.iconst 0, 1) := by decide +kernel
theorem dX4_init_21 : decode cX4_init 21 = .ok (.aload_n 0, 1) := by decide +kernel
theorem dX4_init_22 : decode cX4_init 22 = .ok (.getfield 10, 3) := by decide +kernel
theorem dX4_init_25 : decode cX4_init 25 = .ok (.invokespecial 18, 3) := by decide +kernel
theorem dX4_init_28 : decode cX4_init 28 = .ok (.putfield 21, 3) := by decide +kernel
theorem dX4_init_31 : decode cX4_init 31 = .ok (.aload_n 0, 1) := by decide +kernel
theorem dX4_init_32 : decode cX4_init 32 = .ok (.new 16, 3) := by decide +kernel
theorem dX4_init_35 : decode cX4_init 35 = .ok (.dup, 1) := by decide +kernel
theorem dX4_init_36 : decode cX4_init 36 = .ok (.iconst 1, 1) := by decide +kernel
theorem dX4_init_37 : decode cX4_init 37 = .ok (.aload_n 0, 1) := by decide +kernel
theorem dX4_init_38 : decode cX4_init 38 = .ok (.getfield 10, 3) := by decide +kernel
theorem dX4_init_41 : decode cX4_init 41 = .ok (.invokespecial 18, 3) := by decide +kernel
theorem dX4_init_44 : decode cX4_init 44 = .ok (.putfield 25, 3) := by decide +kernel
theorem dX4_init_47 : decode cX4_init 47 = .ok (.return_, 1) := by decide +kernel
theorem dX4_load_0 : decode cX4_load 0 = .ok (.iload_n 1, 1) := by decide +kernel
theorem dX4_load_1 : decode cX4_load 1 = .ok (.ifCond .lt 12, 3) := by decide +kernel
theorem dX4_load_4 : decode cX4_load 4 = .ok (.iload_n 1, 1) := by decide +kernel
theorem dX4_load_5 : decode cX4_load 5 = .ok (.iconst 1, 1) := by decide +kernel
theorem dX4_load_6 : decode cX4_load 6 = .ok (.if_icmp .gt 7, 3) := by decide +kernel
theorem dX4_load_9 : decode cX4_load 9 = .ok (.iconst 1, 1) := by decide +kernel
theorem dX4_load_10 : decode cX4_load 10 = .ok (.goto 4, 3) := by decide +kernel
theorem dX4_load_13 : decode cX4_load 13 = .ok (.iconst 0, 1) := by decide +kernel
theorem dX4_load_14 : decode cX4_load 14 = .ok (.invokestatic 28, 3) := by decide +kernel
theorem dX4_load_17 : decode cX4_load 17 = .ok (.iload_n 2, 1) := by decide +kernel
theorem dX4_load_18 : decode cX4_load 18 = .ok (.ifCond .lt 13, 3) := by decide +kernel
theorem dX4_load_21 : decode cX4_load 21 = .ok (.iload_n 2, 1) := by decide +kernel
theorem dX4_load_22 : decode cX4_load 22 = .ok (.ldc 32, 2) := by decide +kernel
theorem dX4_load_24 : decode cX4_load 24 = .ok (.if_icmp .gt 7, 3) := by decide +kernel
theorem dX4_load_27 : decode cX4_load 27 = .ok (.iconst 1, 1) := by decide +kernel
theorem dX4_load_28 : decode cX4_load 28 = .ok (.goto 4, 3) := by decide +kernel
theorem dX4_load_31 : decode cX4_load 31 = .ok (.iconst 0, 1) := by decide +kernel
theorem dX4_load_32 : decode cX4_load 32 = .ok (.invokestatic 28, 3) := by decide +kernel
theorem dX4_load_35 : decode cX4_load 35 = .ok (.iload 8, 2) := by decide +kernel
theorem dX4_load_37 : decode cX4_load 37 = .ok (.iconst 1, 1) := by decide +kernel
theorem dX4_load_38 : decode cX4_load 38 = .ok (.if_icmp .lt 10, 3) := by decide +kernel
theorem dX4_load_41 : decode cX4_load 41 = .ok (.iload 8, 2) := by decide +kernel
theorem dX4_load_43 : decode cX4_load 43 = .ok (.bipush 20, 2) := by decide +kernel
theorem dX4_load_45 : decode cX4_load 45 = .ok (.if_icmp .le 13, 3) := by decide +kernel
theorem dX4_load_48 : decode cX4_load 48 = .ok (.new 33, 3) := by decide +kernel
theorem dX4_load_51 : decode cX4_load 51 = .ok (.dup, 1) := by decide +kernel
theorem dX4_load_52 : decode cX4_load 52 = .ok (.ldc 35, 2) := by decide +kernel
theorem dX4_load_54 : decode cX4_load 54 = .ok (.invokespecial 37, 3) := by decide +kernel
theorem dX4_load_57 : decode cX4_load 57 = .ok (.athrow, 1) := by decide +kernel
theorem dX4_load_58 : decode cX4_load 58 = .ok (.aload_n 0, 1) := by decide +kernel
theorem dX4_load_59 : decode cX4_load 59 = .ok (.iload_n 1, 1) := by decide +kernel
theorem dX4_load_60 : decode cX4_load 60 = .ok (.invokevirtual 40, 3) := by decide +kernel
theorem dX4_load_63 : decode cX4_load 63 = .ok (.astore 9, 2) := by decide +kernel
theorem dX4_load_65 : decode cX4_load 65 = .ok (.aload 9, 2) := by decide +kernel
theorem dX4_load_67 : decode cX4_load 67 = .ok (.iload_n 2, 1) := by decide +kernel
theorem dX4_load_68 : decode cX4_load 68 = .ok (.iload_n 3, 1) := by decide +kernel
theorem dX4_load_69 : decode cX4_load 69 = .ok (.iload 8, 2) := by decide +kernel
theorem dX4_load_71 : decode cX4_load 71 = .ok (.invokevirtual 44, 3) := by decide +kernel
theorem dX4_load_74 : decode cX4_load 74 = .ok (.aload 9, 2) := by decide +kernel
