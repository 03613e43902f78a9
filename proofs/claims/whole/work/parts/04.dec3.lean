theorem dX5_crash_1 : decode bX5_crash 1 = .ok (.getfield 26, 3) := by decide +kernel
theorem dX5_crash_4 : decode bX5_crash 4 = .ok (.aload_n 0, 1) := by decide +kernel
theorem dX5_crash_5 : decode bX5_crash 5 = .ok (.getfield 35, 3) := by decide +kernel
theorem dX5_crash_8 : decode bX5_crash 8 = .ok (.aload_n 0, 1) := by decide +kernel
theorem dX5_crash_9 : decode bX5_crash 9 = .ok (.getfield 29, 3) := by decide +kernel
theorem dX5_crash_12 : decode bX5_crash 12 = .ok (.isub, 1) := by decide +kernel
theorem dX5_crash_13 : decode bX5_crash 13 = .ok (.iaload, 1) := by decide +kernel
theorem dX5_crash_14 : decode bX5_crash 14 = .ok (.istore_n 2, 1) := by decide +kernel
theorem dX5_crash_15 : decode bX5_crash 15 = .ok (.aload_n 0, 1) := by decide +kernel
theorem dX5_crash_16 : decode bX5_crash 16 = .ok (.aload_n 0, 1) := by decide +kernel
theorem dX5_crash_17 : decode bX5_crash 17 = .ok (.getfield 38, 3) := by decide +kernel
theorem dX5_crash_20 : decode bX5_crash 20 = .ok (.ifCond .eq 7, 3) := by decide +kernel
theorem dX5_crash_23 : decode bX5_crash 23 = .ok (.iconst 2, 1) := by decide +kernel
theorem dX5_crash_24 : decode bX5_crash 24 = .ok (.goto 22, 3) := by decide +kernel
theorem dX5_crash_27 : decode bX5_crash 27 = .ok (.iload_n 1, 1) := by decide +kernel
theorem dX5_crash_28 : decode bX5_crash 28 = .ok (.ifCond .lt 13, 3) := by decide +kernel
theorem dX5_crash_31 : decode bX5_crash 31 = .ok (.iload_n 1, 1) := by decide +kernel
theorem dX5_crash_32 : decode bX5_crash 32 = .ok (.aload_n 0, 1) := by decide +kernel
theorem dX5_crash_33 : decode bX5_crash 33 = .ok (.getfield 23, 3) := by decide +kernel
theorem dX5_crash_36 : decode bX5_crash 36 = .ok (.iload_n 2, 1) := by decide +kernel
theorem dX5_crash_37 : decode bX5_crash 37 = .ok (.isub, 1) := by decide +kernel
theorem dX5_crash_38 : decode bX5_crash 38 = .ok (.if_icmp .le 7, 3) := by decide +kernel
theorem dX5_crash_41 : decode bX5_crash 41 = .ok (.iconst 1, 1) := by decide +kernel
theorem dX5_crash_42 : decode bX5_crash 42 = .ok (.goto 4, 3) := by decide +kernel
theorem dX5_crash_45 : decode bX5_crash 45 = .ok (.iconst 0, 1) := by decide +kernel
theorem dX5_crash_46 : decode bX5_crash 46 = .ok (.putfield 7, 3) := by decide +kernel
theorem dX5_crash_49 : decode bX5_crash 49 = .ok (.aload_n 0, 1) := by decide +kernel
theorem dX5_crash_50 : decode bX5_crash 50 = .ok (.getfield 7, 3) := by decide +kernel
theorem dX5_crash_53 : decode bX5_crash 53 = .ok (.ifCond .eq 5, 3) := by decide +kernel
theorem dX5_crash_56 : decode bX5_crash 56 = .ok (.iconst 0, 1) := by decide +kernel
theorem dX5_crash_57 : decode bX5_crash 57 = .ok (.ireturn, 1) := by decide +kernel
theorem dX5_crash_58 : decode bX5_crash 58 = .ok (.aload_n 0, 1) := by decide +kernel
theorem dX5_crash_59 : decode bX5_crash 59 = .ok (.iconst 1, 1) := by decide +kernel
theorem dX5_crash_60 : decode bX5_crash 60 = .ok (.putfield 38, 3) := by decide +kernel
theorem dX5_crash_63 : decode bX5_crash 63 = .ok (.aload_n 0, 1) := by decide +kernel
theorem dX5_crash_64 : decode bX5_crash 64 = .ok (.iload_n 2, 1) := by decide +kernel
theorem dX5_crash_65 : decode bX5_crash 65 = .ok (.iload_n 1, 1) := by decide +kernel
theorem dX5_crash_66 : decode bX5_crash 66 = .ok (.iadd, 1) := by decide +kernel
theorem dX5_crash_67 : decode bX5_crash 67 = .ok (.putfield 23, 3) := by decide +kernel
theorem dX5_crash_70 : decode bX5_crash 70 = .ok (.aload_n 0, 1) := by decide +kernel
theorem dX5_crash_71 : decode bX5_crash 71 = .ok (.getfield 23, 3) := by decide +kernel
theorem dX5_crash_74 : decode bX5_crash 74 = .ok (.ireturn, 1) := by decide +kernel
theorem dX5_better_0 : decode bX5_better 0 = .ok (.iconst 1, 1) := by decide +kernel
theorem dX5_better_1 : decode bX5_better 1 = .ok (.aload_n 0, 1) := by decide +kernel
theorem dX5_better_2 : decode bX5_better 2 = .ok (.getfield 48, 3) := by decide +kernel
theorem dX5_better_5 : decode bX5_better 5 = .ok (.isub, 1) := by decide +kernel
theorem dX5_better_6 : decode bX5_better 6 = .ok (.istore_n 1, 1) := by decide +kernel
theorem dX5_better_7 : decode bX5_better 7 = .ok (.aload_n 0, 1) := by decide +kernel
theorem dX5_better_8 : decode bX5_better 8 = .ok (.getfield 61, 3) := by decide +kernel
theorem dX5_better_11 : decode bX5_better 11 = .ok (.aload_n 0, 1) := by decide +kernel
theorem dX5_better_12 : decode bX5_better 12 = .ok (.getfield 48, 3) := by decide +kernel
theorem dX5_better_15 : decode bX5_better 15 = .ok (.baload, 1) := by decide +kernel
theorem dX5_better_16 : decode bX5_better 16 = .ok (.ifCond .ne 5, 3) := by decide +kernel
theorem dX5_better_19 : decode bX5_better 19 = .ok (.iload_n 1, 1) := by decide +kernel
theorem dX5_better_20 : decode bX5_better 20 = .ok (.ireturn, 1) := by decide +kernel
theorem dX5_better_21 : decode bX5_better 21 = .ok (.aload_n 0, 1) := by decide +kernel
theorem dX5_better_22 : decode bX5_better 22 = .ok (.getfield 61, 3) := by decide +kernel
theorem dX5_better_25 : decode bX5_better 25 = .ok (.iload_n 1, 1) := by decide +kernel
theorem dX5_better_26 : decode bX5_better 26 = .ok (.baload, 1) := by decide +kernel
theorem dX5_better_27 : decode bX5_better 27 = .ok (.ifCond .eq 25, 3) := by decide +kernel
theorem dX5_better_30 : decode bX5_better 30 = .ok (.aload_n 0, 1) := by decide +kernel
theorem dX5_better_31 : decode bX5_better 31 = .ok (.getfield 51, 3) := by decide +kernel
theorem dX5_better_34 : decode bX5_better 34 = .ok (.iload_n 1, 1) := by decide +kernel
theorem dX5_better_35 : decode bX5_better 35 = .ok (.iaload, 1) := by decide +kernel
theorem dX5_better_36 : decode bX5_better 36 = .ok (.aload_n 0, 1) := by decide +kernel
theorem dX5_better_37 : decode bX5_better 37 = .ok (.getfield 51, 3) := by decide +kernel
theorem dX5_better_40 : decode bX5_better 40 = .ok (.aload_n 0, 1) := by decide +kernel
theorem dX5_better_41 : decode bX5_better 41 = .ok (.getfield 48, 3) := by decide +kernel
theorem dX5_better_44 : decode bX5_better 44 = .ok (.iaload, 1) := by decide +kernel
theorem dX5_better_45 : decode bX5_better 45 = .ok (.if_icmp .le 7, 3) := by decide +kernel
theorem dX5_better_48 : decode bX5_better 48 = .ok (.iload_n 1, 1) := by decide +kernel
theorem dX5_better_49 : decode bX5_better 49 = .ok (.goto 7, 3) := by decide +kernel
theorem dX5_better_52 : decode bX5_better 52 = .ok (.aload_n 0, 1) := by decide +kernel
theorem dX5_better_53 : decode bX5_better 53 = .ok (.getfield 48, 3) := by decide +kernel
theorem dX5_better_56 : decode bX5_better 56 = .ok (.ireturn, 1) := by decide +kernel
theorem dX5_tear_0 : decode bX5_tear 0 = .ok (.aload_n 0, 1) := by decide +kernel
theorem dX5_tear_1 : decode bX5_tear 1 = .ok (.aload_n 0, 1) := by decide +kernel
theorem dX5_tear_2 : decode bX5_tear 2 = .ok (.getfield 38, 3) := by decide +kernel
theorem dX5_tear_5 : decode bX5_tear 5 = .ok (.ifCond .eq 21, 3) := by decide +kernel
theorem dX5_tear_8 : decode bX5_tear 8 = .ok (.aload_n 0, 1) := by decide +kernel
theorem dX5_tear_9 : decode bX5_tear 9 = .ok (.getfield 61, 3) := by decide +kernel
theorem dX5_tear_12 : decode bX5_tear 12 = .ok (.iconst 0, 1) := by decide +kernel
theorem dX5_tear_13 : decode bX5_tear 13 = .ok (.baload, 1) := by decide +kernel
theorem dX5_tear_14 : decode bX5_tear 14 = .ok (.ifCond .eq 12, 3) := by decide +kernel
theorem dX5_tear_17 : decode bX5_tear 17 = .ok (.aload_n 0, 1) := by decide +kernel
theorem dX5_tear_18 : decode bX5_tear 18 = .ok (.getfield 61, 3) := by decide +kernel
theorem dX5_tear_21 : decode bX5_tear 21 = .ok (.iconst 1, 1) := by decide +kernel
theorem dX5_tear_22 : decode bX5_tear 22 = .ok (.baload, 1) := by decide +kernel
theorem dX5_tear_23 : decode bX5_tear 23 = .ok (.ifCond .ne 7, 3) := by decide +kernel
theorem dX5_tear_26 : decode bX5_tear 26 = .ok (.iconst 1, 1) := by decide +kernel
theorem dX5_tear_27 : decode bX5_tear 27 = .ok (.goto 4, 3) := by decide +kernel
theorem dX5_tear_30 : decode bX5_tear 30 = .ok (.iconst 0, 1) := by decide +kernel
theorem dX5_tear_31 : decode bX5_tear 31 = .ok (.putfield 7, 3) := by decide +kernel
theorem dX5_tear_34 : decode bX5_tear 34 = .ok (.aload_n 0, 1) := by decide +kernel
theorem dX5_tear_35 : decode bX5_tear 35 = .ok (.getfield 7, 3) := by decide +kernel
theorem dX5_tear_38 : decode bX5_tear 38 = .ok (.ifCond .eq 5, 3) := by decide +kernel
theorem dX5_tear_41 : decode bX5_tear 41 = .ok (.iconst 0, 1) := by decide +kernel
theorem dX5_tear_42 : decode bX5_tear 42 = .ok (.ireturn, 1) := by decide +kernel
theorem dX5_tear_43 : decode bX5_tear 43 = .ok (.aload_n 0, 1) := by decide +kernel
theorem dX5_tear_44 : decode bX5_tear 44 = .ok (.invokevirtual 123, 3) := by decide +kernel
theorem dX5_tear_47 : decode bX5_tear 47 = .ok (.istore_n 1, 1) := by decide +kernel
theorem dX5_tear_48 : decode bX5_tear 48 = .ok (.aload_n 0, 1) := by decide +kernel
theorem dX5_tear_49 : decode bX5_tear 49 = .ok (.getfield 61, 3) := by decide +kernel
theorem dX5_tear_52 : decode bX5_tear 52 = .ok (.iload_n 1, 1) := by decide +kernel
theorem dX5_tear_53 : decode bX5_tear 53 = .ok (.iconst 0, 1) := by decide +kernel
theorem dX5_tear_54 : decode bX5_tear 54 = .ok (.bastore, 1) := by decide +kernel
theorem dX5_tear_55 : decode bX5_tear 55 = .ok (.aload_n 0, 1) := by decide +kernel
theorem dX5_tear_56 : decode bX5_tear 56 = .ok (.getfield 51, 3) := by decide +kernel
theorem dX5_tear_59 : decode bX5_tear 59 = .ok (.iload_n 1, 1) := by decide +kernel
theorem dX5_tear_60 : decode bX5_tear 60 = .ok (.iaload, 1) := by decide +kernel
theorem dX5_tear_61 : decode bX5_tear 61 = .ok (.ireturn, 1) := by decide +kernel
theorem dX5_poke_0 : decode bX5_poke 0 = .ok (.aload_n 0, 1) := by decide +kernel
theorem dX5_poke_1 : decode bX5_poke 1 = .ok (.aload_n 0, 1) := by decide +kernel
theorem dX5_poke_2 : decode bX5_poke 2 = .ok (.getfield 38, 3) := by decide +kernel
theorem dX5_poke_5 : decode bX5_poke 5 = .ok (.ifCond .ne 7, 3) := by decide +kernel
theorem dX5_poke_8 : decode bX5_poke 8 = .ok (.iconst 3, 1) := by decide +kernel
theorem dX5_poke_9 : decode bX5_poke 9 = .ok (.goto 35, 3) := by decide +kernel
theorem dX5_poke_12 : decode bX5_poke 12 = .ok (.iload_n 1, 1) := by decide +kernel
theorem dX5_poke_13 : decode bX5_poke 13 = .ok (.aload_n 0, 1) := by decide +kernel
theorem dX5_poke_14 : decode bX5_poke 14 = .ok (.getfield 23, 3) := by decide +kernel
theorem dX5_poke_17 : decode bX5_poke 17 = .ok (.invokestatic 100, 3) := by decide +kernel
theorem dX5_poke_20 : decode bX5_poke 20 = .ok (.ifCond .eq 7, 3) := by decide +kernel
theorem dX5_poke_23 : decode bX5_poke 23 = .ok (.iconst 1, 1) := by decide +kernel
theorem dX5_poke_24 : decode bX5_poke 24 = .ok (.goto 20, 3) := by decide +kernel
theorem dX5_poke_27 : decode bX5_poke 27 = .ok (.iload_n 2, 1) := by decide +kernel
theorem dX5_poke_28 : decode bX5_poke 28 = .ok (.iconst 1, 1) := by decide +kernel
theorem dX5_poke_29 : decode bX5_poke 29 = .ok (.if_icmp .lt 10, 3) := by decide +kernel
theorem dX5_poke_32 : decode bX5_poke 32 = .ok (.iload_n 2, 1) := by decide +kernel
theorem dX5_poke_33 : decode bX5_poke 33 = .ok (.sipush 255, 3) := by decide +kernel
theorem dX5_poke_36 : decode bX5_poke 36 = .ok (.if_icmp .le 7, 3) := by decide +kernel
theorem dX5_poke_39 : decode bX5_poke 39 = .ok (.iconst 2, 1) := by decide +kernel
theorem dX5_poke_40 : decode bX5_poke 40 = .ok (.goto 4, 3) := by decide +kernel
theorem dX5_poke_43 : decode bX5_poke 43 = .ok (.iconst 0, 1) := by decide +kernel
theorem dX5_poke_44 : decode bX5_poke 44 = .ok (.putfield 7, 3) := by decide +kernel
theorem dX5_poke_47 : decode bX5_poke 47 = .ok (.aload_n 0, 1) := by decide +kernel
theorem dX5_poke_48 : decode bX5_poke 48 = .ok (.getfield 7, 3) := by decide +kernel
theorem dX5_poke_51 : decode bX5_poke 51 = .ok (.ifCond .eq 5, 3) := by decide +kernel
theorem dX5_poke_54 : decode bX5_poke 54 = .ok (.iconst 0, 1) := by decide +kernel
theorem dX5_poke_55 : decode bX5_poke 55 = .ok (.ireturn, 1) := by decide +kernel
theorem dX5_poke_56 : decode bX5_poke 56 = .ok (.aload_n 0, 1) := by decide +kernel
theorem dX5_poke_57 : decode bX5_poke 57 = .ok (.getfield 20, 3) := by decide +kernel
theorem dX5_poke_60 : decode bX5_poke 60 = .ok (.iload_n 1, 1) := by decide +kernel
theorem dX5_poke_61 : decode bX5_poke 61 = .ok (.iaload, 1) := by decide +kernel
theorem dX5_poke_62 : decode bX5_poke 62 = .ok (.istore_n 3, 1) := by decide +kernel
theorem dX5_poke_63 : decode bX5_poke 63 = .ok (.aload_n 0, 1) := by decide +kernel
theorem dX5_poke_64 : decode bX5_poke 64 = .ok (.getfield 20, 3) := by decide +kernel
theorem dX5_poke_67 : decode bX5_poke 67 = .ok (.iload_n 1, 1) := by decide +kernel
theorem dX5_poke_68 : decode bX5_poke 68 = .ok (.iload_n 3, 1) := by decide +kernel
theorem dX5_poke_69 : decode bX5_poke 69 = .ok (.iload_n 2, 1) := by decide +kernel
theorem dX5_poke_70 : decode bX5_poke 70 = .ok (.ixor, 1) := by decide +kernel
theorem dX5_poke_71 : decode bX5_poke 71 = .ok (.iastore, 1) := by decide +kernel
theorem dX5_poke_72 : decode bX5_poke 72 = .ok (.iload_n 3, 1) := by decide +kernel
theorem dX5_poke_73 : decode bX5_poke 73 = .ok (.ireturn, 1) := by decide +kernel
theorem dX5_reopen_0 : decode bX5_reopen 0 = .ok (.aload_n 0, 1) := by decide +kernel
theorem dX5_reopen_1 : decode bX5_reopen 1 = .ok (.aload_n 0, 1) := by decide +kernel
theorem dX5_reopen_2 : decode bX5_reopen 2 = .ok (.getfield 38, 3) := by decide +kernel
theorem dX5_reopen_5 : decode bX5_reopen 5 = .ok (.ifCond .ne 7, 3) := by decide +kernel
theorem dX5_reopen_8 : decode bX5_reopen 8 = .ok (.iconst 1, 1) := by decide +kernel
theorem dX5_reopen_9 : decode bX5_reopen 9 = .ok (.goto 4, 3) := by decide +kernel
theorem dX5_reopen_12 : decode bX5_reopen 12 = .ok (.iconst 0, 1) := by decide +kernel
theorem dX5_reopen_13 : decode bX5_reopen 13 = .ok (.putfield 7, 3) := by decide +kernel
theorem dX5_reopen_16 : decode bX5_reopen 16 = .ok (.aload_n 0, 1) := by decide +kernel
theorem dX5_reopen_17 : decode bX5_reopen 17 = .ok (.getfield 7, 3) := by decide +kernel
theorem dX5_reopen_20 : decode bX5_reopen 20 = .ok (.ifCond .eq 5, 3) := by decide +kernel
theorem dX5_reopen_23 : decode bX5_reopen 23 = .ok (.iconst 0, 1) := by decide +kernel
theorem dX5_reopen_24 : decode bX5_reopen 24 = .ok (.ireturn, 1) := by decide +kernel
theorem dX5_reopen_25 : decode bX5_reopen 25 = .ok (.aload_n 0, 1) := by decide +kernel
theorem dX5_reopen_26 : decode bX5_reopen 26 = .ok (.iconst 0, 1) := by decide +kernel
theorem dX5_reopen_27 : decode bX5_reopen 27 = .ok (.putfield 38, 3) := by decide +kernel
theorem dX5_reopen_30 : decode bX5_reopen 30 = .ok (.aload_n 0, 1) := by decide +kernel
theorem dX5_reopen_31 : decode bX5_reopen 31 = .ok (.iconst 0, 1) := by decide +kernel
theorem dX5_reopen_32 : decode bX5_reopen 32 = .ok (.putfield 17, 3) := by decide +kernel
theorem dX5_reopen_35 : decode bX5_reopen 35 = .ok (.aload_n 0, 1) := by decide +kernel
theorem dX5_reopen_36 : decode bX5_reopen 36 = .ok (.aload_n 0, 1) := by decide +kernel
theorem dX5_reopen_37 : decode bX5_reopen 37 = .ok (.invokevirtual 123, 3) := by decide +kernel
theorem dX5_reopen_40 : decode bX5_reopen 40 = .ok (.putfield 48, 3) := by decide +kernel
theorem dX5_reopen_43 : decode bX5_reopen 43 = .ok (.iconst 0, 1) := by decide +kernel
theorem dX5_reopen_44 : decode bX5_reopen 44 = .ok (.istore_n 1, 1) := by decide +kernel
theorem dX5_reopen_45 : decode bX5_reopen 45 = .ok (.iload_n 1, 1) := by decide +kernel
theorem dX5_reopen_46 : decode bX5_reopen 46 = .ok (.bipush 32, 2) := by decide +kernel
theorem dX5_reopen_48 : decode bX5_reopen 48 = .ok (.if_icmp .ge 26, 3) := by decide +kernel
theorem dX5_reopen_51 : decode bX5_reopen 51 = .ok (.aload_n 0, 1) := by decide +kernel
theorem dX5_reopen_52 : decode bX5_reopen 52 = .ok (.bipush 32, 2) := by decide +kernel
theorem dX5_reopen_54 : decode bX5_reopen 54 = .ok (.aload_n 0, 1) := by decide +kernel
theorem dX5_reopen_55 : decode bX5_reopen 55 = .ok (.getfield 48, 3) := by decide +kernel
theorem dX5_reopen_58 : decode bX5_reopen 58 = .ok (.imul, 1) := by decide +kernel
theorem dX5_reopen_59 : decode bX5_reopen 59 = .ok (.iload_n 1, 1) := by decide +kernel
theorem dX5_reopen_60 : decode bX5_reopen 60 = .ok (.iadd, 1) := by decide +kernel
theorem dX5_reopen_61 : decode bX5_reopen 61 = .ok (.bipush 64, 2) := by decide +kernel
theorem dX5_reopen_63 : decode bX5_reopen 63 = .ok (.iload_n 1, 1) := by decide +kernel
theorem dX5_reopen_64 : decode bX5_reopen 64 = .ok (.iadd, 1) := by decide +kernel
theorem dX5_reopen_65 : decode bX5_reopen 65 = .ok (.invokevirtual 92, 3) := by decide +kernel
theorem dX5_reopen_68 : decode bX5_reopen 68 = .ok (.iinc 1 1, 3) := by decide +kernel
theorem dX5_reopen_71 : decode bX5_reopen 71 = .ok (.goto (-26), 3) := by decide +kernel
theorem dX5_reopen_74 : decode bX5_reopen 74 = .ok (.aload_n 0, 1) := by decide +kernel
theorem dX5_reopen_75 : decode bX5_reopen 75 = .ok (.getfield 54, 3) := by decide +kernel
theorem dX5_reopen_78 : decode bX5_reopen 78 = .ok (.aload_n 0, 1) := by decide +kernel
theorem dX5_reopen_79 : decode bX5_reopen 79 = .ok (.getfield 48, 3) := by decide +kernel
theorem dX5_reopen_82 : decode bX5_reopen 82 = .ok (.iaload, 1) := by decide +kernel
theorem dX5_reopen_83 : decode bX5_reopen 83 = .ok (.istore_n 1, 1) := by decide +kernel
theorem dX5_reopen_84 : decode bX5_reopen 84 = .ok (.aload_n 0, 1) := by decide +kernel
theorem dX5_reopen_85 : decode bX5_reopen 85 = .ok (.getfield 26, 3) := by decide +kernel
theorem dX5_reopen_88 : decode bX5_reopen 88 = .ok (.iload_n 1, 1) := by decide +kernel
theorem dX5_reopen_89 : decode bX5_reopen 89 = .ok (.aload_n 0, 1) := by decide +kernel
theorem dX5_reopen_90 : decode bX5_reopen 90 = .ok (.getfield 29, 3) := by decide +kernel
theorem dX5_reopen_93 : decode bX5_reopen 93 = .ok (.isub, 1) := by decide +kernel
theorem dX5_reopen_94 : decode bX5_reopen 94 = .ok (.iaload, 1) := by decide +kernel
theorem dX5_reopen_95 : decode bX5_reopen 95 = .ok (.istore_n 2, 1) := by decide +kernel
theorem dX5_reopen_96 : decode bX5_reopen 96 = .ok (.aload_n 0, 1) := by decide +kernel
theorem dX5_reopen_97 : decode bX5_reopen 97 = .ok (.getfield 57, 3) := by decide +kernel
theorem dX5_reopen_100 : decode bX5_reopen 100 = .ok (.aload_n 0, 1) := by decide +kernel
theorem dX5_reopen_101 : decode bX5_reopen 101 = .ok (.getfield 48, 3) := by decide +kernel
theorem dX5_reopen_104 : decode bX5_reopen 104 = .ok (.laload, 1) := by decide +kernel
theorem dX5_reopen_105 : decode bX5_reopen 105 = .ok (.lstore_n 3, 1) := by decide +kernel
theorem dX5_reopen_106 : decode bX5_reopen 106 = .ok (.iload_n 2, 1) := by decide +kernel
theorem dX5_reopen_107 : decode bX5_reopen 107 = .ok (.aload_n 0, 1) := by decide +kernel
theorem dX5_reopen_108 : decode bX5_reopen 108 = .ok (.getfield 23, 3) := by decide +kernel
theorem dX5_reopen_111 : decode bX5_reopen 111 = .ok (.if_icmp .ge 99, 3) := by decide +kernel
theorem dX5_reopen_114 : decode bX5_reopen 114 = .ok (.iload_n 1, 1) := by decide +kernel
theorem dX5_reopen_115 : decode bX5_reopen 115 = .ok (.aload_n 0, 1) := by decide +kernel
theorem dX5_reopen_116 : decode bX5_reopen 116 = .ok (.getfield 29, 3) := by decide +kernel
theorem dX5_reopen_119 : decode bX5_reopen 119 = .ok (.isub, 1) := by decide +kernel
theorem dX5_reopen_120 : decode bX5_reopen 120 = .ok (.bipush 64, 2) := by decide +kernel
theorem dX5_reopen_122 : decode bX5_reopen 122 = .ok (.if_icmp .ge 88, 3) := by decide +kernel
theorem dX5_reopen_125 : decode bX5_reopen 125 = .ok (.aload_n 0, 1) := by decide +kernel
theorem dX5_reopen_126 : decode bX5_reopen 126 = .ok (.iload_n 2, 1) := by decide +kernel
theorem dX5_reopen_127 : decode bX5_reopen 127 = .ok (.invokevirtual 127, 3) := by decide +kernel
theorem dX5_reopen_130 : decode bX5_reopen 130 = .ok (.ifCond .eq 80, 3) := by decide +kernel
theorem dX5_reopen_133 : decode bX5_reopen 133 = .ok (.iload_n 1, 1) := by decide +kernel
theorem dX5_reopen_134 : decode bX5_reopen 134 = .ok (.aload_n 0, 1) := by decide +kernel
theorem dX5_reopen_135 : decode bX5_reopen 135 = .ok (.getfield 65, 3) := by decide +kernel
theorem dX5_reopen_138 : decode bX5_reopen 138 = .ok (.iconst 4, 1) := by decide +kernel
theorem dX5_reopen_139 : decode bX5_reopen 139 = .ok (.aload_n 0, 1) := by decide +kernel
theorem dX5_reopen_140 : decode bX5_reopen 140 = .ok (.getfield 48, 3) := by decide +kernel
theorem dX5_reopen_143 : decode bX5_reopen 143 = .ok (.imul, 1) := by decide +kernel
theorem dX5_reopen_144 : decode bX5_reopen 144 = .ok (.aload_n 0, 1) := by decide +kernel
theorem dX5_reopen_145 : decode bX5_reopen 145 = .ok (.getfield 20, 3) := by decide +kernel
theorem dX5_reopen_148 : decode bX5_reopen 148 = .ok (.iload_n 2, 1) := by decide +kernel
theorem dX5_reopen_149 : decode bX5_reopen 149 = .ok (.iaload, 1) := by decide +kernel
theorem dX5_reopen_150 : decode bX5_reopen 150 = .ok (.iconst 4, 1) := by decide +kernel
theorem dX5_reopen_151 : decode bX5_reopen 151 = .ok (.irem, 1) := by decide +kernel
theorem dX5_reopen_152 : decode bX5_reopen 152 = .ok (.iadd, 1) := by decide +kernel
theorem dX5_reopen_153 : decode bX5_reopen 153 = .ok (.iaload, 1) := by decide +kernel
theorem dX5_reopen_154 : decode bX5_reopen 154 = .ok (.if_icmp .lt 8, 3) := by decide +kernel
theorem dX5_reopen_157 : decode bX5_reopen 157 = .ok (.aload_n 0, 1) := by decide +kernel
theorem dX5_reopen_158 : decode bX5_reopen 158 = .ok (.iload_n 2, 1) := by decide +kernel
theorem dX5_reopen_159 : decode bX5_reopen 159 = .ok (.invokevirtual 109, 3) := by decide +kernel
theorem dX5_reopen_162 : decode bX5_reopen 162 = .ok (.aload_n 0, 1) := by decide +kernel
theorem dX5_reopen_163 : decode bX5_reopen 163 = .ok (.iload_n 2, 1) := by decide +kernel
theorem dX5_reopen_164 : decode bX5_reopen 164 = .ok (.invokevirtual 96, 3) := by decide +kernel
theorem dX5_reopen_167 : decode bX5_reopen 167 = .ok (.istore 5, 2) := by decide +kernel
theorem dX5_reopen_169 : decode bX5_reopen 169 = .ok (.lload_n 3, 1) := by decide +kernel
theorem dX5_reopen_170 : decode bX5_reopen 170 = .ok (.aload_n 0, 1) := by decide +kernel
theorem dX5_reopen_171 : decode bX5_reopen 171 = .ok (.iload_n 2, 1) := by decide +kernel
theorem dX5_reopen_172 : decode bX5_reopen 172 = .ok (.iload 5, 2) := by decide +kernel
theorem dX5_reopen_174 : decode bX5_reopen 174 = .ok (.iadd, 1) := by decide +kernel
theorem dX5_reopen_175 : decode bX5_reopen 175 = .ok (.bipush 8, 2) := by decide +kernel
theorem dX5_reopen_177 : decode bX5_reopen 177 = .ok (.isub, 1) := by decide +kernel
theorem dX5_reopen_178 : decode bX5_reopen 178 = .ok (.bipush 8, 2) := by decide +kernel
theorem dX5_reopen_180 : decode bX5_reopen 180 = .ok (.invokevirtual 83, 3) := by decide +kernel
theorem dX5_reopen_183 : decode bX5_reopen 183 = .ok (.invokestatic 79, 3) := by decide +kernel
theorem dX5_reopen_186 : decode bX5_reopen 186 = .ok (.lstore_n 3, 1) := by decide +kernel
theorem dX5_reopen_187 : decode bX5_reopen 187 = .ok (.iload_n 2, 1) := by decide +kernel
theorem dX5_reopen_188 : decode bX5_reopen 188 = .ok (.iload 5, 2) := by decide +kernel
theorem dX5_reopen_190 : decode bX5_reopen 190 = .ok (.iadd, 1) := by decide +kernel
theorem dX5_reopen_191 : decode bX5_reopen 191 = .ok (.istore_n 2, 1) := by decide +kernel
theorem dX5_reopen_192 : decode bX5_reopen 192 = .ok (.iinc 1 1, 3) := by decide +kernel
theorem dX5_reopen_195 : decode bX5_reopen 195 = .ok (.aload_n 0, 1) := by decide +kernel
theorem dX5_reopen_196 : decode bX5_reopen 196 = .ok (.getfield 26, 3) := by decide +kernel
theorem dX5_reopen_199 : decode bX5_reopen 199 = .ok (.iload_n 1, 1) := by decide +kernel
theorem dX5_reopen_200 : decode bX5_reopen 200 = .ok (.aload_n 0, 1) := by decide +kernel
theorem dX5_reopen_201 : decode bX5_reopen 201 = .ok (.getfield 29, 3) := by decide +kernel
theorem dX5_reopen_204 : decode bX5_reopen 204 = .ok (.isub, 1) := by decide +kernel
theorem dX5_reopen_205 : decode bX5_reopen 205 = .ok (.iload_n 2, 1) := by decide +kernel
theorem dX5_reopen_206 : decode bX5_reopen 206 = .ok (.iastore, 1) := by decide +kernel
theorem dX5_reopen_207 : decode bX5_reopen 207 = .ok (.goto (-101), 3) := by decide +kernel
theorem dX5_reopen_210 : decode bX5_reopen 210 = .ok (.iload_n 1, 1) := by decide +kernel
theorem dX5_reopen_211 : decode bX5_reopen 211 = .ok (.aload_n 0, 1) := by decide +kernel
theorem dX5_reopen_212 : decode bX5_reopen 212 = .ok (.getfield 54, 3) := by decide +kernel
theorem dX5_reopen_215 : decode bX5_reopen 215 = .ok (.aload_n 0, 1) := by decide +kernel
theorem dX5_reopen_216 : decode bX5_reopen 216 = .ok (.getfield 48, 3) := by decide +kernel
theorem dX5_reopen_219 : decode bX5_reopen 219 = .ok (.iaload, 1) := by decide +kernel
theorem dX5_reopen_220 : decode bX5_reopen 220 = .ok (.isub, 1) := by decide +kernel
theorem dX5_reopen_221 : decode bX5_reopen 221 = .ok (.istore 5, 2) := by decide +kernel
theorem dX5_reopen_223 : decode bX5_reopen 223 = .ok (.aload_n 0, 1) := by decide +kernel
theorem dX5_reopen_224 : decode bX5_reopen 224 = .ok (.iload_n 2, 1) := by decide +kernel
theorem dX5_reopen_225 : decode bX5_reopen 225 = .ok (.aload_n 0, 1) := by decide +kernel
theorem dX5_reopen_226 : decode bX5_reopen 226 = .ok (.getfield 23, 3) := by decide +kernel
theorem dX5_reopen_229 : decode bX5_reopen 229 = .ok (.if_icmp .ge 7, 3) := by decide +kernel
theorem dX5_reopen_232 : decode bX5_reopen 232 = .ok (.iload_n 1, 1) := by decide +kernel
theorem dX5_reopen_233 : decode bX5_reopen 233 = .ok (.goto 4, 3) := by decide +kernel
theorem dX5_reopen_236 : decode bX5_reopen 236 = .ok (.iconst (-1), 1) := by decide +kernel
theorem dX5_reopen_237 : decode bX5_reopen 237 = .ok (.putfield 42, 3) := by decide +kernel
theorem dX5_reopen_240 : decode bX5_reopen 240 = .ok (.aload_n 0, 1) := by decide +kernel
theorem dX5_reopen_241 : decode bX5_reopen 241 = .ok (.getfield 42, 3) := by decide +kernel
theorem dX5_reopen_244 : decode bX5_reopen 244 = .ok (.ifCond .lt 194, 3) := by decide +kernel
theorem dX5_reopen_247 : decode bX5_reopen 247 = .ok (.iconst 0, 1) := by decide +kernel
theorem dX5_reopen_248 : decode bX5_reopen 248 = .ok (.istore 6, 2) := by decide +kernel
theorem dX5_reopen_250 : decode bX5_reopen 250 = .ok (.iload 6, 2) := by decide +kernel
theorem dX5_reopen_252 : decode bX5_reopen 252 = .ok (.iconst 4, 1) := by decide +kernel
theorem dX5_reopen_253 : decode bX5_reopen 253 = .ok (.if_icmp .ge 46, 3) := by decide +kernel
theorem dX5_reopen_256 : decode bX5_reopen 256 = .ok (.aload_n 0, 1) := by decide +kernel
theorem dX5_reopen_257 : decode bX5_reopen 257 = .ok (.getfield 65, 3) := by decide +kernel
theorem dX5_reopen_260 : decode bX5_reopen 260 = .ok (.iconst 4, 1) := by decide +kernel
theorem dX5_reopen_261 : decode bX5_reopen 261 = .ok (.aload_n 0, 1) := by decide +kernel
theorem dX5_reopen_262 : decode bX5_reopen 262 = .ok (.getfield 48, 3) := by decide +kernel
theorem dX5_reopen_265 : decode bX5_reopen 265 = .ok (.imul, 1) := by decide +kernel
theorem dX5_reopen_266 : decode bX5_reopen 266 = .ok (.iload 6, 2) := by decide +kernel
theorem dX5_reopen_268 : decode bX5_reopen 268 = .ok (.iadd, 1) := by decide +kernel
theorem dX5_reopen_269 : decode bX5_reopen 269 = .ok (.iaload, 1) := by decide +kernel
theorem dX5_reopen_270 : decode bX5_reopen 270 = .ok (.iload_n 1, 1) := by decide +kernel
theorem dX5_reopen_271 : decode bX5_reopen 271 = .ok (.if_icmp .le 20, 3) := by decide +kernel
theorem dX5_reopen_274 : decode bX5_reopen 274 = .ok (.aload_n 0, 1) := by decide +kernel
theorem dX5_reopen_275 : decode bX5_reopen 275 = .ok (.getfield 65, 3) := by decide +kernel
theorem dX5_reopen_278 : decode bX5_reopen 278 = .ok (.iconst 4, 1) := by decide +kernel
theorem dX5_reopen_279 : decode bX5_reopen 279 = .ok (.aload_n 0, 1) := by decide +kernel
theorem dX5_reopen_280 : decode bX5_reopen 280 = .ok (.getfield 48, 3) := by decide +kernel
theorem dX5_reopen_283 : decode bX5_reopen 283 = .ok (.imul, 1) := by decide +kernel
theorem dX5_reopen_284 : decode bX5_reopen 284 = .ok (.iload 6, 2) := by decide +kernel
theorem dX5_reopen_286 : decode bX5_reopen 286 = .ok (.iadd, 1) := by decide +kernel
theorem dX5_reopen_287 : decode bX5_reopen 287 = .ok (.iaload, 1) := by decide +kernel
theorem dX5_reopen_288 : decode bX5_reopen 288 = .ok (.goto 4, 3) := by decide +kernel
theorem dX5_reopen_291 : decode bX5_reopen 291 = .ok (.iload_n 1, 1) := by decide +kernel
theorem dX5_reopen_292 : decode bX5_reopen 292 = .ok (.istore_n 1, 1) := by decide +kernel
theorem dX5_reopen_293 : decode bX5_reopen 293 = .ok (.iinc 6 1, 3) := by decide +kernel
theorem dX5_reopen_296 : decode bX5_reopen 296 = .ok (.goto (-46), 3) := by decide +kernel
theorem dX5_reopen_299 : decode bX5_reopen 299 = .ok (.aload_n 0, 1) := by decide +kernel
theorem dX5_reopen_300 : decode bX5_reopen 300 = .ok (.getfield 51, 3) := by decide +kernel
theorem dX5_reopen_303 : decode bX5_reopen 303 = .ok (.aload_n 0, 1) := by decide +kernel
theorem dX5_reopen_304 : decode bX5_reopen 304 = .ok (.getfield 48, 3) := by decide +kernel
theorem dX5_reopen_307 : decode bX5_reopen 307 = .ok (.iaload, 1) := by decide +kernel
theorem dX5_reopen_308 : decode bX5_reopen 308 = .ok (.iconst 1, 1) := by decide +kernel
theorem dX5_reopen_309 : decode bX5_reopen 309 = .ok (.iadd, 1) := by decide +kernel
theorem dX5_reopen_310 : decode bX5_reopen 310 = .ok (.istore 6, 2) := by decide +kernel
theorem dX5_reopen_312 : decode bX5_reopen 312 = .ok (.iconst 0, 1) := by decide +kernel
theorem dX5_reopen_313 : decode bX5_reopen 313 = .ok (.istore 7, 2) := by decide +kernel
theorem dX5_reopen_315 : decode bX5_reopen 315 = .ok (.iload 7, 2) := by decide +kernel
theorem dX5_reopen_317 : decode bX5_reopen 317 = .ok (.iconst 2, 1) := by decide +kernel
theorem dX5_reopen_318 : decode bX5_reopen 318 = .ok (.if_icmp .ge 103, 3) := by decide +kernel
theorem dX5_reopen_321 : decode bX5_reopen 321 = .ok (.aload_n 0, 1) := by decide +kernel
theorem dX5_reopen_322 : decode bX5_reopen 322 = .ok (.getfield 51, 3) := by decide +kernel
theorem dX5_reopen_325 : decode bX5_reopen 325 = .ok (.iload 7, 2) := by decide +kernel
theorem dX5_reopen_327 : decode bX5_reopen 327 = .ok (.iload 6, 2) := by decide +kernel
theorem dX5_reopen_329 : decode bX5_reopen 329 = .ok (.iastore, 1) := by decide +kernel
theorem dX5_reopen_330 : decode bX5_reopen 330 = .ok (.aload_n 0, 1) := by decide +kernel
theorem dX5_reopen_331 : decode bX5_reopen 331 = .ok (.getfield 54, 3) := by decide +kernel
theorem dX5_reopen_334 : decode bX5_reopen 334 = .ok (.iload 7, 2) := by decide +kernel
theorem dX5_reopen_336 : decode bX5_reopen 336 = .ok (.iload_n 1, 1) := by decide +kernel
theorem dX5_reopen_337 : decode bX5_reopen 337 = .ok (.iastore, 1) := by decide +kernel
theorem dX5_reopen_338 : decode bX5_reopen 338 = .ok (.aload_n 0, 1) := by decide +kernel
theorem dX5_reopen_339 : decode bX5_reopen 339 = .ok (.getfield 57, 3) := by decide +kernel
theorem dX5_reopen_342 : decode bX5_reopen 342 = .ok (.iload 7, 2) := by decide +kernel
theorem dX5_reopen_344 : decode bX5_reopen 344 = .ok (.lload_n 3, 1) := by decide +kernel
theorem dX5_reopen_345 : decode bX5_reopen 345 = .ok (.lastore, 1) := by decide +kernel
theorem dX5_reopen_346 : decode bX5_reopen 346 = .ok (.aload_n 0, 1) := by decide +kernel
theorem dX5_reopen_347 : decode bX5_reopen 347 = .ok (.getfield 61, 3) := by decide +kernel
theorem dX5_reopen_350 : decode bX5_reopen 350 = .ok (.iload 7, 2) := by decide +kernel
theorem dX5_reopen_352 : decode bX5_reopen 352 = .ok (.iconst 1, 1) := by decide +kernel
theorem dX5_reopen_353 : decode bX5_reopen 353 = .ok (.bastore, 1) := by decide +kernel
theorem dX5_reopen_354 : decode bX5_reopen 354 = .ok (.iconst 0, 1) := by decide +kernel
theorem dX5_reopen_355 : decode bX5_reopen 355 = .ok (.istore 8, 2) := by decide +kernel
theorem dX5_reopen_357 : decode bX5_reopen 357 = .ok (.iload 8, 2) := by decide +kernel
theorem dX5_reopen_359 : decode bX5_reopen 359 = .ok (.iconst 4, 1) := by decide +kernel
theorem dX5_reopen_360 : decode bX5_reopen 360 = .ok (.if_icmp .ge 22, 3) := by decide +kernel
theorem dX5_reopen_363 : decode bX5_reopen 363 = .ok (.aload_n 0, 1) := by decide +kernel
theorem dX5_reopen_364 : decode bX5_reopen 364 = .ok (.getfield 65, 3) := by decide +kernel
theorem dX5_reopen_367 : decode bX5_reopen 367 = .ok (.iconst 4, 1) := by decide +kernel
theorem dX5_reopen_368 : decode bX5_reopen 368 = .ok (.iload 7, 2) := by decide +kernel
theorem dX5_reopen_370 : decode bX5_reopen 370 = .ok (.imul, 1) := by decide +kernel
theorem dX5_reopen_371 : decode bX5_reopen 371 = .ok (.iload 8, 2) := by decide +kernel
theorem dX5_reopen_373 : decode bX5_reopen 373 = .ok (.iadd, 1) := by decide +kernel
theorem dX5_reopen_374 : decode bX5_reopen 374 = .ok (.iload_n 1, 1) := by decide +kernel
theorem dX5_reopen_375 : decode bX5_reopen 375 = .ok (.iastore, 1) := by decide +kernel
theorem dX5_reopen_376 : decode bX5_reopen 376 = .ok (.iinc 8 1, 3) := by decide +kernel
theorem dX5_reopen_379 : decode bX5_reopen 379 = .ok (.goto (-22), 3) := by decide +kernel
theorem dX5_reopen_382 : decode bX5_reopen 382 = .ok (.iconst 0, 1) := by decide +kernel
theorem dX5_reopen_383 : decode bX5_reopen 383 = .ok (.istore 8, 2) := by decide +kernel
theorem dX5_reopen_385 : decode bX5_reopen 385 = .ok (.iload 8, 2) := by decide +kernel
theorem dX5_reopen_387 : decode bX5_reopen 387 = .ok (.bipush 32, 2) := by decide +kernel
theorem dX5_reopen_389 : decode bX5_reopen 389 = .ok (.if_icmp .ge 26, 3) := by decide +kernel
theorem dX5_reopen_392 : decode bX5_reopen 392 = .ok (.aload_n 0, 1) := by decide +kernel
theorem dX5_reopen_393 : decode bX5_reopen 393 = .ok (.bipush 64, 2) := by decide +kernel
theorem dX5_reopen_395 : decode bX5_reopen 395 = .ok (.iload 8, 2) := by decide +kernel
theorem dX5_reopen_397 : decode bX5_reopen 397 = .ok (.iadd, 1) := by decide +kernel
theorem dX5_reopen_398 : decode bX5_reopen 398 = .ok (.bipush 32, 2) := by decide +kernel
theorem dX5_reopen_400 : decode bX5_reopen 400 = .ok (.iload 7, 2) := by decide +kernel
theorem dX5_reopen_402 : decode bX5_reopen 402 = .ok (.imul, 1) := by decide +kernel
theorem dX5_reopen_403 : decode bX5_reopen 403 = .ok (.iload 8, 2) := by decide +kernel
theorem dX5_reopen_405 : decode bX5_reopen 405 = .ok (.iadd, 1) := by decide +kernel
theorem dX5_reopen_406 : decode bX5_reopen 406 = .ok (.invokevirtual 92, 3) := by decide +kernel
theorem dX5_reopen_409 : decode bX5_reopen 409 = .ok (.iinc 8 1, 3) := by decide +kernel
theorem dX5_reopen_412 : decode bX5_reopen 412 = .ok (.goto (-27), 3) := by decide +kernel
theorem dX5_reopen_415 : decode bX5_reopen 415 = .ok (.iinc 7 1, 3) := by decide +kernel
theorem dX5_reopen_418 : decode bX5_reopen 418 = .ok (.goto (-103), 3) := by decide +kernel
theorem dX5_reopen_421 : decode bX5_reopen 421 = .ok (.aload_n 0, 1) := by decide +kernel
theorem dX5_reopen_422 : decode bX5_reopen 422 = .ok (.iconst 0, 1) := by decide +kernel
theorem dX5_reopen_423 : decode bX5_reopen 423 = .ok (.putfield 23, 3) := by decide +kernel
theorem dX5_reopen_426 : decode bX5_reopen 426 = .ok (.aload_n 0, 1) := by decide +kernel
theorem dX5_reopen_427 : decode bX5_reopen 427 = .ok (.iload_n 1, 1) := by decide +kernel
theorem dX5_reopen_428 : decode bX5_reopen 428 = .ok (.putfield 29, 3) := by decide +kernel
theorem dX5_reopen_431 : decode bX5_reopen 431 = .ok (.aload_n 0, 1) := by decide +kernel
theorem dX5_reopen_432 : decode bX5_reopen 432 = .ok (.getfield 26, 3) := by decide +kernel
theorem dX5_reopen_435 : decode bX5_reopen 435 = .ok (.iconst 0, 1) := by decide +kernel
theorem dX5_reopen_436 : decode bX5_reopen 436 = .ok (.iconst 0, 1) := by decide +kernel
theorem dX5_reopen_437 : decode bX5_reopen 437 = .ok (.iastore, 1) := by decide +kernel
theorem dX5_reopen_438 : decode bX5_reopen 438 = .ok (.aload_n 0, 1) := by decide +kernel
theorem dX5_reopen_439 : decode bX5_reopen 439 = .ok (.iload_n 1, 1) := by decide +kernel
theorem dX5_reopen_440 : decode bX5_reopen 440 = .ok (.putfield 32, 3) := by decide +kernel
theorem dX5_reopen_443 : decode bX5_reopen 443 = .ok (.aload_n 0, 1) := by decide +kernel
theorem dX5_reopen_444 : decode bX5_reopen 444 = .ok (.iload_n 1, 1) := by decide +kernel
theorem dX5_reopen_445 : decode bX5_reopen 445 = .ok (.putfield 35, 3) := by decide +kernel
theorem dX5_reopen_448 : decode bX5_reopen 448 = .ok (.iload 5, 2) := by decide +kernel
theorem dX5_reopen_450 : decode bX5_reopen 450 = .ok (.ireturn, 1) := by decide +kernel
theorem dX5_badAt_0 : decode bX5_badAt 0 = .ok (.aload_n 0, 1) := by decide +kernel
theorem dX5_badAt_1 : decode bX5_badAt 1 = .ok (.iconst 0, 1) := by decide +kernel
theorem dX5_badAt_2 : decode bX5_badAt 2 = .ok (.putfield 7, 3) := by decide +kernel
theorem dX5_badAt_5 : decode bX5_badAt 5 = .ok (.aload_n 0, 1) := by decide +kernel
theorem dX5_badAt_6 : decode bX5_badAt 6 = .ok (.getfield 42, 3) := by decide +kernel
theorem dX5_badAt_9 : decode bX5_badAt 9 = .ok (.ireturn, 1) := by decide +kernel
theorem dX5_stored_0 : decode bX5_stored 0 = .ok (.aload_n 0, 1) := by decide +kernel
theorem dX5_stored_1 : decode bX5_stored 1 = .ok (.iload_n 1, 1) := by decide +kernel
theorem dX5_stored_2 : decode bX5_stored 2 = .ok (.aload_n 0, 1) := by decide +kernel
theorem dX5_stored_3 : decode bX5_stored 3 = .ok (.getfield 23, 3) := by decide +kernel
theorem dX5_stored_6 : decode bX5_stored 6 = .ok (.invokestatic 100, 3) := by decide +kernel
theorem dX5_stored_9 : decode bX5_stored 9 = .ok (.ifCond .eq 7, 3) := by decide +kernel
theorem dX5_stored_12 : decode bX5_stored 12 = .ok (.iconst 1, 1) := by decide +kernel
theorem dX5_stored_13 : decode bX5_stored 13 = .ok (.goto 4, 3) := by decide +kernel
theorem dX5_stored_16 : decode bX5_stored 16 = .ok (.iconst 0, 1) := by decide +kernel
theorem dX5_stored_17 : decode bX5_stored 17 = .ok (.putfield 7, 3) := by decide +kernel
theorem dX5_stored_20 : decode bX5_stored 20 = .ok (.aload_n 0, 1) := by decide +kernel
theorem dX5_stored_21 : decode bX5_stored 21 = .ok (.getfield 7, 3) := by decide +kernel
theorem dX5_stored_24 : decode bX5_stored 24 = .ok (.ifCond .eq 7, 3) := by decide +kernel
theorem dX5_stored_27 : decode bX5_stored 27 = .ok (.iconst 0, 1) := by decide +kernel
theorem dX5_stored_28 : decode bX5_stored 28 = .ok (.goto 9, 3) := by decide +kernel
theorem dX5_stored_31 : decode bX5_stored 31 = .ok (.aload_n 0, 1) := by decide +kernel
theorem dX5_stored_32 : decode bX5_stored 32 = .ok (.getfield 20, 3) := by decide +kernel
theorem dX5_stored_35 : decode bX5_stored 35 = .ok (.iload_n 1, 1) := by decide +kernel
theorem dX5_stored_36 : decode bX5_stored 36 = .ok (.iaload, 1) := by decide +kernel
theorem dX5_stored_37 : decode bX5_stored 37 = .ok (.ireturn, 1) := by decide +kernel
theorem dX5_head_0 : decode bX5_head 0 = .ok (.aload_n 0, 1) := by decide +kernel
theorem dX5_head_1 : decode bX5_head 1 = .ok (.iload_n 1, 1) := by decide +kernel
theorem dX5_head_2 : decode bX5_head 2 = .ok (.bipush 8, 2) := by decide +kernel
theorem dX5_head_4 : decode bX5_head 4 = .ok (.invokestatic 100, 3) := by decide +kernel
theorem dX5_head_7 : decode bX5_head 7 = .ok (.ifCond .eq 7, 3) := by decide +kernel
theorem dX5_head_10 : decode bX5_head 10 = .ok (.iconst 1, 1) := by decide +kernel
theorem dX5_head_11 : decode bX5_head 11 = .ok (.goto 4, 3) := by decide +kernel
theorem dX5_head_14 : decode bX5_head 14 = .ok (.iconst 0, 1) := by decide +kernel
theorem dX5_head_15 : decode bX5_head 15 = .ok (.putfield 7, 3) := by decide +kernel
theorem dX5_head_18 : decode bX5_head 18 = .ok (.aload_n 0, 1) := by decide +kernel
theorem dX5_head_19 : decode bX5_head 19 = .ok (.getfield 7, 3) := by decide +kernel
theorem dX5_head_22 : decode bX5_head 22 = .ok (.ifCond .eq 5, 3) := by decide +kernel
theorem dX5_head_25 : decode bX5_head 25 = .ok (.iconst 0, 1) := by decide +kernel
theorem dX5_head_26 : decode bX5_head 26 = .ok (.ireturn, 1) := by decide +kernel
theorem dX5_head_27 : decode bX5_head 27 = .ok (.iload_n 1, 1) := by decide +kernel
theorem dX5_head_28 : decode bX5_head 28 = .ok (.iconst 4, 1) := by decide +kernel
theorem dX5_head_29 : decode bX5_head 29 = .ok (.if_icmp .ge 43, 3) := by decide +kernel
theorem dX5_head_32 : decode bX5_head 32 = .ok (.iload_n 1, 1) := by decide +kernel
theorem dX5_head_33 : decode bX5_head 33 = .ok (.ifCond .ne 10, 3) := by decide +kernel
theorem dX5_head_36 : decode bX5_head 36 = .ok (.aload_n 0, 1) := by decide +kernel
theorem dX5_head_37 : decode bX5_head 37 = .ok (.getfield 32, 3) := by decide +kernel
theorem dX5_head_40 : decode bX5_head 40 = .ok (.goto 31, 3) := by decide +kernel
theorem dX5_head_43 : decode bX5_head 43 = .ok (.iload_n 1, 1) := by decide +kernel
theorem dX5_head_44 : decode bX5_head 44 = .ok (.iconst 1, 1) := by decide +kernel
theorem dX5_head_45 : decode bX5_head 45 = .ok (.if_icmp .ne 10, 3) := by decide +kernel
theorem dX5_head_48 : decode bX5_head 48 = .ok (.aload_n 0, 1) := by decide +kernel
theorem dX5_head_49 : decode bX5_head 49 = .ok (.getfield 35, 3) := by decide +kernel
theorem dX5_head_52 : decode bX5_head 52 = .ok (.goto 19, 3) := by decide +kernel
theorem dX5_head_55 : decode bX5_head 55 = .ok (.iload_n 1, 1) := by decide +kernel
theorem dX5_head_56 : decode bX5_head 56 = .ok (.iconst 2, 1) := by decide +kernel
theorem dX5_head_57 : decode bX5_head 57 = .ok (.if_icmp .ne 10, 3) := by decide +kernel
theorem dX5_head_60 : decode bX5_head 60 = .ok (.aload_n 0, 1) := by decide +kernel
theorem dX5_head_61 : decode bX5_head 61 = .ok (.getfield 29, 3) := by decide +kernel
theorem dX5_head_64 : decode bX5_head 64 = .ok (.goto 7, 3) := by decide +kernel
theorem dX5_head_67 : decode bX5_head 67 = .ok (.aload_n 0, 1) := by decide +kernel
theorem dX5_head_68 : decode bX5_head 68 = .ok (.getfield 23, 3) := by decide +kernel
theorem dX5_head_71 : decode bX5_head 71 = .ok (.ireturn, 1) := by decide +kernel
theorem dX5_head_72 : decode bX5_head 72 = .ok (.iload_n 1, 1) := by decide +kernel
theorem dX5_head_73 : decode bX5_head 73 = .ok (.iconst 4, 1) := by decide +kernel
theorem dX5_head_74 : decode bX5_head 74 = .ok (.if_icmp .ne 15, 3) := by decide +kernel
theorem dX5_head_77 : decode bX5_head 77 = .ok (.aload_n 0, 1) := by decide +kernel
theorem dX5_head_78 : decode bX5_head 78 = .ok (.getfield 51, 3) := by decide +kernel
theorem dX5_head_81 : decode bX5_head 81 = .ok (.aload_n 0, 1) := by decide +kernel
theorem dX5_head_82 : decode bX5_head 82 = .ok (.getfield 48, 3) := by decide +kernel
theorem dX5_head_85 : decode bX5_head 85 = .ok (.iaload, 1) := by decide +kernel
theorem dX5_head_86 : decode bX5_head 86 = .ok (.goto 37, 3) := by decide +kernel
theorem dX5_head_89 : decode bX5_head 89 = .ok (.iload_n 1, 1) := by decide +kernel
theorem dX5_head_90 : decode bX5_head 90 = .ok (.iconst 5, 1) := by decide +kernel
theorem dX5_head_91 : decode bX5_head 91 = .ok (.if_icmp .ne 15, 3) := by decide +kernel
theorem dX5_head_94 : decode bX5_head 94 = .ok (.aload_n 0, 1) := by decide +kernel
theorem dX5_head_95 : decode bX5_head 95 = .ok (.getfield 54, 3) := by decide +kernel
theorem dX5_head_98 : decode bX5_head 98 = .ok (.aload_n 0, 1) := by decide +kernel
theorem dX5_head_99 : decode bX5_head 99 = .ok (.getfield 48, 3) := by decide +kernel
theorem dX5_head_102 : decode bX5_head 102 = .ok (.iaload, 1) := by decide +kernel
theorem dX5_head_103 : decode bX5_head 103 = .ok (.goto 20, 3) := by decide +kernel
theorem dX5_head_106 : decode bX5_head 106 = .ok (.iload_n 1, 1) := by decide +kernel
theorem dX5_head_107 : decode bX5_head 107 = .ok (.bipush 6, 2) := by decide +kernel
theorem dX5_head_109 : decode bX5_head 109 = .ok (.if_icmp .ne 10, 3) := by decide +kernel
theorem dX5_head_112 : decode bX5_head 112 = .ok (.aload_n 0, 1) := by decide +kernel
theorem dX5_head_113 : decode bX5_head 113 = .ok (.getfield 45, 3) := by decide +kernel
theorem dX5_head_116 : decode bX5_head 116 = .ok (.goto 7, 3) := by decide +kernel
theorem dX5_head_119 : decode bX5_head 119 = .ok (.aload_n 0, 1) := by decide +kernel
theorem dX5_head_120 : decode bX5_head 120 = .ok (.getfield 17, 3) := by decide +kernel
theorem dX5_head_123 : decode bX5_head 123 = .ok (.ireturn, 1) := by decide +kernel
theorem dX0_init_0 : decode bX0_init 0 = .ok (.aload_n 0, 1) := by decide +kernel
theorem dX0_init_1 : decode bX0_init 1 = .ok (.invokespecial 3, 3) := by decide +kernel
theorem dX0_init_4 : decode bX0_init 4 = .ok (.aload_n 0, 1) := by decide +kernel
theorem dX0_init_5 : decode bX0_init 5 = .ok (.iload_n 1, 1) := by decide +kernel
theorem dX0_init_6 : decode bX0_init 6 = .ok (.ifCond .le 7, 3) := by decide +kernel
theorem dX0_init_9 : decode bX0_init 9 = .ok (.iload_n 1, 1) := by decide +kernel
theorem dX0_init_10 : decode bX0_init 10 = .ok (.goto 4, 3) := by decide +kernel
theorem dX0_init_13 : decode bX0_init 13 = .ok (.iconst 0, 1) := by decide +kernel
theorem dX0_init_14 : decode bX0_init 14 = .ok (.newarray .int, 2) := by decide +kernel
theorem dX0_init_16 : decode bX0_init 16 = .ok (.putfield 9, 3) := by decide +kernel
theorem dX0_init_19 : decode bX0_init 19 = .ok (.return_, 1) := by decide +kernel
theorem dX0_size_0 : decode bX0_size 0 = .ok (.aload_n 0, 1) := by decide +kernel
theorem dX0_size_1 : decode bX0_size 1 = .ok (.getfield 15, 3) := by decide +kernel
theorem dX0_size_4 : decode bX0_size 4 = .ok (.ireturn, 1) := by decide +kernel
theorem dX0_get_0 : decode bX0_get 0 = .ok (.iload_n 1, 1) := by decide +kernel
theorem dX0_get_1 : decode bX0_get 1 = .ok (.ifCond .lt 29, 3) := by decide +kernel
theorem dX0_get_4 : decode bX0_get 4 = .ok (.iload_n 1, 1) := by decide +kernel
theorem dX0_get_5 : decode bX0_get 5 = .ok (.aload_n 0, 1) := by decide +kernel
theorem dX0_get_6 : decode bX0_get 6 = .ok (.getfield 15, 3) := by decide +kernel
theorem dX0_get_9 : decode bX0_get 9 = .ok (.if_icmp .ge 21, 3) := by decide +kernel
theorem dX0_get_12 : decode bX0_get 12 = .ok (.iload_n 1, 1) := by decide +kernel
theorem dX0_get_13 : decode bX0_get 13 = .ok (.aload_n 0, 1) := by decide +kernel
theorem dX0_get_14 : decode bX0_get 14 = .ok (.getfield 9, 3) := by decide +kernel
theorem dX0_get_17 : decode bX0_get 17 = .ok (.arraylength, 1) := by decide +kernel
theorem dX0_get_18 : decode bX0_get 18 = .ok (.if_icmp .ge 12, 3) := by decide +kernel
theorem dX0_get_21 : decode bX0_get 21 = .ok (.aload_n 0, 1) := by decide +kernel
theorem dX0_get_22 : decode bX0_get 22 = .ok (.getfield 9, 3) := by decide +kernel
theorem dX0_get_25 : decode bX0_get 25 = .ok (.iload_n 1, 1) := by decide +kernel
theorem dX0_get_26 : decode bX0_get 26 = .ok (.iaload, 1) := by decide +kernel
theorem dX0_get_27 : decode bX0_get 27 = .ok (.goto 4, 3) := by decide +kernel
theorem dX0_get_30 : decode bX0_get 30 = .ok (.iconst 0, 1) := by decide +kernel
theorem dX0_get_31 : decode bX0_get 31 = .ok (.ireturn, 1) := by decide +kernel
theorem dX0_set_0 : decode bX0_set 0 = .ok (.iload_n 1, 1) := by decide +kernel
theorem dX0_set_1 : decode bX0_set 1 = .ok (.ifCond .lt 27, 3) := by decide +kernel
theorem dX0_set_4 : decode bX0_set 4 = .ok (.iload_n 1, 1) := by decide +kernel
theorem dX0_set_5 : decode bX0_set 5 = .ok (.aload_n 0, 1) := by decide +kernel
theorem dX0_set_6 : decode bX0_set 6 = .ok (.getfield 15, 3) := by decide +kernel
theorem dX0_set_9 : decode bX0_set 9 = .ok (.if_icmp .ge 19, 3) := by decide +kernel
theorem dX0_set_12 : decode bX0_set 12 = .ok (.iload_n 1, 1) := by decide +kernel
theorem dX0_set_13 : decode bX0_set 13 = .ok (.aload_n 0, 1) := by decide +kernel
theorem dX0_set_14 : decode bX0_set 14 = .ok (.getfield 9, 3) := by decide +kernel
theorem dX0_set_17 : decode bX0_set 17 = .ok (.arraylength, 1) := by decide +kernel
theorem dX0_set_18 : decode bX0_set 18 = .ok (.if_icmp .ge 10, 3) := by decide +kernel
theorem dX0_set_21 : decode bX0_set 21 = .ok (.aload_n 0, 1) := by decide +kernel
theorem dX0_set_22 : decode bX0_set 22 = .ok (.getfield 9, 3) := by decide +kernel
theorem dX0_set_25 : decode bX0_set 25 = .ok (.iload_n 1, 1) := by decide +kernel
theorem dX0_set_26 : decode bX0_set 26 = .ok (.iload_n 2, 1) := by decide +kernel
theorem dX0_set_27 : decode bX0_set 27 = .ok (.iastore, 1) := by decide +kernel
theorem dX0_set_28 : decode bX0_set 28 = .ok (.return_, 1) := by decide +kernel
theorem dX0_add_0 : decode bX0_add 0 = .ok (.aload_n 0, 1) := by decide +kernel
theorem dX0_add_1 : decode bX0_add 1 = .ok (.getfield 15, 3) := by decide +kernel
theorem dX0_add_4 : decode bX0_add 4 = .ok (.ifCond .lt 35, 3) := by decide +kernel
theorem dX0_add_7 : decode bX0_add 7 = .ok (.aload_n 0, 1) := by decide +kernel
theorem dX0_add_8 : decode bX0_add 8 = .ok (.getfield 15, 3) := by decide +kernel
theorem dX0_add_11 : decode bX0_add 11 = .ok (.aload_n 0, 1) := by decide +kernel
theorem dX0_add_12 : decode bX0_add 12 = .ok (.getfield 9, 3) := by decide +kernel
theorem dX0_add_15 : decode bX0_add 15 = .ok (.arraylength, 1) := by decide +kernel
theorem dX0_add_16 : decode bX0_add 16 = .ok (.if_icmp .ge 23, 3) := by decide +kernel
theorem dX0_add_19 : decode bX0_add 19 = .ok (.aload_n 0, 1) := by decide +kernel
theorem dX0_add_20 : decode bX0_add 20 = .ok (.getfield 9, 3) := by decide +kernel
theorem dX0_add_23 : decode bX0_add 23 = .ok (.aload_n 0, 1) := by decide +kernel
theorem dX0_add_24 : decode bX0_add 24 = .ok (.getfield 15, 3) := by decide +kernel
theorem dX0_add_27 : decode bX0_add 27 = .ok (.iload_n 1, 1) := by decide +kernel
theorem dX0_add_28 : decode bX0_add 28 = .ok (.iastore, 1) := by decide +kernel
theorem dX0_add_29 : decode bX0_add 29 = .ok (.aload_n 0, 1) := by decide +kernel
theorem dX0_add_30 : decode bX0_add 30 = .ok (.dup, 1) := by decide +kernel
theorem dX0_add_31 : decode bX0_add 31 = .ok (.getfield 15, 3) := by decide +kernel
theorem dX0_add_34 : decode bX0_add 34 = .ok (.iconst 1, 1) := by decide +kernel
theorem dX0_add_35 : decode bX0_add 35 = .ok (.iadd, 1) := by decide +kernel
theorem dX0_add_36 : decode bX0_add 36 = .ok (.putfield 15, 3) := by decide +kernel
theorem dX0_add_39 : decode bX0_add 39 = .ok (.return_, 1) := by decide +kernel
theorem dX0_addNumber_0 : decode bX0_addNumber 0 = .ok (.iload_n 3, 1) := by decide +kernel
theorem dX0_addNumber_1 : decode bX0_addNumber 1 = .ok (.iconst 1, 1) := by decide +kernel
theorem dX0_addNumber_2 : decode bX0_addNumber 2 = .ok (.isub, 1) := by decide +kernel
theorem dX0_addNumber_3 : decode bX0_addNumber 3 = .ok (.istore 4, 2) := by decide +kernel
theorem dX0_addNumber_5 : decode bX0_addNumber 5 = .ok (.iload 4, 2) := by decide +kernel
theorem dX0_addNumber_7 : decode bX0_addNumber 7 = .ok (.ifCond .lt 25, 3) := by decide +kernel
theorem dX0_addNumber_10 : decode bX0_addNumber 10 = .ok (.aload_n 0, 1) := by decide +kernel
theorem dX0_addNumber_11 : decode bX0_addNumber 11 = .ok (.lload_n 1, 1) := by decide +kernel
theorem dX0_addNumber_12 : decode bX0_addNumber 12 = .ok (.iload 4, 2) := by decide +kernel
theorem dX0_addNumber_14 : decode bX0_addNumber 14 = .ok (.bipush 8, 2) := by decide +kernel
theorem dX0_addNumber_16 : decode bX0_addNumber 16 = .ok (.imul, 1) := by decide +kernel
theorem dX0_addNumber_17 : decode bX0_addNumber 17 = .ok (.lushr, 1) := by decide +kernel
theorem dX0_addNumber_18 : decode bX0_addNumber 18 = .ok (.l2i, 1) := by decide +kernel
theorem dX0_addNumber_19 : decode bX0_addNumber 19 = .ok (.sipush 255, 3) := by decide +kernel
theorem dX0_addNumber_22 : decode bX0_addNumber 22 = .ok (.iand, 1) := by decide +kernel
theorem dX0_addNumber_23 : decode bX0_addNumber 23 = .ok (.invokevirtual 19, 3) := by decide +kernel
theorem dX0_addNumber_26 : decode bX0_addNumber 26 = .ok (.iinc 4 (-1), 3) := by decide +kernel
theorem dX0_addNumber_29 : decode bX0_addNumber 29 = .ok (.goto (-24), 3) := by decide +kernel
theorem dX0_addNumber_32 : decode bX0_addNumber 32 = .ok (.return_, 1) := by decide +kernel
theorem dX0_numberAt_0 : decode bX0_numberAt 0 = .ok (.lconst 0, 1) := by decide +kernel
theorem dX0_numberAt_1 : decode bX0_numberAt 1 = .ok (.lstore_n 3, 1) := by decide +kernel
theorem dX0_numberAt_2 : decode bX0_numberAt 2 = .ok (.iconst 0, 1) := by decide +kernel
theorem dX0_numberAt_3 : decode bX0_numberAt 3 = .ok (.istore 5, 2) := by decide +kernel
theorem dX0_numberAt_5 : decode bX0_numberAt 5 = .ok (.iload 5, 2) := by decide +kernel
theorem dX0_numberAt_7 : decode bX0_numberAt 7 = .ok (.iload_n 2, 1) := by decide +kernel
theorem dX0_numberAt_8 : decode bX0_numberAt 8 = .ok (.if_icmp .ge 24, 3) := by decide +kernel
