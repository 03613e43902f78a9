theorem dX4_init_0 : decode bX4_init 0 = .ok (.aload_n 0, 1) := by decide +kernel
theorem dX4_init_1 : decode bX4_init 1 = .ok (.invokespecial 3, 3) := by decide +kernel
theorem dX4_init_4 : decode bX4_init 4 = .ok (.aload_n 0, 1) := by decide +kernel
theorem dX4_init_5 : decode bX4_init 5 = .ok (.new 9, 3) := by decide +kernel
theorem dX4_init_8 : decode bX4_init 8 = .ok (.dup, 1) := by decide +kernel
theorem dX4_init_9 : decode bX4_init 9 = .ok (.bipush 24, 2) := by decide +kernel
theorem dX4_init_11 : decode bX4_init 11 = .ok (.invokespecial 11, 3) := by decide +kernel
theorem dX4_init_14 : decode bX4_init 14 = .ok (.putfield 14, 3) := by decide +kernel
theorem dX4_init_17 : decode bX4_init 17 = .ok (.aload_n 0, 1) := by decide +kernel
theorem dX4_init_18 : decode bX4_init 18 = .ok (.new 9, 3) := by decide +kernel
theorem dX4_init_21 : decode bX4_init 21 = .ok (.dup, 1) := by decide +kernel
theorem dX4_init_22 : decode bX4_init 22 = .ok (.sipush 2432, 3) := by decide +kernel
theorem dX4_init_25 : decode bX4_init 25 = .ok (.invokespecial 11, 3) := by decide +kernel
theorem dX4_init_28 : decode bX4_init 28 = .ok (.putfield 18, 3) := by decide +kernel
theorem dX4_init_31 : decode bX4_init 31 = .ok (.aload_n 0, 1) := by decide +kernel
theorem dX4_init_32 : decode bX4_init 32 = .ok (.new 21, 3) := by decide +kernel
theorem dX4_init_35 : decode bX4_init 35 = .ok (.dup, 1) := by decide +kernel
theorem dX4_init_36 : decode bX4_init 36 = .ok (.invokespecial 23, 3) := by decide +kernel
theorem dX4_init_39 : decode bX4_init 39 = .ok (.putfield 24, 3) := by decide +kernel
theorem dX4_init_42 : decode bX4_init 42 = .ok (.aload_n 0, 1) := by decide +kernel
theorem dX4_init_43 : decode bX4_init 43 = .ok (.new 28, 3) := by decide +kernel
theorem dX4_init_46 : decode bX4_init 46 = .ok (.dup, 1) := by decide +kernel
theorem dX4_init_47 : decode bX4_init 47 = .ok (.invokespecial 30, 3) := by decide +kernel
theorem dX4_init_50 : decode bX4_init 50 = .ok (.putfield 31, 3) := by decide +kernel
theorem dX4_init_53 : decode bX4_init 53 = .ok (.aload_n 0, 1) := by decide +kernel
theorem dX4_init_54 : decode bX4_init 54 = .ok (.new 35, 3) := by decide +kernel
theorem dX4_init_57 : decode bX4_init 57 = .ok (.dup, 1) := by decide +kernel
theorem dX4_init_58 : decode bX4_init 58 = .ok (.invokespecial 37, 3) := by decide +kernel
theorem dX4_init_61 : decode bX4_init 61 = .ok (.putfield 38, 3) := by decide +kernel
theorem dX4_init_64 : decode bX4_init 64 = .ok (.aload_n 0, 1) := by decide +kernel
theorem dX4_init_65 : decode bX4_init 65 = .ok (.new 35, 3) := by decide +kernel
theorem dX4_init_68 : decode bX4_init 68 = .ok (.dup, 1) := by decide +kernel
theorem dX4_init_69 : decode bX4_init 69 = .ok (.invokespecial 37, 3) := by decide +kernel
theorem dX4_init_72 : decode bX4_init 72 = .ok (.putfield 42, 3) := by decide +kernel
theorem dX4_init_75 : decode bX4_init 75 = .ok (.aload_n 0, 1) := by decide +kernel
theorem dX4_init_76 : decode bX4_init 76 = .ok (.iconst (-1), 1) := by decide +kernel
theorem dX4_init_77 : decode bX4_init 77 = .ok (.putfield 45, 3) := by decide +kernel
theorem dX4_init_80 : decode bX4_init 80 = .ok (.return_, 1) := by decide +kernel
theorem dX4_feed_0 : decode bX4_feed 0 = .ok (.aload_n 0, 1) := by decide +kernel
theorem dX4_feed_1 : decode bX4_feed 1 = .ok (.invokevirtual 49, 3) := by decide +kernel
theorem dX4_feed_4 : decode bX4_feed 4 = .ok (.iload_n 1, 1) := by decide +kernel
theorem dX4_feed_5 : decode bX4_feed 5 = .ok (.ifCond .lt 10, 3) := by decide +kernel
theorem dX4_feed_8 : decode bX4_feed 8 = .ok (.iload_n 1, 1) := by decide +kernel
theorem dX4_feed_9 : decode bX4_feed 9 = .ok (.sipush 255, 3) := by decide +kernel
theorem dX4_feed_12 : decode bX4_feed 12 = .ok (.if_icmp .le 13, 3) := by decide +kernel
theorem dX4_feed_15 : decode bX4_feed 15 = .ok (.new 52, 3) := by decide +kernel
theorem dX4_feed_18 : decode bX4_feed 18 = .ok (.dup, 1) := by decide +kernel
theorem dX4_feed_19 : decode bX4_feed 19 = .ok (.ldc 54, 2) := by decide +kernel
theorem dX4_feed_21 : decode bX4_feed 21 = .ok (.invokespecial 56, 3) := by decide +kernel
theorem dX4_feed_24 : decode bX4_feed 24 = .ok (.athrow, 1) := by decide +kernel
theorem dX4_feed_25 : decode bX4_feed 25 = .ok (.aload_n 0, 1) := by decide +kernel
theorem dX4_feed_26 : decode bX4_feed 26 = .ok (.getfield 14, 3) := by decide +kernel
theorem dX4_feed_29 : decode bX4_feed 29 = .ok (.invokevirtual 59, 3) := by decide +kernel
theorem dX4_feed_32 : decode bX4_feed 32 = .ok (.bipush 24, 2) := by decide +kernel
theorem dX4_feed_34 : decode bX4_feed 34 = .ok (.if_icmp .lt 13, 3) := by decide +kernel
theorem dX4_feed_37 : decode bX4_feed 37 = .ok (.new 63, 3) := by decide +kernel
theorem dX4_feed_40 : decode bX4_feed 40 = .ok (.dup, 1) := by decide +kernel
theorem dX4_feed_41 : decode bX4_feed 41 = .ok (.ldc 65, 2) := by decide +kernel
theorem dX4_feed_43 : decode bX4_feed 43 = .ok (.invokespecial 67, 3) := by decide +kernel
theorem dX4_feed_46 : decode bX4_feed 46 = .ok (.athrow, 1) := by decide +kernel
theorem dX4_feed_47 : decode bX4_feed 47 = .ok (.aload_n 0, 1) := by decide +kernel
theorem dX4_feed_48 : decode bX4_feed 48 = .ok (.getfield 14, 3) := by decide +kernel
theorem dX4_feed_51 : decode bX4_feed 51 = .ok (.iload_n 1, 1) := by decide +kernel
theorem dX4_feed_52 : decode bX4_feed 52 = .ok (.invokevirtual 68, 3) := by decide +kernel
theorem dX4_feed_55 : decode bX4_feed 55 = .ok (.aload_n 0, 1) := by decide +kernel
theorem dX4_feed_56 : decode bX4_feed 56 = .ok (.getfield 14, 3) := by decide +kernel
theorem dX4_feed_59 : decode bX4_feed 59 = .ok (.invokevirtual 59, 3) := by decide +kernel
theorem dX4_feed_62 : decode bX4_feed 62 = .ok (.ireturn, 1) := by decide +kernel
theorem dX4_act_0 : decode bX4_act 0 = .ok (.aload_n 0, 1) := by decide +kernel
theorem dX4_act_1 : decode bX4_act 1 = .ok (.invokevirtual 49, 3) := by decide +kernel
theorem dX4_act_4 : decode bX4_act 4 = .ok (.iload_n 1, 1) := by decide +kernel
theorem dX4_act_5 : decode bX4_act 5 = .ok (.invokestatic 71, 3) := by decide +kernel
theorem dX4_act_8 : decode bX4_act 8 = .ok (.iload_n 2, 1) := by decide +kernel
theorem dX4_act_9 : decode bX4_act 9 = .ok (.ifCond .lt 9, 3) := by decide +kernel
theorem dX4_act_12 : decode bX4_act 12 = .ok (.iload_n 2, 1) := by decide +kernel
theorem dX4_act_13 : decode bX4_act 13 = .ok (.ldc 74, 2) := by decide +kernel
theorem dX4_act_15 : decode bX4_act 15 = .ok (.if_icmp .le 13, 3) := by decide +kernel
theorem dX4_act_18 : decode bX4_act 18 = .ok (.new 52, 3) := by decide +kernel
theorem dX4_act_21 : decode bX4_act 21 = .ok (.dup, 1) := by decide +kernel
theorem dX4_act_22 : decode bX4_act 22 = .ok (.ldc 75, 2) := by decide +kernel
theorem dX4_act_24 : decode bX4_act 24 = .ok (.invokespecial 56, 3) := by decide +kernel
theorem dX4_act_27 : decode bX4_act 27 = .ok (.athrow, 1) := by decide +kernel
theorem dX4_act_28 : decode bX4_act 28 = .ok (.aload_n 0, 1) := by decide +kernel
theorem dX4_act_29 : decode bX4_act 29 = .ok (.getfield 77, 3) := by decide +kernel
theorem dX4_act_32 : decode bX4_act 32 = .ok (.aload_n 0, 1) := by decide +kernel
theorem dX4_act_33 : decode bX4_act 33 = .ok (.getfield 80, 3) := by decide +kernel
theorem dX4_act_36 : decode bX4_act 36 = .ok (.isub, 1) := by decide +kernel
theorem dX4_act_37 : decode bX4_act 37 = .ok (.bipush 64, 2) := by decide +kernel
theorem dX4_act_39 : decode bX4_act 39 = .ok (.if_icmp .lt 13, 3) := by decide +kernel
theorem dX4_act_42 : decode bX4_act 42 = .ok (.new 63, 3) := by decide +kernel
theorem dX4_act_45 : decode bX4_act 45 = .ok (.dup, 1) := by decide +kernel
theorem dX4_act_46 : decode bX4_act 46 = .ok (.ldc 83, 2) := by decide +kernel
theorem dX4_act_48 : decode bX4_act 48 = .ok (.invokespecial 67, 3) := by decide +kernel
theorem dX4_act_51 : decode bX4_act 51 = .ok (.athrow, 1) := by decide +kernel
theorem dX4_act_52 : decode bX4_act 52 = .ok (.aload_n 0, 1) := by decide +kernel
theorem dX4_act_53 : decode bX4_act 53 = .ok (.aload_n 0, 1) := by decide +kernel
theorem dX4_act_54 : decode bX4_act 54 = .ok (.getfield 85, 3) := by decide +kernel
theorem dX4_act_57 : decode bX4_act 57 = .ok (.aload_n 0, 1) := by decide +kernel
theorem dX4_act_58 : decode bX4_act 58 = .ok (.iload_n 1, 1) := by decide +kernel
theorem dX4_act_59 : decode bX4_act 59 = .ok (.iload_n 2, 1) := by decide +kernel
theorem dX4_act_60 : decode bX4_act 60 = .ok (.invokevirtual 89, 3) := by decide +kernel
theorem dX4_act_63 : decode bX4_act 63 = .ok (.invokestatic 93, 3) := by decide +kernel
theorem dX4_act_66 : decode bX4_act 66 = .ok (.putfield 85, 3) := by decide +kernel
theorem dX4_act_69 : decode bX4_act 69 = .ok (.aload_n 0, 1) := by decide +kernel
theorem dX4_act_70 : decode bX4_act 70 = .ok (.getfield 24, 3) := by decide +kernel
theorem dX4_act_73 : decode bX4_act 73 = .ok (.iload_n 1, 1) := by decide +kernel
theorem dX4_act_74 : decode bX4_act 74 = .ok (.iload_n 2, 1) := by decide +kernel
theorem dX4_act_75 : decode bX4_act 75 = .ok (.aload_n 0, 1) := by decide +kernel
theorem dX4_act_76 : decode bX4_act 76 = .ok (.getfield 14, 3) := by decide +kernel
theorem dX4_act_79 : decode bX4_act 79 = .ok (.iconst 0, 1) := by decide +kernel
theorem dX4_act_80 : decode bX4_act 80 = .ok (.aload_n 0, 1) := by decide +kernel
theorem dX4_act_81 : decode bX4_act 81 = .ok (.getfield 14, 3) := by decide +kernel
theorem dX4_act_84 : decode bX4_act 84 = .ok (.invokevirtual 59, 3) := by decide +kernel
theorem dX4_act_87 : decode bX4_act 87 = .ok (.invokevirtual 97, 3) := by decide +kernel
theorem dX4_act_90 : decode bX4_act 90 = .ok (.aload_n 0, 1) := by decide +kernel
theorem dX4_act_91 : decode bX4_act 91 = .ok (.getfield 14, 3) := by decide +kernel
theorem dX4_act_94 : decode bX4_act 94 = .ok (.iconst 0, 1) := by decide +kernel
theorem dX4_act_95 : decode bX4_act 95 = .ok (.invokevirtual 101, 3) := by decide +kernel
theorem dX4_act_98 : decode bX4_act 98 = .ok (.aload_n 0, 1) := by decide +kernel
theorem dX4_act_99 : decode bX4_act 99 = .ok (.getfield 77, 3) := by decide +kernel
theorem dX4_act_102 : decode bX4_act 102 = .ok (.istore_n 3, 1) := by decide +kernel
theorem dX4_act_103 : decode bX4_act 103 = .ok (.aload_n 0, 1) := by decide +kernel
theorem dX4_act_104 : decode bX4_act 104 = .ok (.iload_n 3, 1) := by decide +kernel
theorem dX4_act_105 : decode bX4_act 105 = .ok (.iconst 1, 1) := by decide +kernel
theorem dX4_act_106 : decode bX4_act 106 = .ok (.iadd, 1) := by decide +kernel
theorem dX4_act_107 : decode bX4_act 107 = .ok (.putfield 77, 3) := by decide +kernel
theorem dX4_act_110 : decode bX4_act 110 = .ok (.iload_n 3, 1) := by decide +kernel
theorem dX4_act_111 : decode bX4_act 111 = .ok (.ireturn, 1) := by decide +kernel
theorem dX4_flush_0 : decode bX4_flush 0 = .ok (.aload_n 0, 1) := by decide +kernel
theorem dX4_flush_1 : decode bX4_flush 1 = .ok (.invokevirtual 49, 3) := by decide +kernel
theorem dX4_flush_4 : decode bX4_flush 4 = .ok (.aload_n 0, 1) := by decide +kernel
theorem dX4_flush_5 : decode bX4_flush 5 = .ok (.getfield 77, 3) := by decide +kernel
theorem dX4_flush_8 : decode bX4_flush 8 = .ok (.aload_n 0, 1) := by decide +kernel
theorem dX4_flush_9 : decode bX4_flush 9 = .ok (.getfield 104, 3) := by decide +kernel
theorem dX4_flush_12 : decode bX4_flush 12 = .ok (.isub, 1) := by decide +kernel
theorem dX4_flush_13 : decode bX4_flush 13 = .ok (.istore_n 1, 1) := by decide +kernel
theorem dX4_flush_14 : decode bX4_flush 14 = .ok (.aload_n 0, 1) := by decide +kernel
theorem dX4_flush_15 : decode bX4_flush 15 = .ok (.invokevirtual 107, 3) := by decide +kernel
theorem dX4_flush_18 : decode bX4_flush 18 = .ok (.iload_n 1, 1) := by decide +kernel
theorem dX4_flush_19 : decode bX4_flush 19 = .ok (.ireturn, 1) := by decide +kernel
theorem dX4_part_0 : decode bX4_part 0 = .ok (.aload_n 0, 1) := by decide +kernel
theorem dX4_part_1 : decode bX4_part 1 = .ok (.invokevirtual 49, 3) := by decide +kernel
theorem dX4_part_4 : decode bX4_part 4 = .ok (.aload_n 0, 1) := by decide +kernel
theorem dX4_part_5 : decode bX4_part 5 = .ok (.invokevirtual 107, 3) := by decide +kernel
theorem dX4_part_8 : decode bX4_part 8 = .ok (.aload_n 0, 1) := by decide +kernel
theorem dX4_part_9 : decode bX4_part 9 = .ok (.getfield 110, 3) := by decide +kernel
theorem dX4_part_12 : decode bX4_part 12 = .ok (.istore_n 1, 1) := by decide +kernel
theorem dX4_part_13 : decode bX4_part 13 = .ok (.aload_n 0, 1) := by decide +kernel
theorem dX4_part_14 : decode bX4_part 14 = .ok (.getfield 42, 3) := by decide +kernel
theorem dX4_part_17 : decode bX4_part 17 = .ok (.aload_n 0, 1) := by decide +kernel
theorem dX4_part_18 : decode bX4_part 18 = .ok (.getfield 38, 3) := by decide +kernel
theorem dX4_part_21 : decode bX4_part 21 = .ok (.invokevirtual 113, 3) := by decide +kernel
theorem dX4_part_24 : decode bX4_part 24 = .ok (.aload_n 0, 1) := by decide +kernel
theorem dX4_part_25 : decode bX4_part 25 = .ok (.getfield 42, 3) := by decide +kernel
theorem dX4_part_28 : decode bX4_part 28 = .ok (.iload_n 1, 1) := by decide +kernel
theorem dX4_part_29 : decode bX4_part 29 = .ok (.aload_n 0, 1) := by decide +kernel
theorem dX4_part_30 : decode bX4_part 30 = .ok (.getfield 24, 3) := by decide +kernel
theorem dX4_part_33 : decode bX4_part 33 = .ok (.aload_n 0, 1) := by decide +kernel
theorem dX4_part_34 : decode bX4_part 34 = .ok (.getfield 77, 3) := by decide +kernel
theorem dX4_part_37 : decode bX4_part 37 = .ok (.invokevirtual 117, 3) := by decide +kernel
theorem dX4_part_40 : decode bX4_part 40 = .ok (.aload_n 0, 1) := by decide +kernel
theorem dX4_part_41 : decode bX4_part 41 = .ok (.invokevirtual 121, 3) := by decide +kernel
theorem dX4_part_44 : decode bX4_part 44 = .ok (.aload_n 0, 1) := by decide +kernel
theorem dX4_part_45 : decode bX4_part 45 = .ok (.iload_n 1, 1) := by decide +kernel
theorem dX4_part_46 : decode bX4_part 46 = .ok (.iconst 1, 1) := by decide +kernel
theorem dX4_part_47 : decode bX4_part 47 = .ok (.iadd, 1) := by decide +kernel
theorem dX4_part_48 : decode bX4_part 48 = .ok (.iconst 4, 1) := by decide +kernel
theorem dX4_part_49 : decode bX4_part 49 = .ok (.if_icmp .ge 9, 3) := by decide +kernel
theorem dX4_part_52 : decode bX4_part 52 = .ok (.iload_n 1, 1) := by decide +kernel
theorem dX4_part_53 : decode bX4_part 53 = .ok (.iconst 1, 1) := by decide +kernel
theorem dX4_part_54 : decode bX4_part 54 = .ok (.iadd, 1) := by decide +kernel
theorem dX4_part_55 : decode bX4_part 55 = .ok (.goto 4, 3) := by decide +kernel
theorem dX4_part_58 : decode bX4_part 58 = .ok (.iconst 0, 1) := by decide +kernel
theorem dX4_part_59 : decode bX4_part 59 = .ok (.putfield 110, 3) := by decide +kernel
theorem dX4_part_62 : decode bX4_part 62 = .ok (.iload_n 1, 1) := by decide +kernel
theorem dX4_part_63 : decode bX4_part 63 = .ok (.ireturn, 1) := by decide +kernel
theorem dX4_cut_0 : decode bX4_cut 0 = .ok (.aload_n 0, 1) := by decide +kernel
theorem dX4_cut_1 : decode bX4_cut 1 = .ok (.invokevirtual 49, 3) := by decide +kernel
theorem dX4_cut_4 : decode bX4_cut 4 = .ok (.aload_n 0, 1) := by decide +kernel
theorem dX4_cut_5 : decode bX4_cut 5 = .ok (.invokevirtual 107, 3) := by decide +kernel
theorem dX4_cut_8 : decode bX4_cut 8 = .ok (.aload_n 0, 1) := by decide +kernel
theorem dX4_cut_9 : decode bX4_cut 9 = .ok (.getfield 38, 3) := by decide +kernel
theorem dX4_cut_12 : decode bX4_cut 12 = .ok (.getfield 124, 3) := by decide +kernel
theorem dX4_cut_15 : decode bX4_cut 15 = .ok (.istore_n 1, 1) := by decide +kernel
theorem dX4_cut_16 : decode bX4_cut 16 = .ok (.aload_n 0, 1) := by decide +kernel
theorem dX4_cut_17 : decode bX4_cut 17 = .ok (.getfield 38, 3) := by decide +kernel
theorem dX4_cut_20 : decode bX4_cut 20 = .ok (.getfield 127, 3) := by decide +kernel
theorem dX4_cut_23 : decode bX4_cut 23 = .ok (.istore_n 2, 1) := by decide +kernel
theorem dX4_cut_24 : decode bX4_cut 24 = .ok (.aload_n 0, 1) := by decide +kernel
theorem dX4_cut_25 : decode bX4_cut 25 = .ok (.getfield 38, 3) := by decide +kernel
theorem dX4_cut_28 : decode bX4_cut 28 = .ok (.getfield 130, 3) := by decide +kernel
theorem dX4_cut_31 : decode bX4_cut 31 = .ok (.lstore_n 3, 1) := by decide +kernel
theorem dX4_cut_32 : decode bX4_cut 32 = .ok (.iload_n 1, 1) := by decide +kernel
theorem dX4_cut_33 : decode bX4_cut 33 = .ok (.aload_n 0, 1) := by decide +kernel
theorem dX4_cut_34 : decode bX4_cut 34 = .ok (.getfield 77, 3) := by decide +kernel
theorem dX4_cut_37 : decode bX4_cut 37 = .ok (.if_icmp .ge 64, 3) := by decide +kernel
theorem dX4_cut_40 : decode bX4_cut 40 = .ok (.aload_n 0, 1) := by decide +kernel
theorem dX4_cut_41 : decode bX4_cut 41 = .ok (.getfield 31, 3) := by decide +kernel
theorem dX4_cut_44 : decode bX4_cut 44 = .ok (.aload_n 0, 1) := by decide +kernel
theorem dX4_cut_45 : decode bX4_cut 45 = .ok (.getfield 18, 3) := by decide +kernel
theorem dX4_cut_48 : decode bX4_cut 48 = .ok (.iload_n 2, 1) := by decide +kernel
theorem dX4_cut_49 : decode bX4_cut 49 = .ok (.invokevirtual 133, 3) := by decide +kernel
theorem dX4_cut_52 : decode bX4_cut 52 = .ok (.ifCond .eq 49, 3) := by decide +kernel
theorem dX4_cut_55 : decode bX4_cut 55 = .ok (.aload_n 0, 1) := by decide +kernel
theorem dX4_cut_56 : decode bX4_cut 56 = .ok (.getfield 38, 3) := by decide +kernel
theorem dX4_cut_59 : decode bX4_cut 59 = .ok (.aload_n 0, 1) := by decide +kernel
theorem dX4_cut_60 : decode bX4_cut 60 = .ok (.getfield 31, 3) := by decide +kernel
theorem dX4_cut_63 : decode bX4_cut 63 = .ok (.getfield 137, 3) := by decide +kernel
theorem dX4_cut_66 : decode bX4_cut 66 = .ok (.iload_n 1, 1) := by decide +kernel
theorem dX4_cut_67 : decode bX4_cut 67 = .ok (.invokevirtual 140, 3) := by decide +kernel
theorem dX4_cut_70 : decode bX4_cut 70 = .ok (.ifCond .eq 31, 3) := by decide +kernel
theorem dX4_cut_73 : decode bX4_cut 73 = .ok (.lload_n 3, 1) := by decide +kernel
theorem dX4_cut_74 : decode bX4_cut 74 = .ok (.aload_n 0, 1) := by decide +kernel
theorem dX4_cut_75 : decode bX4_cut 75 = .ok (.getfield 31, 3) := by decide +kernel
theorem dX4_cut_78 : decode bX4_cut 78 = .ok (.getfield 144, 3) := by decide +kernel
theorem dX4_cut_81 : decode bX4_cut 81 = .ok (.invokestatic 93, 3) := by decide +kernel
theorem dX4_cut_84 : decode bX4_cut 84 = .ok (.lstore_n 3, 1) := by decide +kernel
theorem dX4_cut_85 : decode bX4_cut 85 = .ok (.iload_n 2, 1) := by decide +kernel
theorem dX4_cut_86 : decode bX4_cut 86 = .ok (.aload_n 0, 1) := by decide +kernel
theorem dX4_cut_87 : decode bX4_cut 87 = .ok (.getfield 31, 3) := by decide +kernel
theorem dX4_cut_90 : decode bX4_cut 90 = .ok (.invokevirtual 147, 3) := by decide +kernel
theorem dX4_cut_93 : decode bX4_cut 93 = .ok (.iadd, 1) := by decide +kernel
theorem dX4_cut_94 : decode bX4_cut 94 = .ok (.istore_n 2, 1) := by decide +kernel
theorem dX4_cut_95 : decode bX4_cut 95 = .ok (.iinc 1 1, 3) := by decide +kernel
theorem dX4_cut_98 : decode bX4_cut 98 = .ok (.goto (-66), 3) := by decide +kernel
theorem dX4_cut_101 : decode bX4_cut 101 = .ok (.iload_n 1, 1) := by decide +kernel
theorem dX4_cut_102 : decode bX4_cut 102 = .ok (.aload_n 0, 1) := by decide +kernel
theorem dX4_cut_103 : decode bX4_cut 103 = .ok (.getfield 38, 3) := by decide +kernel
theorem dX4_cut_106 : decode bX4_cut 106 = .ok (.getfield 124, 3) := by decide +kernel
theorem dX4_cut_109 : decode bX4_cut 109 = .ok (.isub, 1) := by decide +kernel
theorem dX4_cut_110 : decode bX4_cut 110 = .ok (.istore 5, 2) := by decide +kernel
theorem dX4_cut_112 : decode bX4_cut 112 = .ok (.iload 5, 2) := by decide +kernel
theorem dX4_cut_114 : decode bX4_cut 114 = .ok (.ifCond .le 28, 3) := by decide +kernel
theorem dX4_cut_117 : decode bX4_cut 117 = .ok (.aload_n 0, 1) := by decide +kernel
theorem dX4_cut_118 : decode bX4_cut 118 = .ok (.getfield 42, 3) := by decide +kernel
theorem dX4_cut_121 : decode bX4_cut 121 = .ok (.aload_n 0, 1) := by decide +kernel
theorem dX4_cut_122 : decode bX4_cut 122 = .ok (.getfield 38, 3) := by decide +kernel
theorem dX4_cut_125 : decode bX4_cut 125 = .ok (.invokevirtual 113, 3) := by decide +kernel
theorem dX4_cut_128 : decode bX4_cut 128 = .ok (.aload_n 0, 1) := by decide +kernel
theorem dX4_cut_129 : decode bX4_cut 129 = .ok (.getfield 42, 3) := by decide +kernel
theorem dX4_cut_132 : decode bX4_cut 132 = .ok (.iload_n 1, 1) := by decide +kernel
theorem dX4_cut_133 : decode bX4_cut 133 = .ok (.iload_n 2, 1) := by decide +kernel
theorem dX4_cut_134 : decode bX4_cut 134 = .ok (.lload_n 3, 1) := by decide +kernel
theorem dX4_cut_135 : decode bX4_cut 135 = .ok (.invokevirtual 150, 3) := by decide +kernel
theorem dX4_cut_138 : decode bX4_cut 138 = .ok (.aload_n 0, 1) := by decide +kernel
theorem dX4_cut_139 : decode bX4_cut 139 = .ok (.invokevirtual 121, 3) := by decide +kernel
theorem dX4_cut_142 : decode bX4_cut 142 = .ok (.iload 5, 2) := by decide +kernel
theorem dX4_cut_144 : decode bX4_cut 144 = .ok (.ireturn, 1) := by decide +kernel
theorem dX4_find_0 : decode bX4_find 0 = .ok (.aload_n 0, 1) := by decide +kernel
theorem dX4_find_1 : decode bX4_find 1 = .ok (.invokevirtual 49, 3) := by decide +kernel
theorem dX4_find_4 : decode bX4_find 4 = .ok (.iload_n 1, 1) := by decide +kernel
theorem dX4_find_5 : decode bX4_find 5 = .ok (.invokestatic 71, 3) := by decide +kernel
theorem dX4_find_8 : decode bX4_find 8 = .ok (.aload_n 0, 1) := by decide +kernel
theorem dX4_find_9 : decode bX4_find 9 = .ok (.getfield 24, 3) := by decide +kernel
theorem dX4_find_12 : decode bX4_find 12 = .ok (.iload_n 1, 1) := by decide +kernel
theorem dX4_find_13 : decode bX4_find 13 = .ok (.invokevirtual 154, 3) := by decide +kernel
theorem dX4_find_16 : decode bX4_find 16 = .ok (.istore_n 3, 1) := by decide +kernel
theorem dX4_find_17 : decode bX4_find 17 = .ok (.iload_n 2, 1) := by decide +kernel
theorem dX4_find_18 : decode bX4_find 18 = .ok (.iconst (-1), 1) := by decide +kernel
theorem dX4_find_19 : decode bX4_find 19 = .ok (.if_icmp .ne 5, 3) := by decide +kernel
theorem dX4_find_22 : decode bX4_find 22 = .ok (.iload_n 3, 1) := by decide +kernel
theorem dX4_find_23 : decode bX4_find 23 = .ok (.ireturn, 1) := by decide +kernel
theorem dX4_find_24 : decode bX4_find 24 = .ok (.iload_n 2, 1) := by decide +kernel
theorem dX4_find_25 : decode bX4_find 25 = .ok (.ifCond .lt 8, 3) := by decide +kernel
theorem dX4_find_28 : decode bX4_find 28 = .ok (.iload_n 2, 1) := by decide +kernel
theorem dX4_find_29 : decode bX4_find 29 = .ok (.iload_n 3, 1) := by decide +kernel
theorem dX4_find_30 : decode bX4_find 30 = .ok (.if_icmp .lt 13, 3) := by decide +kernel
theorem dX4_find_33 : decode bX4_find 33 = .ok (.new 158, 3) := by decide +kernel
theorem dX4_find_36 : decode bX4_find 36 = .ok (.dup, 1) := by decide +kernel
theorem dX4_find_37 : decode bX4_find 37 = .ok (.ldc 160, 2) := by decide +kernel
theorem dX4_find_39 : decode bX4_find 39 = .ok (.invokespecial 162, 3) := by decide +kernel
theorem dX4_find_42 : decode bX4_find 42 = .ok (.athrow, 1) := by decide +kernel
theorem dX4_find_43 : decode bX4_find 43 = .ok (.aload_n 0, 1) := by decide +kernel
theorem dX4_find_44 : decode bX4_find 44 = .ok (.getfield 24, 3) := by decide +kernel
theorem dX4_find_47 : decode bX4_find 47 = .ok (.iload_n 1, 1) := by decide +kernel
theorem dX4_find_48 : decode bX4_find 48 = .ok (.iload_n 2, 1) := by decide +kernel
theorem dX4_find_49 : decode bX4_find 49 = .ok (.invokevirtual 163, 3) := by decide +kernel
theorem dX4_find_52 : decode bX4_find 52 = .ok (.ireturn, 1) := by decide +kernel
theorem dX4_day_0 : decode bX4_day 0 = .ok (.aload_n 0, 1) := by decide +kernel
theorem dX4_day_1 : decode bX4_day 1 = .ok (.invokevirtual 49, 3) := by decide +kernel
theorem dX4_day_4 : decode bX4_day 4 = .ok (.iload_n 1, 1) := by decide +kernel
theorem dX4_day_5 : decode bX4_day 5 = .ok (.invokestatic 71, 3) := by decide +kernel
theorem dX4_day_8 : decode bX4_day 8 = .ok (.aload_n 0, 1) := by decide +kernel
theorem dX4_day_9 : decode bX4_day 9 = .ok (.getfield 24, 3) := by decide +kernel
theorem dX4_day_12 : decode bX4_day 12 = .ok (.iload_n 1, 1) := by decide +kernel
theorem dX4_day_13 : decode bX4_day 13 = .ok (.invokevirtual 167, 3) := by decide +kernel
theorem dX4_day_16 : decode bX4_day 16 = .ok (.ireturn, 1) := by decide +kernel
theorem dX4_seal_0 : decode bX4_seal 0 = .ok (.aload_n 0, 1) := by decide +kernel
theorem dX4_seal_1 : decode bX4_seal 1 = .ok (.invokevirtual 49, 3) := by decide +kernel
theorem dX4_seal_4 : decode bX4_seal 4 = .ok (.aload_n 0, 1) := by decide +kernel
theorem dX4_seal_5 : decode bX4_seal 5 = .ok (.getfield 85, 3) := by decide +kernel
theorem dX4_seal_8 : decode bX4_seal 8 = .ok (.lreturn, 1) := by decide +kernel
theorem dX4_crash_0 : decode bX4_crash 0 = .ok (.aload_n 0, 1) := by decide +kernel
theorem dX4_crash_1 : decode bX4_crash 1 = .ok (.invokevirtual 49, 3) := by decide +kernel
theorem dX4_crash_4 : decode bX4_crash 4 = .ok (.iload_n 1, 1) := by decide +kernel
theorem dX4_crash_5 : decode bX4_crash 5 = .ok (.ifCond .lt 19, 3) := by decide +kernel
theorem dX4_crash_8 : decode bX4_crash 8 = .ok (.iload_n 1, 1) := by decide +kernel
theorem dX4_crash_9 : decode bX4_crash 9 = .ok (.aload_n 0, 1) := by decide +kernel
theorem dX4_crash_10 : decode bX4_crash 10 = .ok (.getfield 18, 3) := by decide +kernel
theorem dX4_crash_13 : decode bX4_crash 13 = .ok (.invokevirtual 59, 3) := by decide +kernel
theorem dX4_crash_16 : decode bX4_crash 16 = .ok (.aload_n 0, 1) := by decide +kernel
theorem dX4_crash_17 : decode bX4_crash 17 = .ok (.getfield 170, 3) := by decide +kernel
theorem dX4_crash_20 : decode bX4_crash 20 = .ok (.isub, 1) := by decide +kernel
theorem dX4_crash_21 : decode bX4_crash 21 = .ok (.if_icmp .le 13, 3) := by decide +kernel
theorem dX4_crash_24 : decode bX4_crash 24 = .ok (.new 52, 3) := by decide +kernel
theorem dX4_crash_27 : decode bX4_crash 27 = .ok (.dup, 1) := by decide +kernel
theorem dX4_crash_28 : decode bX4_crash 28 = .ok (.ldc 173, 2) := by decide +kernel
theorem dX4_crash_30 : decode bX4_crash 30 = .ok (.invokespecial 56, 3) := by decide +kernel
theorem dX4_crash_33 : decode bX4_crash 33 = .ok (.athrow, 1) := by decide +kernel
theorem dX4_crash_34 : decode bX4_crash 34 = .ok (.aload_n 0, 1) := by decide +kernel
theorem dX4_crash_35 : decode bX4_crash 35 = .ok (.getfield 18, 3) := by decide +kernel
theorem dX4_crash_38 : decode bX4_crash 38 = .ok (.aload_n 0, 1) := by decide +kernel
theorem dX4_crash_39 : decode bX4_crash 39 = .ok (.getfield 170, 3) := by decide +kernel
theorem dX4_crash_42 : decode bX4_crash 42 = .ok (.iload_n 1, 1) := by decide +kernel
theorem dX4_crash_43 : decode bX4_crash 43 = .ok (.iadd, 1) := by decide +kernel
theorem dX4_crash_44 : decode bX4_crash 44 = .ok (.invokevirtual 101, 3) := by decide +kernel
theorem dX4_crash_47 : decode bX4_crash 47 = .ok (.aload_n 0, 1) := by decide +kernel
theorem dX4_crash_48 : decode bX4_crash 48 = .ok (.iconst 1, 1) := by decide +kernel
theorem dX4_crash_49 : decode bX4_crash 49 = .ok (.putfield 175, 3) := by decide +kernel
theorem dX4_crash_52 : decode bX4_crash 52 = .ok (.aload_n 0, 1) := by decide +kernel
theorem dX4_crash_53 : decode bX4_crash 53 = .ok (.getfield 18, 3) := by decide +kernel
theorem dX4_crash_56 : decode bX4_crash 56 = .ok (.invokevirtual 59, 3) := by decide +kernel
theorem dX4_crash_59 : decode bX4_crash 59 = .ok (.ireturn, 1) := by decide +kernel
theorem dX4_tear_0 : decode bX4_tear 0 = .ok (.aload_n 0, 1) := by decide +kernel
theorem dX4_tear_1 : decode bX4_tear 1 = .ok (.invokevirtual 179, 3) := by decide +kernel
theorem dX4_tear_4 : decode bX4_tear 4 = .ok (.aload_n 0, 1) := by decide +kernel
theorem dX4_tear_5 : decode bX4_tear 5 = .ok (.getfield 38, 3) := by decide +kernel
theorem dX4_tear_8 : decode bX4_tear 8 = .ok (.getfield 182, 3) := by decide +kernel
theorem dX4_tear_11 : decode bX4_tear 11 = .ok (.ifCond .eq 13, 3) := by decide +kernel
theorem dX4_tear_14 : decode bX4_tear 14 = .ok (.aload_n 0, 1) := by decide +kernel
theorem dX4_tear_15 : decode bX4_tear 15 = .ok (.getfield 42, 3) := by decide +kernel
theorem dX4_tear_18 : decode bX4_tear 18 = .ok (.getfield 182, 3) := by decide +kernel
theorem dX4_tear_21 : decode bX4_tear 21 = .ok (.ifCond .ne 13, 3) := by decide +kernel
theorem dX4_tear_24 : decode bX4_tear 24 = .ok (.new 63, 3) := by decide +kernel
theorem dX4_tear_27 : decode bX4_tear 27 = .ok (.dup, 1) := by decide +kernel
theorem dX4_tear_28 : decode bX4_tear 28 = .ok (.ldc 185, 2) := by decide +kernel
theorem dX4_tear_30 : decode bX4_tear 30 = .ok (.invokespecial 67, 3) := by decide +kernel
theorem dX4_tear_33 : decode bX4_tear 33 = .ok (.athrow, 1) := by decide +kernel
theorem dX4_tear_34 : decode bX4_tear 34 = .ok (.aload_n 0, 1) := by decide +kernel
theorem dX4_tear_35 : decode bX4_tear 35 = .ok (.getfield 42, 3) := by decide +kernel
theorem dX4_tear_38 : decode bX4_tear 38 = .ok (.getfield 187, 3) := by decide +kernel
theorem dX4_tear_41 : decode bX4_tear 41 = .ok (.aload_n 0, 1) := by decide +kernel
theorem dX4_tear_42 : decode bX4_tear 42 = .ok (.getfield 38, 3) := by decide +kernel
theorem dX4_tear_45 : decode bX4_tear 45 = .ok (.getfield 187, 3) := by decide +kernel
theorem dX4_tear_48 : decode bX4_tear 48 = .ok (.if_icmp .le 10, 3) := by decide +kernel
theorem dX4_tear_51 : decode bX4_tear 51 = .ok (.aload_n 0, 1) := by decide +kernel
theorem dX4_tear_52 : decode bX4_tear 52 = .ok (.getfield 42, 3) := by decide +kernel
theorem dX4_tear_55 : decode bX4_tear 55 = .ok (.goto 7, 3) := by decide +kernel
theorem dX4_tear_58 : decode bX4_tear 58 = .ok (.aload_n 0, 1) := by decide +kernel
theorem dX4_tear_59 : decode bX4_tear 59 = .ok (.getfield 38, 3) := by decide +kernel
theorem dX4_tear_62 : decode bX4_tear 62 = .ok (.astore_n 1, 1) := by decide +kernel
theorem dX4_tear_63 : decode bX4_tear 63 = .ok (.aload_n 1, 1) := by decide +kernel
theorem dX4_tear_64 : decode bX4_tear 64 = .ok (.iconst 0, 1) := by decide +kernel
theorem dX4_tear_65 : decode bX4_tear 65 = .ok (.putfield 182, 3) := by decide +kernel
theorem dX4_tear_68 : decode bX4_tear 68 = .ok (.aload_n 1, 1) := by decide +kernel
theorem dX4_tear_69 : decode bX4_tear 69 = .ok (.getfield 187, 3) := by decide +kernel
theorem dX4_tear_72 : decode bX4_tear 72 = .ok (.ireturn, 1) := by decide +kernel
theorem dX4_poke_0 : decode bX4_poke 0 = .ok (.aload_n 0, 1) := by decide +kernel
theorem dX4_poke_1 : decode bX4_poke 1 = .ok (.invokevirtual 179, 3) := by decide +kernel
theorem dX4_poke_4 : decode bX4_poke 4 = .ok (.aload_n 0, 1) := by decide +kernel
theorem dX4_poke_5 : decode bX4_poke 5 = .ok (.iload_n 1, 1) := by decide +kernel
theorem dX4_poke_6 : decode bX4_poke 6 = .ok (.invokevirtual 190, 3) := by decide +kernel
theorem dX4_poke_9 : decode bX4_poke 9 = .ok (.iload_n 2, 1) := by decide +kernel
theorem dX4_poke_10 : decode bX4_poke 10 = .ok (.iconst 1, 1) := by decide +kernel
theorem dX4_poke_11 : decode bX4_poke 11 = .ok (.if_icmp .lt 10, 3) := by decide +kernel
theorem dX4_poke_14 : decode bX4_poke 14 = .ok (.iload_n 2, 1) := by decide +kernel
theorem dX4_poke_15 : decode bX4_poke 15 = .ok (.sipush 255, 3) := by decide +kernel
theorem dX4_poke_18 : decode bX4_poke 18 = .ok (.if_icmp .le 13, 3) := by decide +kernel
theorem dX4_poke_21 : decode bX4_poke 21 = .ok (.new 52, 3) := by decide +kernel
theorem dX4_poke_24 : decode bX4_poke 24 = .ok (.dup, 1) := by decide +kernel
theorem dX4_poke_25 : decode bX4_poke 25 = .ok (.ldc 193, 2) := by decide +kernel
theorem dX4_poke_27 : decode bX4_poke 27 = .ok (.invokespecial 56, 3) := by decide +kernel
theorem dX4_poke_30 : decode bX4_poke 30 = .ok (.athrow, 1) := by decide +kernel
theorem dX4_poke_31 : decode bX4_poke 31 = .ok (.aload_n 0, 1) := by decide +kernel
theorem dX4_poke_32 : decode bX4_poke 32 = .ok (.getfield 18, 3) := by decide +kernel
theorem dX4_poke_35 : decode bX4_poke 35 = .ok (.iload_n 1, 1) := by decide +kernel
theorem dX4_poke_36 : decode bX4_poke 36 = .ok (.invokevirtual 195, 3) := by decide +kernel
theorem dX4_poke_39 : decode bX4_poke 39 = .ok (.istore_n 3, 1) := by decide +kernel
theorem dX4_poke_40 : decode bX4_poke 40 = .ok (.aload_n 0, 1) := by decide +kernel
theorem dX4_poke_41 : decode bX4_poke 41 = .ok (.getfield 18, 3) := by decide +kernel
theorem dX4_poke_44 : decode bX4_poke 44 = .ok (.iload_n 1, 1) := by decide +kernel
theorem dX4_poke_45 : decode bX4_poke 45 = .ok (.iload_n 3, 1) := by decide +kernel
theorem dX4_poke_46 : decode bX4_poke 46 = .ok (.iload_n 2, 1) := by decide +kernel
theorem dX4_poke_47 : decode bX4_poke 47 = .ok (.ixor, 1) := by decide +kernel
theorem dX4_poke_48 : decode bX4_poke 48 = .ok (.invokevirtual 198, 3) := by decide +kernel
theorem dX4_poke_51 : decode bX4_poke 51 = .ok (.iload_n 3, 1) := by decide +kernel
theorem dX4_poke_52 : decode bX4_poke 52 = .ok (.ireturn, 1) := by decide +kernel
theorem dX4_reopen_0 : decode bX4_reopen 0 = .ok (.aload_n 0, 1) := by decide +kernel
theorem dX4_reopen_1 : decode bX4_reopen 1 = .ok (.invokevirtual 179, 3) := by decide +kernel
theorem dX4_reopen_4 : decode bX4_reopen 4 = .ok (.aload_n 0, 1) := by decide +kernel
theorem dX4_reopen_5 : decode bX4_reopen 5 = .ok (.getfield 42, 3) := by decide +kernel
theorem dX4_reopen_8 : decode bX4_reopen 8 = .ok (.getfield 182, 3) := by decide +kernel
theorem dX4_reopen_11 : decode bX4_reopen 11 = .ok (.ifCond .eq 34, 3) := by decide +kernel
theorem dX4_reopen_14 : decode bX4_reopen 14 = .ok (.aload_n 0, 1) := by decide +kernel
theorem dX4_reopen_15 : decode bX4_reopen 15 = .ok (.getfield 38, 3) := by decide +kernel
theorem dX4_reopen_18 : decode bX4_reopen 18 = .ok (.getfield 182, 3) := by decide +kernel
theorem dX4_reopen_21 : decode bX4_reopen 21 = .ok (.ifCond .eq 20, 3) := by decide +kernel
theorem dX4_reopen_24 : decode bX4_reopen 24 = .ok (.aload_n 0, 1) := by decide +kernel
theorem dX4_reopen_25 : decode bX4_reopen 25 = .ok (.getfield 42, 3) := by decide +kernel
theorem dX4_reopen_28 : decode bX4_reopen 28 = .ok (.getfield 187, 3) := by decide +kernel
theorem dX4_reopen_31 : decode bX4_reopen 31 = .ok (.aload_n 0, 1) := by decide +kernel
theorem dX4_reopen_32 : decode bX4_reopen 32 = .ok (.getfield 38, 3) := by decide +kernel
theorem dX4_reopen_35 : decode bX4_reopen 35 = .ok (.getfield 187, 3) := by decide +kernel
theorem dX4_reopen_38 : decode bX4_reopen 38 = .ok (.if_icmp .le 7, 3) := by decide +kernel
theorem dX4_reopen_41 : decode bX4_reopen 41 = .ok (.aload_n 0, 1) := by decide +kernel
theorem dX4_reopen_42 : decode bX4_reopen 42 = .ok (.invokevirtual 202, 3) := by decide +kernel
theorem dX4_reopen_45 : decode bX4_reopen 45 = .ok (.aload_n 0, 1) := by decide +kernel
theorem dX4_reopen_46 : decode bX4_reopen 46 = .ok (.getfield 24, 3) := by decide +kernel
theorem dX4_reopen_49 : decode bX4_reopen 49 = .ok (.aload_n 0, 1) := by decide +kernel
theorem dX4_reopen_50 : decode bX4_reopen 50 = .ok (.getfield 38, 3) := by decide +kernel
theorem dX4_reopen_53 : decode bX4_reopen 53 = .ok (.getfield 205, 3) := by decide +kernel
theorem dX4_reopen_56 : decode bX4_reopen 56 = .ok (.invokevirtual 208, 3) := by decide +kernel
theorem dX4_reopen_59 : decode bX4_reopen 59 = .ok (.aload_n 0, 1) := by decide +kernel
theorem dX4_reopen_60 : decode bX4_reopen 60 = .ok (.invokevirtual 212, 3) := by decide +kernel
theorem dX4_reopen_63 : decode bX4_reopen 63 = .ok (.istore_n 1, 1) := by decide +kernel
theorem dX4_reopen_64 : decode bX4_reopen 64 = .ok (.aload_n 0, 1) := by decide +kernel
theorem dX4_reopen_65 : decode bX4_reopen 65 = .ok (.getfield 45, 3) := by decide +kernel
theorem dX4_reopen_68 : decode bX4_reopen 68 = .ok (.iconst (-1), 1) := by decide +kernel
theorem dX4_reopen_69 : decode bX4_reopen 69 = .ok (.if_icmp .eq 7, 3) := by decide +kernel
theorem dX4_reopen_72 : decode bX4_reopen 72 = .ok (.aload_n 0, 1) := by decide +kernel
theorem dX4_reopen_73 : decode bX4_reopen 73 = .ok (.invokevirtual 215, 3) := by decide +kernel
theorem dX4_reopen_76 : decode bX4_reopen 76 = .ok (.aload_n 0, 1) := by decide +kernel
theorem dX4_reopen_77 : decode bX4_reopen 77 = .ok (.invokevirtual 107, 3) := by decide +kernel
theorem dX4_reopen_80 : decode bX4_reopen 80 = .ok (.aload_n 0, 1) := by decide +kernel
theorem dX4_reopen_81 : decode bX4_reopen 81 = .ok (.getfield 14, 3) := by decide +kernel
theorem dX4_reopen_84 : decode bX4_reopen 84 = .ok (.iconst 0, 1) := by decide +kernel
theorem dX4_reopen_85 : decode bX4_reopen 85 = .ok (.invokevirtual 101, 3) := by decide +kernel
theorem dX4_reopen_88 : decode bX4_reopen 88 = .ok (.aload_n 0, 1) := by decide +kernel
theorem dX4_reopen_89 : decode bX4_reopen 89 = .ok (.iconst 0, 1) := by decide +kernel
theorem dX4_reopen_90 : decode bX4_reopen 90 = .ok (.putfield 175, 3) := by decide +kernel
theorem dX4_reopen_93 : decode bX4_reopen 93 = .ok (.iload_n 1, 1) := by decide +kernel
theorem dX4_reopen_94 : decode bX4_reopen 94 = .ok (.ireturn, 1) := by decide +kernel
theorem dX4_badAt_0 : decode bX4_badAt 0 = .ok (.aload_n 0, 1) := by decide +kernel
theorem dX4_badAt_1 : decode bX4_badAt 1 = .ok (.getfield 45, 3) := by decide +kernel
theorem dX4_badAt_4 : decode bX4_badAt 4 = .ok (.ireturn, 1) := by decide +kernel
theorem dX4_stored_0 : decode bX4_stored 0 = .ok (.aload_n 0, 1) := by decide +kernel
theorem dX4_stored_1 : decode bX4_stored 1 = .ok (.iload_n 1, 1) := by decide +kernel
theorem dX4_stored_2 : decode bX4_stored 2 = .ok (.invokevirtual 190, 3) := by decide +kernel
theorem dX4_stored_5 : decode bX4_stored 5 = .ok (.aload_n 0, 1) := by decide +kernel
theorem dX4_stored_6 : decode bX4_stored 6 = .ok (.getfield 18, 3) := by decide +kernel
theorem dX4_stored_9 : decode bX4_stored 9 = .ok (.iload_n 1, 1) := by decide +kernel
theorem dX4_stored_10 : decode bX4_stored 10 = .ok (.invokevirtual 195, 3) := by decide +kernel
theorem dX4_stored_13 : decode bX4_stored 13 = .ok (.ireturn, 1) := by decide +kernel
theorem dX4_head_0 : decode bX4_head 0 = .ok (.iload_n 1, 1) := by decide +kernel
theorem dX4_head_1 : decode bX4_head 1 = .ok (.tableswitch 99 0 7 #[47, 52, 57, 62, 70, 78, 86, 91], 47) := by decide +kernel
theorem dX4_head_48 : decode bX4_head 48 = .ok (.aload_n 0, 1) := by decide +kernel
theorem dX4_head_49 : decode bX4_head 49 = .ok (.getfield 77, 3) := by decide +kernel
theorem dX4_head_52 : decode bX4_head 52 = .ok (.ireturn, 1) := by decide +kernel
theorem dX4_head_53 : decode bX4_head 53 = .ok (.aload_n 0, 1) := by decide +kernel
theorem dX4_head_54 : decode bX4_head 54 = .ok (.getfield 104, 3) := by decide +kernel
theorem dX4_head_57 : decode bX4_head 57 = .ok (.ireturn, 1) := by decide +kernel
theorem dX4_head_58 : decode bX4_head 58 = .ok (.aload_n 0, 1) := by decide +kernel
theorem dX4_head_59 : decode bX4_head 59 = .ok (.getfield 80, 3) := by decide +kernel
theorem dX4_head_62 : decode bX4_head 62 = .ok (.ireturn, 1) := by decide +kernel
theorem dX4_head_63 : decode bX4_head 63 = .ok (.aload_n 0, 1) := by decide +kernel
theorem dX4_head_64 : decode bX4_head 64 = .ok (.getfield 18, 3) := by decide +kernel
theorem dX4_head_67 : decode bX4_head 67 = .ok (.invokevirtual 59, 3) := by decide +kernel
theorem dX4_head_70 : decode bX4_head 70 = .ok (.ireturn, 1) := by decide +kernel
theorem dX4_head_71 : decode bX4_head 71 = .ok (.aload_n 0, 1) := by decide +kernel
theorem dX4_head_72 : decode bX4_head 72 = .ok (.getfield 38, 3) := by decide +kernel
theorem dX4_head_75 : decode bX4_head 75 = .ok (.getfield 187, 3) := by decide +kernel
theorem dX4_head_78 : decode bX4_head 78 = .ok (.ireturn, 1) := by decide +kernel
theorem dX4_head_79 : decode bX4_head 79 = .ok (.aload_n 0, 1) := by decide +kernel
theorem dX4_head_80 : decode bX4_head 80 = .ok (.getfield 38, 3) := by decide +kernel
theorem dX4_head_83 : decode bX4_head 83 = .ok (.getfield 124, 3) := by decide +kernel
theorem dX4_head_86 : decode bX4_head 86 = .ok (.ireturn, 1) := by decide +kernel
theorem dX4_head_87 : decode bX4_head 87 = .ok (.aload_n 0, 1) := by decide +kernel
theorem dX4_head_88 : decode bX4_head 88 = .ok (.getfield 110, 3) := by decide +kernel
theorem dX4_head_91 : decode bX4_head 91 = .ok (.ireturn, 1) := by decide +kernel
theorem dX4_head_92 : decode bX4_head 92 = .ok (.aload_n 0, 1) := by decide +kernel
theorem dX4_head_93 : decode bX4_head 93 = .ok (.getfield 14, 3) := by decide +kernel
theorem dX4_head_96 : decode bX4_head 96 = .ok (.invokevirtual 59, 3) := by decide +kernel
theorem dX4_head_99 : decode bX4_head 99 = .ok (.ireturn, 1) := by decide +kernel
theorem dX4_head_100 : decode bX4_head 100 = .ok (.new 158, 3) := by decide +kernel
theorem dX4_head_103 : decode bX4_head 103 = .ok (.dup, 1) := by decide +kernel
theorem dX4_head_104 : decode bX4_head 104 = .ok (.ldc 218, 2) := by decide +kernel
theorem dX4_head_106 : decode bX4_head 106 = .ok (.invokespecial 162, 3) := by decide +kernel
theorem dX4_head_109 : decode bX4_head 109 = .ok (.athrow, 1) := by decide +kernel
theorem dX4_refuseBehindCut_0 : decode bX4_refuseBehindCut 0 = .ok (.aload_n 0, 1) := by decide +kernel
theorem dX4_refuseBehindCut_1 : decode bX4_refuseBehindCut 1 = .ok (.getfield 175, 3) := by decide +kernel
theorem dX4_refuseBehindCut_4 : decode bX4_refuseBehindCut 4 = .ok (.ifCond .eq 13, 3) := by decide +kernel
theorem dX4_refuseBehindCut_7 : decode bX4_refuseBehindCut 7 = .ok (.new 63, 3) := by decide +kernel
theorem dX4_refuseBehindCut_10 : decode bX4_refuseBehindCut 10 = .ok (.dup, 1) := by decide +kernel
theorem dX4_refuseBehindCut_11 : decode bX4_refuseBehindCut 11 = .ok (.ldc 220, 2) := by decide +kernel
theorem dX4_refuseBehindCut_13 : decode bX4_refuseBehindCut 13 = .ok (.invokespecial 67, 3) := by decide +kernel
theorem dX4_refuseBehindCut_16 : decode bX4_refuseBehindCut 16 = .ok (.athrow, 1) := by decide +kernel
theorem dX4_refuseBehindCut_17 : decode bX4_refuseBehindCut 17 = .ok (.return_, 1) := by decide +kernel
theorem dX4_refuseWithoutCut_0 : decode bX4_refuseWithoutCut 0 = .ok (.aload_n 0, 1) := by decide +kernel
theorem dX4_refuseWithoutCut_1 : decode bX4_refuseWithoutCut 1 = .ok (.getfield 175, 3) := by decide +kernel
theorem dX4_refuseWithoutCut_4 : decode bX4_refuseWithoutCut 4 = .ok (.ifCond .ne 13, 3) := by decide +kernel
theorem dX4_refuseWithoutCut_7 : decode bX4_refuseWithoutCut 7 = .ok (.new 63, 3) := by decide +kernel
theorem dX4_refuseWithoutCut_10 : decode bX4_refuseWithoutCut 10 = .ok (.dup, 1) := by decide +kernel
theorem dX4_refuseWithoutCut_11 : decode bX4_refuseWithoutCut 11 = .ok (.ldc 222, 2) := by decide +kernel
theorem dX4_refuseWithoutCut_13 : decode bX4_refuseWithoutCut 13 = .ok (.invokespecial 67, 3) := by decide +kernel
theorem dX4_refuseWithoutCut_16 : decode bX4_refuseWithoutCut 16 = .ok (.athrow, 1) := by decide +kernel
theorem dX4_refuseWithoutCut_17 : decode bX4_refuseWithoutCut 17 = .ok (.return_, 1) := by decide +kernel
theorem dX4_refuseNoByte_0 : decode bX4_refuseNoByte 0 = .ok (.iload_n 1, 1) := by decide +kernel
theorem dX4_refuseNoByte_1 : decode bX4_refuseNoByte 1 = .ok (.ifCond .lt 14, 3) := by decide +kernel
theorem dX4_refuseNoByte_4 : decode bX4_refuseNoByte 4 = .ok (.iload_n 1, 1) := by decide +kernel
theorem dX4_refuseNoByte_5 : decode bX4_refuseNoByte 5 = .ok (.aload_n 0, 1) := by decide +kernel
theorem dX4_refuseNoByte_6 : decode bX4_refuseNoByte 6 = .ok (.getfield 18, 3) := by decide +kernel
theorem dX4_refuseNoByte_9 : decode bX4_refuseNoByte 9 = .ok (.invokevirtual 59, 3) := by decide +kernel
theorem dX4_refuseNoByte_12 : decode bX4_refuseNoByte 12 = .ok (.if_icmp .lt 13, 3) := by decide +kernel
theorem dX4_refuseNoByte_15 : decode bX4_refuseNoByte 15 = .ok (.new 158, 3) := by decide +kernel
theorem dX4_refuseNoByte_18 : decode bX4_refuseNoByte 18 = .ok (.dup, 1) := by decide +kernel
theorem dX4_refuseNoByte_19 : decode bX4_refuseNoByte 19 = .ok (.ldc 224, 2) := by decide +kernel
theorem dX4_refuseNoByte_21 : decode bX4_refuseNoByte 21 = .ok (.invokespecial 162, 3) := by decide +kernel
theorem dX4_refuseNoByte_24 : decode bX4_refuseNoByte 24 = .ok (.athrow, 1) := by decide +kernel
theorem dX4_refuseNoByte_25 : decode bX4_refuseNoByte 25 = .ok (.return_, 1) := by decide +kernel
theorem dX4_refuseNoThing_0 : decode bX4_refuseNoThing 0 = .ok (.iload_n 0, 1) := by decide +kernel
theorem dX4_refuseNoThing_1 : decode bX4_refuseNoThing 1 = .ok (.ifCond .lt 9, 3) := by decide +kernel
theorem dX4_refuseNoThing_4 : decode bX4_refuseNoThing 4 = .ok (.iload_n 0, 1) := by decide +kernel
theorem dX4_refuseNoThing_5 : decode bX4_refuseNoThing 5 = .ok (.bipush 32, 2) := by decide +kernel
theorem dX4_refuseNoThing_7 : decode bX4_refuseNoThing 7 = .ok (.if_icmp .lt 13, 3) := by decide +kernel
theorem dX4_refuseNoThing_10 : decode bX4_refuseNoThing 10 = .ok (.new 158, 3) := by decide +kernel
theorem dX4_refuseNoThing_13 : decode bX4_refuseNoThing 13 = .ok (.dup, 1) := by decide +kernel
theorem dX4_refuseNoThing_14 : decode bX4_refuseNoThing 14 = .ok (.ldc 226, 2) := by decide +kernel
theorem dX4_refuseNoThing_16 : decode bX4_refuseNoThing 16 = .ok (.invokespecial 162, 3) := by decide +kernel
theorem dX4_refuseNoThing_19 : decode bX4_refuseNoThing 19 = .ok (.athrow, 1) := by decide +kernel
theorem dX4_refuseNoThing_20 : decode bX4_refuseNoThing 20 = .ok (.return_, 1) := by decide +kernel
theorem dX4_mixed_0 : decode bX4_mixed 0 = .ok (.lload_n 0, 1) := by decide +kernel
theorem dX4_mixed_1 : decode bX4_mixed 1 = .ok (.lload_n 2, 1) := by decide +kernel
theorem dX4_mixed_2 : decode bX4_mixed 2 = .ok (.lxor, 1) := by decide +kernel
theorem dX4_mixed_3 : decode bX4_mixed 3 = .ok (.lstore 4, 2) := by decide +kernel
theorem dX4_mixed_5 : decode bX4_mixed 5 = .ok (.lload 4, 2) := by decide +kernel
theorem dX4_mixed_7 : decode bX4_mixed 7 = .ok (.bipush 37, 2) := by decide +kernel
theorem dX4_mixed_9 : decode bX4_mixed 9 = .ok (.lshl, 1) := by decide +kernel
theorem dX4_mixed_10 : decode bX4_mixed 10 = .ok (.lload 4, 2) := by decide +kernel
theorem dX4_mixed_12 : decode bX4_mixed 12 = .ok (.bipush 27, 2) := by decide +kernel
theorem dX4_mixed_14 : decode bX4_mixed 14 = .ok (.lushr, 1) := by decide +kernel
theorem dX4_mixed_15 : decode bX4_mixed 15 = .ok (.lor, 1) := by decide +kernel
theorem dX4_mixed_16 : decode bX4_mixed 16 = .ok (.ldc2_w 228, 3) := by decide +kernel
theorem dX4_mixed_19 : decode bX4_mixed 19 = .ok (.lmul, 1) := by decide +kernel
theorem dX4_mixed_20 : decode bX4_mixed 20 = .ok (.lreturn, 1) := by decide +kernel
theorem dX4_storeAct_0 : decode bX4_storeAct 0 = .ok (.aload_n 0, 1) := by decide +kernel
theorem dX4_storeAct_1 : decode bX4_storeAct 1 = .ok (.getfield 18, 3) := by decide +kernel
theorem dX4_storeAct_4 : decode bX4_storeAct 4 = .ok (.invokevirtual 59, 3) := by decide +kernel
theorem dX4_storeAct_7 : decode bX4_storeAct 7 = .ok (.istore_n 3, 1) := by decide +kernel
theorem dX4_storeAct_8 : decode bX4_storeAct 8 = .ok (.aload_n 0, 1) := by decide +kernel
theorem dX4_storeAct_9 : decode bX4_storeAct 9 = .ok (.getfield 18, 3) := by decide +kernel
theorem dX4_storeAct_12 : decode bX4_storeAct 12 = .ok (.iload_n 1, 1) := by decide +kernel
theorem dX4_storeAct_13 : decode bX4_storeAct 13 = .ok (.invokevirtual 68, 3) := by decide +kernel
theorem dX4_storeAct_16 : decode bX4_storeAct 16 = .ok (.aload_n 0, 1) := by decide +kernel
theorem dX4_storeAct_17 : decode bX4_storeAct 17 = .ok (.getfield 18, 3) := by decide +kernel
theorem dX4_storeAct_20 : decode bX4_storeAct 20 = .ok (.iload_n 2, 1) := by decide +kernel
theorem dX4_storeAct_21 : decode bX4_storeAct 21 = .ok (.i2l, 1) := by decide +kernel
theorem dX4_storeAct_22 : decode bX4_storeAct 22 = .ok (.iconst 4, 1) := by decide +kernel
theorem dX4_storeAct_23 : decode bX4_storeAct 23 = .ok (.invokevirtual 230, 3) := by decide +kernel
theorem dX4_storeAct_26 : decode bX4_storeAct 26 = .ok (.aload_n 0, 1) := by decide +kernel
theorem dX4_storeAct_27 : decode bX4_storeAct 27 = .ok (.getfield 18, 3) := by decide +kernel
theorem dX4_storeAct_30 : decode bX4_storeAct 30 = .ok (.aload_n 0, 1) := by decide +kernel
theorem dX4_storeAct_31 : decode bX4_storeAct 31 = .ok (.getfield 14, 3) := by decide +kernel
theorem dX4_storeAct_34 : decode bX4_storeAct 34 = .ok (.invokevirtual 59, 3) := by decide +kernel
theorem dX4_storeAct_37 : decode bX4_storeAct 37 = .ok (.invokevirtual 68, 3) := by decide +kernel
theorem dX4_storeAct_40 : decode bX4_storeAct 40 = .ok (.iconst 0, 1) := by decide +kernel
theorem dX4_storeAct_41 : decode bX4_storeAct 41 = .ok (.istore 4, 2) := by decide +kernel
theorem dX4_storeAct_43 : decode bX4_storeAct 43 = .ok (.iload 4, 2) := by decide +kernel
theorem dX4_storeAct_45 : decode bX4_storeAct 45 = .ok (.aload_n 0, 1) := by decide +kernel
theorem dX4_storeAct_46 : decode bX4_storeAct 46 = .ok (.getfield 14, 3) := by decide +kernel
theorem dX4_storeAct_49 : decode bX4_storeAct 49 = .ok (.invokevirtual 59, 3) := by decide +kernel
theorem dX4_storeAct_52 : decode bX4_storeAct 52 = .ok (.if_icmp .ge 25, 3) := by decide +kernel
theorem dX4_storeAct_55 : decode bX4_storeAct 55 = .ok (.aload_n 0, 1) := by decide +kernel
theorem dX4_storeAct_56 : decode bX4_storeAct 56 = .ok (.getfield 18, 3) := by decide +kernel
theorem dX4_storeAct_59 : decode bX4_storeAct 59 = .ok (.aload_n 0, 1) := by decide +kernel
theorem dX4_storeAct_60 : decode bX4_storeAct 60 = .ok (.getfield 14, 3) := by decide +kernel
theorem dX4_storeAct_63 : decode bX4_storeAct 63 = .ok (.iload 4, 2) := by decide +kernel
theorem dX4_storeAct_65 : decode bX4_storeAct 65 = .ok (.invokevirtual 195, 3) := by decide +kernel
theorem dX4_storeAct_68 : decode bX4_storeAct 68 = .ok (.invokevirtual 68, 3) := by decide +kernel
theorem dX4_storeAct_71 : decode bX4_storeAct 71 = .ok (.iinc 4 1, 3) := by decide +kernel
theorem dX4_storeAct_74 : decode bX4_storeAct 74 = .ok (.goto (-31), 3) := by decide +kernel
theorem dX4_storeAct_77 : decode bX4_storeAct 77 = .ok (.aload_n 0, 1) := by decide +kernel
theorem dX4_storeAct_78 : decode bX4_storeAct 78 = .ok (.getfield 18, 3) := by decide +kernel
theorem dX4_storeAct_81 : decode bX4_storeAct 81 = .ok (.iload_n 3, 1) := by decide +kernel
theorem dX4_storeAct_82 : decode bX4_storeAct 82 = .ok (.aload_n 0, 1) := by decide +kernel
theorem dX4_storeAct_83 : decode bX4_storeAct 83 = .ok (.getfield 18, 3) := by decide +kernel
theorem dX4_storeAct_86 : decode bX4_storeAct 86 = .ok (.invokevirtual 59, 3) := by decide +kernel
theorem dX4_storeAct_89 : decode bX4_storeAct 89 = .ok (.invokevirtual 234, 3) := by decide +kernel
theorem dX4_storeAct_92 : decode bX4_storeAct 92 = .ok (.lstore 4, 2) := by decide +kernel
theorem dX4_storeAct_94 : decode bX4_storeAct 94 = .ok (.aload_n 0, 1) := by decide +kernel
theorem dX4_storeAct_95 : decode bX4_storeAct 95 = .ok (.getfield 18, 3) := by decide +kernel
theorem dX4_storeAct_98 : decode bX4_storeAct 98 = .ok (.lload 4, 2) := by decide +kernel
theorem dX4_storeAct_100 : decode bX4_storeAct 100 = .ok (.bipush 8, 2) := by decide +kernel
theorem dX4_storeAct_102 : decode bX4_storeAct 102 = .ok (.invokevirtual 230, 3) := by decide +kernel
theorem dX4_storeAct_105 : decode bX4_storeAct 105 = .ok (.lload 4, 2) := by decide +kernel
theorem dX4_storeAct_107 : decode bX4_storeAct 107 = .ok (.lreturn, 1) := by decide +kernel
theorem dX4_acknowledgeAll_0 : decode bX4_acknowledgeAll 0 = .ok (.aload_n 0, 1) := by decide +kernel
theorem dX4_acknowledgeAll_1 : decode bX4_acknowledgeAll 1 = .ok (.aload_n 0, 1) := by decide +kernel
theorem dX4_acknowledgeAll_2 : decode bX4_acknowledgeAll 2 = .ok (.getfield 77, 3) := by decide +kernel
theorem dX4_acknowledgeAll_5 : decode bX4_acknowledgeAll 5 = .ok (.putfield 104, 3) := by decide +kernel
theorem dX4_acknowledgeAll_8 : decode bX4_acknowledgeAll 8 = .ok (.aload_n 0, 1) := by decide +kernel
theorem dX4_acknowledgeAll_9 : decode bX4_acknowledgeAll 9 = .ok (.aload_n 0, 1) := by decide +kernel
theorem dX4_acknowledgeAll_10 : decode bX4_acknowledgeAll 10 = .ok (.getfield 18, 3) := by decide +kernel
theorem dX4_acknowledgeAll_13 : decode bX4_acknowledgeAll 13 = .ok (.invokevirtual 59, 3) := by decide +kernel
theorem dX4_acknowledgeAll_16 : decode bX4_acknowledgeAll 16 = .ok (.putfield 170, 3) := by decide +kernel
theorem dX4_acknowledgeAll_19 : decode bX4_acknowledgeAll 19 = .ok (.return_, 1) := by decide +kernel
theorem dX4_swapHeads_0 : decode bX4_swapHeads 0 = .ok (.aload_n 0, 1) := by decide +kernel
theorem dX4_swapHeads_1 : decode bX4_swapHeads 1 = .ok (.getfield 38, 3) := by decide +kernel
theorem dX4_swapHeads_4 : decode bX4_swapHeads 4 = .ok (.astore_n 1, 1) := by decide +kernel
theorem dX4_swapHeads_5 : decode bX4_swapHeads 5 = .ok (.aload_n 0, 1) := by decide +kernel
theorem dX4_swapHeads_6 : decode bX4_swapHeads 6 = .ok (.aload_n 0, 1) := by decide +kernel
