theorem dX5_newHead_0 : decode bX5_newHead 0 = .ok (.iconst 1, 1) := by decide +kernel
theorem dX5_newHead_1 : decode bX5_newHead 1 = .ok (.aload_n 0, 1) := by decide +kernel
theorem dX5_newHead_2 : decode bX5_newHead 2 = .ok (.getfield 48, 3) := by decide +kernel
theorem dX5_newHead_5 : decode bX5_newHead 5 = .ok (.isub, 1) := by decide +kernel
theorem dX5_newHead_6 : decode bX5_newHead 6 = .ok (.istore_n 1, 1) := by decide +kernel
theorem dX5_newHead_7 : decode bX5_newHead 7 = .ok (.aload_n 0, 1) := by decide +kernel
theorem dX5_newHead_8 : decode bX5_newHead 8 = .ok (.getfield 51, 3) := by decide +kernel
theorem dX5_newHead_11 : decode bX5_newHead 11 = .ok (.iload_n 1, 1) := by decide +kernel
theorem dX5_newHead_12 : decode bX5_newHead 12 = .ok (.aload_n 0, 1) := by decide +kernel
theorem dX5_newHead_13 : decode bX5_newHead 13 = .ok (.getfield 51, 3) := by decide +kernel
theorem dX5_newHead_16 : decode bX5_newHead 16 = .ok (.aload_n 0, 1) := by decide +kernel
theorem dX5_newHead_17 : decode bX5_newHead 17 = .ok (.getfield 48, 3) := by decide +kernel
theorem dX5_newHead_20 : decode bX5_newHead 20 = .ok (.iaload, 1) := by decide +kernel
theorem dX5_newHead_21 : decode bX5_newHead 21 = .ok (.iconst 1, 1) := by decide +kernel
theorem dX5_newHead_22 : decode bX5_newHead 22 = .ok (.iadd, 1) := by decide +kernel
theorem dX5_newHead_23 : decode bX5_newHead 23 = .ok (.iastore, 1) := by decide +kernel
theorem dX5_newHead_24 : decode bX5_newHead 24 = .ok (.aload_n 0, 1) := by decide +kernel
theorem dX5_newHead_25 : decode bX5_newHead 25 = .ok (.getfield 54, 3) := by decide +kernel
theorem dX5_newHead_28 : decode bX5_newHead 28 = .ok (.iload_n 1, 1) := by decide +kernel
theorem dX5_newHead_29 : decode bX5_newHead 29 = .ok (.aload_n 0, 1) := by decide +kernel
theorem dX5_newHead_30 : decode bX5_newHead 30 = .ok (.getfield 54, 3) := by decide +kernel
theorem dX5_newHead_33 : decode bX5_newHead 33 = .ok (.aload_n 0, 1) := by decide +kernel
theorem dX5_newHead_34 : decode bX5_newHead 34 = .ok (.getfield 48, 3) := by decide +kernel
theorem dX5_newHead_37 : decode bX5_newHead 37 = .ok (.iaload, 1) := by decide +kernel
theorem dX5_newHead_38 : decode bX5_newHead 38 = .ok (.iastore, 1) := by decide +kernel
theorem dX5_newHead_39 : decode bX5_newHead 39 = .ok (.aload_n 0, 1) := by decide +kernel
theorem dX5_newHead_40 : decode bX5_newHead 40 = .ok (.getfield 57, 3) := by decide +kernel
theorem dX5_newHead_43 : decode bX5_newHead 43 = .ok (.iload_n 1, 1) := by decide +kernel
theorem dX5_newHead_44 : decode bX5_newHead 44 = .ok (.aload_n 0, 1) := by decide +kernel
theorem dX5_newHead_45 : decode bX5_newHead 45 = .ok (.getfield 57, 3) := by decide +kernel
theorem dX5_newHead_48 : decode bX5_newHead 48 = .ok (.aload_n 0, 1) := by decide +kernel
theorem dX5_newHead_49 : decode bX5_newHead 49 = .ok (.getfield 48, 3) := by decide +kernel
theorem dX5_newHead_52 : decode bX5_newHead 52 = .ok (.laload, 1) := by decide +kernel
theorem dX5_newHead_53 : decode bX5_newHead 53 = .ok (.lastore, 1) := by decide +kernel
theorem dX5_newHead_54 : decode bX5_newHead 54 = .ok (.aload_n 0, 1) := by decide +kernel
theorem dX5_newHead_55 : decode bX5_newHead 55 = .ok (.getfield 61, 3) := by decide +kernel
theorem dX5_newHead_58 : decode bX5_newHead 58 = .ok (.iload_n 1, 1) := by decide +kernel
theorem dX5_newHead_59 : decode bX5_newHead 59 = .ok (.iconst 1, 1) := by decide +kernel
theorem dX5_newHead_60 : decode bX5_newHead 60 = .ok (.bastore, 1) := by decide +kernel
theorem dX5_newHead_61 : decode bX5_newHead 61 = .ok (.iconst 0, 1) := by decide +kernel
theorem dX5_newHead_62 : decode bX5_newHead 62 = .ok (.istore_n 2, 1) := by decide +kernel
theorem dX5_newHead_63 : decode bX5_newHead 63 = .ok (.iload_n 2, 1) := by decide +kernel
theorem dX5_newHead_64 : decode bX5_newHead 64 = .ok (.iconst 4, 1) := by decide +kernel
theorem dX5_newHead_65 : decode bX5_newHead 65 = .ok (.if_icmp .ge 32, 3) := by decide +kernel
theorem dX5_newHead_68 : decode bX5_newHead 68 = .ok (.aload_n 0, 1) := by decide +kernel
theorem dX5_newHead_69 : decode bX5_newHead 69 = .ok (.getfield 65, 3) := by decide +kernel
theorem dX5_newHead_72 : decode bX5_newHead 72 = .ok (.iconst 4, 1) := by decide +kernel
theorem dX5_newHead_73 : decode bX5_newHead 73 = .ok (.iload_n 1, 1) := by decide +kernel
theorem dX5_newHead_74 : decode bX5_newHead 74 = .ok (.imul, 1) := by decide +kernel
theorem dX5_newHead_75 : decode bX5_newHead 75 = .ok (.iload_n 2, 1) := by decide +kernel
theorem dX5_newHead_76 : decode bX5_newHead 76 = .ok (.iadd, 1) := by decide +kernel
theorem dX5_newHead_77 : decode bX5_newHead 77 = .ok (.aload_n 0, 1) := by decide +kernel
theorem dX5_newHead_78 : decode bX5_newHead 78 = .ok (.getfield 65, 3) := by decide +kernel
theorem dX5_newHead_81 : decode bX5_newHead 81 = .ok (.iconst 4, 1) := by decide +kernel
theorem dX5_newHead_82 : decode bX5_newHead 82 = .ok (.aload_n 0, 1) := by decide +kernel
theorem dX5_newHead_83 : decode bX5_newHead 83 = .ok (.getfield 48, 3) := by decide +kernel
theorem dX5_newHead_86 : decode bX5_newHead 86 = .ok (.imul, 1) := by decide +kernel
theorem dX5_newHead_87 : decode bX5_newHead 87 = .ok (.iload_n 2, 1) := by decide +kernel
theorem dX5_newHead_88 : decode bX5_newHead 88 = .ok (.iadd, 1) := by decide +kernel
theorem dX5_newHead_89 : decode bX5_newHead 89 = .ok (.iaload, 1) := by decide +kernel
theorem dX5_newHead_90 : decode bX5_newHead 90 = .ok (.iastore, 1) := by decide +kernel
theorem dX5_newHead_91 : decode bX5_newHead 91 = .ok (.iinc 2 1, 3) := by decide +kernel
theorem dX5_newHead_94 : decode bX5_newHead 94 = .ok (.goto (-31), 3) := by decide +kernel
theorem dX5_newHead_97 : decode bX5_newHead 97 = .ok (.iconst 0, 1) := by decide +kernel
theorem dX5_newHead_98 : decode bX5_newHead 98 = .ok (.istore_n 2, 1) := by decide +kernel
theorem dX5_newHead_99 : decode bX5_newHead 99 = .ok (.iload_n 2, 1) := by decide +kernel
theorem dX5_newHead_100 : decode bX5_newHead 100 = .ok (.bipush 32, 2) := by decide +kernel
theorem dX5_newHead_102 : decode bX5_newHead 102 = .ok (.if_icmp .ge 28, 3) := by decide +kernel
theorem dX5_newHead_105 : decode bX5_newHead 105 = .ok (.aload_n 0, 1) := by decide +kernel
theorem dX5_newHead_106 : decode bX5_newHead 106 = .ok (.bipush 32, 2) := by decide +kernel
theorem dX5_newHead_108 : decode bX5_newHead 108 = .ok (.aload_n 0, 1) := by decide +kernel
theorem dX5_newHead_109 : decode bX5_newHead 109 = .ok (.getfield 48, 3) := by decide +kernel
theorem dX5_newHead_112 : decode bX5_newHead 112 = .ok (.imul, 1) := by decide +kernel
theorem dX5_newHead_113 : decode bX5_newHead 113 = .ok (.iload_n 2, 1) := by decide +kernel
theorem dX5_newHead_114 : decode bX5_newHead 114 = .ok (.iadd, 1) := by decide +kernel
theorem dX5_newHead_115 : decode bX5_newHead 115 = .ok (.bipush 32, 2) := by decide +kernel
theorem dX5_newHead_117 : decode bX5_newHead 117 = .ok (.iload_n 1, 1) := by decide +kernel
theorem dX5_newHead_118 : decode bX5_newHead 118 = .ok (.imul, 1) := by decide +kernel
theorem dX5_newHead_119 : decode bX5_newHead 119 = .ok (.iload_n 2, 1) := by decide +kernel
theorem dX5_newHead_120 : decode bX5_newHead 120 = .ok (.iadd, 1) := by decide +kernel
theorem dX5_newHead_121 : decode bX5_newHead 121 = .ok (.invokevirtual 92, 3) := by decide +kernel
theorem dX5_newHead_124 : decode bX5_newHead 124 = .ok (.iinc 2 1, 3) := by decide +kernel
theorem dX5_newHead_127 : decode bX5_newHead 127 = .ok (.goto (-28), 3) := by decide +kernel
theorem dX5_newHead_130 : decode bX5_newHead 130 = .ok (.aload_n 0, 1) := by decide +kernel
theorem dX5_newHead_131 : decode bX5_newHead 131 = .ok (.iload_n 1, 1) := by decide +kernel
theorem dX5_newHead_132 : decode bX5_newHead 132 = .ok (.putfield 48, 3) := by decide +kernel
theorem dX5_newHead_135 : decode bX5_newHead 135 = .ok (.return_, 1) := by decide +kernel
theorem dX5_sealTo_0 : decode bX5_sealTo 0 = .ok (.aload_n 0, 1) := by decide +kernel
theorem dX5_sealTo_1 : decode bX5_sealTo 1 = .ok (.getfield 57, 3) := by decide +kernel
theorem dX5_sealTo_4 : decode bX5_sealTo 4 = .ok (.aload_n 0, 1) := by decide +kernel
theorem dX5_sealTo_5 : decode bX5_sealTo 5 = .ok (.getfield 48, 3) := by decide +kernel
theorem dX5_sealTo_8 : decode bX5_sealTo 8 = .ok (.laload, 1) := by decide +kernel
theorem dX5_sealTo_9 : decode bX5_sealTo 9 = .ok (.lstore_n 2, 1) := by decide +kernel
theorem dX5_sealTo_10 : decode bX5_sealTo 10 = .ok (.aload_n 0, 1) := by decide +kernel
theorem dX5_sealTo_11 : decode bX5_sealTo 11 = .ok (.getfield 54, 3) := by decide +kernel
theorem dX5_sealTo_14 : decode bX5_sealTo 14 = .ok (.aload_n 0, 1) := by decide +kernel
theorem dX5_sealTo_15 : decode bX5_sealTo 15 = .ok (.getfield 48, 3) := by decide +kernel
theorem dX5_sealTo_18 : decode bX5_sealTo 18 = .ok (.iaload, 1) := by decide +kernel
theorem dX5_sealTo_19 : decode bX5_sealTo 19 = .ok (.istore 4, 2) := by decide +kernel
theorem dX5_sealTo_21 : decode bX5_sealTo 21 = .ok (.iload 4, 2) := by decide +kernel
theorem dX5_sealTo_23 : decode bX5_sealTo 23 = .ok (.iload_n 1, 1) := by decide +kernel
theorem dX5_sealTo_24 : decode bX5_sealTo 24 = .ok (.if_icmp .ge 46, 3) := by decide +kernel
theorem dX5_sealTo_27 : decode bX5_sealTo 27 = .ok (.aload_n 0, 1) := by decide +kernel
theorem dX5_sealTo_28 : decode bX5_sealTo 28 = .ok (.getfield 26, 3) := by decide +kernel
theorem dX5_sealTo_31 : decode bX5_sealTo 31 = .ok (.iload 4, 2) := by decide +kernel
theorem dX5_sealTo_33 : decode bX5_sealTo 33 = .ok (.aload_n 0, 1) := by decide +kernel
theorem dX5_sealTo_34 : decode bX5_sealTo 34 = .ok (.getfield 29, 3) := by decide +kernel
theorem dX5_sealTo_37 : decode bX5_sealTo 37 = .ok (.isub, 1) := by decide +kernel
theorem dX5_sealTo_38 : decode bX5_sealTo 38 = .ok (.iaload, 1) := by decide +kernel
theorem dX5_sealTo_39 : decode bX5_sealTo 39 = .ok (.istore 5, 2) := by decide +kernel
theorem dX5_sealTo_41 : decode bX5_sealTo 41 = .ok (.lload_n 2, 1) := by decide +kernel
theorem dX5_sealTo_42 : decode bX5_sealTo 42 = .ok (.aload_n 0, 1) := by decide +kernel
theorem dX5_sealTo_43 : decode bX5_sealTo 43 = .ok (.iload 5, 2) := by decide +kernel
theorem dX5_sealTo_45 : decode bX5_sealTo 45 = .ok (.aload_n 0, 1) := by decide +kernel
theorem dX5_sealTo_46 : decode bX5_sealTo 46 = .ok (.iload 5, 2) := by decide +kernel
theorem dX5_sealTo_48 : decode bX5_sealTo 48 = .ok (.invokevirtual 96, 3) := by decide +kernel
theorem dX5_sealTo_51 : decode bX5_sealTo 51 = .ok (.iadd, 1) := by decide +kernel
theorem dX5_sealTo_52 : decode bX5_sealTo 52 = .ok (.bipush 8, 2) := by decide +kernel
theorem dX5_sealTo_54 : decode bX5_sealTo 54 = .ok (.isub, 1) := by decide +kernel
theorem dX5_sealTo_55 : decode bX5_sealTo 55 = .ok (.bipush 8, 2) := by decide +kernel
theorem dX5_sealTo_57 : decode bX5_sealTo 57 = .ok (.invokevirtual 83, 3) := by decide +kernel
theorem dX5_sealTo_60 : decode bX5_sealTo 60 = .ok (.invokestatic 79, 3) := by decide +kernel
theorem dX5_sealTo_63 : decode bX5_sealTo 63 = .ok (.lstore_n 2, 1) := by decide +kernel
theorem dX5_sealTo_64 : decode bX5_sealTo 64 = .ok (.iinc 4 1, 3) := by decide +kernel
theorem dX5_sealTo_67 : decode bX5_sealTo 67 = .ok (.goto (-46), 3) := by decide +kernel
theorem dX5_sealTo_70 : decode bX5_sealTo 70 = .ok (.lload_n 2, 1) := by decide +kernel
theorem dX5_sealTo_71 : decode bX5_sealTo 71 = .ok (.lreturn, 1) := by decide +kernel
theorem dX5_thrown_0 : decode bX5_thrown 0 = .ok (.aload_n 0, 1) := by decide +kernel
theorem dX5_thrown_1 : decode bX5_thrown 1 = .ok (.getfield 7, 3) := by decide +kernel
theorem dX5_thrown_4 : decode bX5_thrown 4 = .ok (.ireturn, 1) := by decide +kernel
theorem dX5_none_0 : decode bX5_none 0 = .ok (.iload_n 0, 1) := by decide +kernel
theorem dX5_none_1 : decode bX5_none 1 = .ok (.ifCond .lt 8, 3) := by decide +kernel
theorem dX5_none_4 : decode bX5_none 4 = .ok (.iload_n 0, 1) := by decide +kernel
theorem dX5_none_5 : decode bX5_none 5 = .ok (.iload_n 1, 1) := by decide +kernel
theorem dX5_none_6 : decode bX5_none 6 = .ok (.if_icmp .lt 7, 3) := by decide +kernel
theorem dX5_none_9 : decode bX5_none 9 = .ok (.iconst 1, 1) := by decide +kernel
theorem dX5_none_10 : decode bX5_none 10 = .ok (.goto 4, 3) := by decide +kernel
theorem dX5_none_13 : decode bX5_none 13 = .ok (.iconst 0, 1) := by decide +kernel
theorem dX5_none_14 : decode bX5_none 14 = .ok (.ireturn, 1) := by decide +kernel
theorem dX5_feed_0 : decode bX5_feed 0 = .ok (.aload_n 0, 1) := by decide +kernel
theorem dX5_feed_1 : decode bX5_feed 1 = .ok (.aload_n 0, 1) := by decide +kernel
theorem dX5_feed_2 : decode bX5_feed 2 = .ok (.getfield 38, 3) := by decide +kernel
theorem dX5_feed_5 : decode bX5_feed 5 = .ok (.ifCond .eq 7, 3) := by decide +kernel
theorem dX5_feed_8 : decode bX5_feed 8 = .ok (.iconst 2, 1) := by decide +kernel
theorem dX5_feed_9 : decode bX5_feed 9 = .ok (.goto 31, 3) := by decide +kernel
theorem dX5_feed_12 : decode bX5_feed 12 = .ok (.iload_n 1, 1) := by decide +kernel
theorem dX5_feed_13 : decode bX5_feed 13 = .ok (.sipush 256, 3) := by decide +kernel
theorem dX5_feed_16 : decode bX5_feed 16 = .ok (.invokestatic 100, 3) := by decide +kernel
theorem dX5_feed_19 : decode bX5_feed 19 = .ok (.ifCond .eq 7, 3) := by decide +kernel
theorem dX5_feed_22 : decode bX5_feed 22 = .ok (.iconst 1, 1) := by decide +kernel
theorem dX5_feed_23 : decode bX5_feed 23 = .ok (.goto 17, 3) := by decide +kernel
theorem dX5_feed_26 : decode bX5_feed 26 = .ok (.aload_n 0, 1) := by decide +kernel
theorem dX5_feed_27 : decode bX5_feed 27 = .ok (.getfield 17, 3) := by decide +kernel
theorem dX5_feed_30 : decode bX5_feed 30 = .ok (.bipush 24, 2) := by decide +kernel
theorem dX5_feed_32 : decode bX5_feed 32 = .ok (.if_icmp .ne 7, 3) := by decide +kernel
theorem dX5_feed_35 : decode bX5_feed 35 = .ok (.iconst 2, 1) := by decide +kernel
theorem dX5_feed_36 : decode bX5_feed 36 = .ok (.goto 4, 3) := by decide +kernel
theorem dX5_feed_39 : decode bX5_feed 39 = .ok (.iconst 0, 1) := by decide +kernel
theorem dX5_feed_40 : decode bX5_feed 40 = .ok (.putfield 7, 3) := by decide +kernel
theorem dX5_feed_43 : decode bX5_feed 43 = .ok (.aload_n 0, 1) := by decide +kernel
theorem dX5_feed_44 : decode bX5_feed 44 = .ok (.getfield 7, 3) := by decide +kernel
theorem dX5_feed_47 : decode bX5_feed 47 = .ok (.ifCond .eq 5, 3) := by decide +kernel
theorem dX5_feed_50 : decode bX5_feed 50 = .ok (.iconst 0, 1) := by decide +kernel
theorem dX5_feed_51 : decode bX5_feed 51 = .ok (.ireturn, 1) := by decide +kernel
theorem dX5_feed_52 : decode bX5_feed 52 = .ok (.aload_n 0, 1) := by decide +kernel
theorem dX5_feed_53 : decode bX5_feed 53 = .ok (.getfield 13, 3) := by decide +kernel
theorem dX5_feed_56 : decode bX5_feed 56 = .ok (.aload_n 0, 1) := by decide +kernel
theorem dX5_feed_57 : decode bX5_feed 57 = .ok (.getfield 17, 3) := by decide +kernel
theorem dX5_feed_60 : decode bX5_feed 60 = .ok (.iload_n 1, 1) := by decide +kernel
theorem dX5_feed_61 : decode bX5_feed 61 = .ok (.iastore, 1) := by decide +kernel
theorem dX5_feed_62 : decode bX5_feed 62 = .ok (.aload_n 0, 1) := by decide +kernel
theorem dX5_feed_63 : decode bX5_feed 63 = .ok (.dup, 1) := by decide +kernel
theorem dX5_feed_64 : decode bX5_feed 64 = .ok (.getfield 17, 3) := by decide +kernel
theorem dX5_feed_67 : decode bX5_feed 67 = .ok (.iconst 1, 1) := by decide +kernel
theorem dX5_feed_68 : decode bX5_feed 68 = .ok (.iadd, 1) := by decide +kernel
theorem dX5_feed_69 : decode bX5_feed 69 = .ok (.putfield 17, 3) := by decide +kernel
theorem dX5_feed_72 : decode bX5_feed 72 = .ok (.aload_n 0, 1) := by decide +kernel
theorem dX5_feed_73 : decode bX5_feed 73 = .ok (.getfield 17, 3) := by decide +kernel
theorem dX5_feed_76 : decode bX5_feed 76 = .ok (.ireturn, 1) := by decide +kernel
theorem dX5_write_0 : decode bX5_write 0 = .ok (.iload_n 3, 1) := by decide +kernel
theorem dX5_write_1 : decode bX5_write 1 = .ok (.iconst 1, 1) := by decide +kernel
theorem dX5_write_2 : decode bX5_write 2 = .ok (.isub, 1) := by decide +kernel
theorem dX5_write_3 : decode bX5_write 3 = .ok (.istore 4, 2) := by decide +kernel
theorem dX5_write_5 : decode bX5_write 5 = .ok (.iload 4, 2) := by decide +kernel
theorem dX5_write_7 : decode bX5_write 7 = .ok (.ifCond .lt 40, 3) := by decide +kernel
theorem dX5_write_10 : decode bX5_write 10 = .ok (.aload_n 0, 1) := by decide +kernel
theorem dX5_write_11 : decode bX5_write 11 = .ok (.getfield 20, 3) := by decide +kernel
theorem dX5_write_14 : decode bX5_write 14 = .ok (.aload_n 0, 1) := by decide +kernel
theorem dX5_write_15 : decode bX5_write 15 = .ok (.getfield 23, 3) := by decide +kernel
theorem dX5_write_18 : decode bX5_write 18 = .ok (.lload_n 1, 1) := by decide +kernel
theorem dX5_write_19 : decode bX5_write 19 = .ok (.bipush 8, 2) := by decide +kernel
theorem dX5_write_21 : decode bX5_write 21 = .ok (.iload 4, 2) := by decide +kernel
theorem dX5_write_23 : decode bX5_write 23 = .ok (.imul, 1) := by decide +kernel
theorem dX5_write_24 : decode bX5_write 24 = .ok (.lushr, 1) := by decide +kernel
theorem dX5_write_25 : decode bX5_write 25 = .ok (.l2i, 1) := by decide +kernel
theorem dX5_write_26 : decode bX5_write 26 = .ok (.sipush 255, 3) := by decide +kernel
theorem dX5_write_29 : decode bX5_write 29 = .ok (.iand, 1) := by decide +kernel
theorem dX5_write_30 : decode bX5_write 30 = .ok (.iastore, 1) := by decide +kernel
theorem dX5_write_31 : decode bX5_write 31 = .ok (.aload_n 0, 1) := by decide +kernel
theorem dX5_write_32 : decode bX5_write 32 = .ok (.dup, 1) := by decide +kernel
theorem dX5_write_33 : decode bX5_write 33 = .ok (.getfield 23, 3) := by decide +kernel
theorem dX5_write_36 : decode bX5_write 36 = .ok (.iconst 1, 1) := by decide +kernel
theorem dX5_write_37 : decode bX5_write 37 = .ok (.iadd, 1) := by decide +kernel
theorem dX5_write_38 : decode bX5_write 38 = .ok (.putfield 23, 3) := by decide +kernel
theorem dX5_write_41 : decode bX5_write 41 = .ok (.iinc 4 (-1), 3) := by decide +kernel
theorem dX5_write_44 : decode bX5_write 44 = .ok (.goto (-39), 3) := by decide +kernel
theorem dX5_write_47 : decode bX5_write 47 = .ok (.return_, 1) := by decide +kernel
theorem dX5_act_0 : decode bX5_act 0 = .ok (.aload_n 0, 1) := by decide +kernel
theorem dX5_act_1 : decode bX5_act 1 = .ok (.aload_n 0, 1) := by decide +kernel
theorem dX5_act_2 : decode bX5_act 2 = .ok (.getfield 38, 3) := by decide +kernel
theorem dX5_act_5 : decode bX5_act 5 = .ok (.ifCond .eq 7, 3) := by decide +kernel
theorem dX5_act_8 : decode bX5_act 8 = .ok (.iconst 3, 1) := by decide +kernel
theorem dX5_act_9 : decode bX5_act 9 = .ok (.goto 48, 3) := by decide +kernel
theorem dX5_act_12 : decode bX5_act 12 = .ok (.iload_n 1, 1) := by decide +kernel
theorem dX5_act_13 : decode bX5_act 13 = .ok (.bipush 32, 2) := by decide +kernel
theorem dX5_act_15 : decode bX5_act 15 = .ok (.invokestatic 100, 3) := by decide +kernel
theorem dX5_act_18 : decode bX5_act 18 = .ok (.ifCond .eq 7, 3) := by decide +kernel
theorem dX5_act_21 : decode bX5_act 21 = .ok (.iconst 1, 1) := by decide +kernel
theorem dX5_act_22 : decode bX5_act 22 = .ok (.goto 35, 3) := by decide +kernel
theorem dX5_act_25 : decode bX5_act 25 = .ok (.iload_n 2, 1) := by decide +kernel
theorem dX5_act_26 : decode bX5_act 26 = .ok (.ldc 104, 2) := by decide +kernel
theorem dX5_act_28 : decode bX5_act 28 = .ok (.invokestatic 100, 3) := by decide +kernel
theorem dX5_act_31 : decode bX5_act 31 = .ok (.ifCond .eq 7, 3) := by decide +kernel
theorem dX5_act_34 : decode bX5_act 34 = .ok (.iconst 2, 1) := by decide +kernel
theorem dX5_act_35 : decode bX5_act 35 = .ok (.goto 22, 3) := by decide +kernel
theorem dX5_act_38 : decode bX5_act 38 = .ok (.aload_n 0, 1) := by decide +kernel
theorem dX5_act_39 : decode bX5_act 39 = .ok (.getfield 32, 3) := by decide +kernel
theorem dX5_act_42 : decode bX5_act 42 = .ok (.aload_n 0, 1) := by decide +kernel
theorem dX5_act_43 : decode bX5_act 43 = .ok (.getfield 29, 3) := by decide +kernel
theorem dX5_act_46 : decode bX5_act 46 = .ok (.isub, 1) := by decide +kernel
theorem dX5_act_47 : decode bX5_act 47 = .ok (.bipush 64, 2) := by decide +kernel
theorem dX5_act_49 : decode bX5_act 49 = .ok (.if_icmp .ne 7, 3) := by decide +kernel
theorem dX5_act_52 : decode bX5_act 52 = .ok (.iconst 3, 1) := by decide +kernel
theorem dX5_act_53 : decode bX5_act 53 = .ok (.goto 4, 3) := by decide +kernel
theorem dX5_act_56 : decode bX5_act 56 = .ok (.iconst 0, 1) := by decide +kernel
theorem dX5_act_57 : decode bX5_act 57 = .ok (.putfield 7, 3) := by decide +kernel
theorem dX5_act_60 : decode bX5_act 60 = .ok (.aload_n 0, 1) := by decide +kernel
theorem dX5_act_61 : decode bX5_act 61 = .ok (.getfield 7, 3) := by decide +kernel
theorem dX5_act_64 : decode bX5_act 64 = .ok (.ifCond .eq 5, 3) := by decide +kernel
theorem dX5_act_67 : decode bX5_act 67 = .ok (.iconst 0, 1) := by decide +kernel
theorem dX5_act_68 : decode bX5_act 68 = .ok (.ireturn, 1) := by decide +kernel
theorem dX5_act_69 : decode bX5_act 69 = .ok (.aload_n 0, 1) := by decide +kernel
theorem dX5_act_70 : decode bX5_act 70 = .ok (.getfield 23, 3) := by decide +kernel
theorem dX5_act_73 : decode bX5_act 73 = .ok (.istore_n 3, 1) := by decide +kernel
theorem dX5_act_74 : decode bX5_act 74 = .ok (.aload_n 0, 1) := by decide +kernel
theorem dX5_act_75 : decode bX5_act 75 = .ok (.iload_n 1, 1) := by decide +kernel
theorem dX5_act_76 : decode bX5_act 76 = .ok (.i2l, 1) := by decide +kernel
theorem dX5_act_77 : decode bX5_act 77 = .ok (.iconst 1, 1) := by decide +kernel
theorem dX5_act_78 : decode bX5_act 78 = .ok (.invokevirtual 105, 3) := by decide +kernel
theorem dX5_act_81 : decode bX5_act 81 = .ok (.aload_n 0, 1) := by decide +kernel
theorem dX5_act_82 : decode bX5_act 82 = .ok (.iload_n 2, 1) := by decide +kernel
theorem dX5_act_83 : decode bX5_act 83 = .ok (.i2l, 1) := by decide +kernel
theorem dX5_act_84 : decode bX5_act 84 = .ok (.iconst 4, 1) := by decide +kernel
theorem dX5_act_85 : decode bX5_act 85 = .ok (.invokevirtual 105, 3) := by decide +kernel
theorem dX5_act_88 : decode bX5_act 88 = .ok (.aload_n 0, 1) := by decide +kernel
theorem dX5_act_89 : decode bX5_act 89 = .ok (.aload_n 0, 1) := by decide +kernel
theorem dX5_act_90 : decode bX5_act 90 = .ok (.getfield 17, 3) := by decide +kernel
theorem dX5_act_93 : decode bX5_act 93 = .ok (.i2l, 1) := by decide +kernel
theorem dX5_act_94 : decode bX5_act 94 = .ok (.iconst 1, 1) := by decide +kernel
theorem dX5_act_95 : decode bX5_act 95 = .ok (.invokevirtual 105, 3) := by decide +kernel
theorem dX5_act_98 : decode bX5_act 98 = .ok (.iconst 0, 1) := by decide +kernel
theorem dX5_act_99 : decode bX5_act 99 = .ok (.istore 4, 2) := by decide +kernel
theorem dX5_act_101 : decode bX5_act 101 = .ok (.iload 4, 2) := by decide +kernel
theorem dX5_act_103 : decode bX5_act 103 = .ok (.aload_n 0, 1) := by decide +kernel
theorem dX5_act_104 : decode bX5_act 104 = .ok (.getfield 17, 3) := by decide +kernel
theorem dX5_act_107 : decode bX5_act 107 = .ok (.if_icmp .ge 22, 3) := by decide +kernel
theorem dX5_act_110 : decode bX5_act 110 = .ok (.aload_n 0, 1) := by decide +kernel
theorem dX5_act_111 : decode bX5_act 111 = .ok (.aload_n 0, 1) := by decide +kernel
theorem dX5_act_112 : decode bX5_act 112 = .ok (.getfield 13, 3) := by decide +kernel
theorem dX5_act_115 : decode bX5_act 115 = .ok (.iload 4, 2) := by decide +kernel
theorem dX5_act_117 : decode bX5_act 117 = .ok (.iaload, 1) := by decide +kernel
theorem dX5_act_118 : decode bX5_act 118 = .ok (.i2l, 1) := by decide +kernel
theorem dX5_act_119 : decode bX5_act 119 = .ok (.iconst 1, 1) := by decide +kernel
theorem dX5_act_120 : decode bX5_act 120 = .ok (.invokevirtual 105, 3) := by decide +kernel
theorem dX5_act_123 : decode bX5_act 123 = .ok (.iinc 4 1, 3) := by decide +kernel
theorem dX5_act_126 : decode bX5_act 126 = .ok (.goto (-25), 3) := by decide +kernel
theorem dX5_act_129 : decode bX5_act 129 = .ok (.aload_n 0, 1) := by decide +kernel
theorem dX5_act_130 : decode bX5_act 130 = .ok (.aload_n 0, 1) := by decide +kernel
theorem dX5_act_131 : decode bX5_act 131 = .ok (.iload_n 3, 1) := by decide +kernel
theorem dX5_act_132 : decode bX5_act 132 = .ok (.aload_n 0, 1) := by decide +kernel
theorem dX5_act_133 : decode bX5_act 133 = .ok (.getfield 23, 3) := by decide +kernel
theorem dX5_act_136 : decode bX5_act 136 = .ok (.iload_n 3, 1) := by decide +kernel
theorem dX5_act_137 : decode bX5_act 137 = .ok (.isub, 1) := by decide +kernel
theorem dX5_act_138 : decode bX5_act 138 = .ok (.invokevirtual 89, 3) := by decide +kernel
theorem dX5_act_141 : decode bX5_act 141 = .ok (.bipush 8, 2) := by decide +kernel
theorem dX5_act_143 : decode bX5_act 143 = .ok (.invokevirtual 105, 3) := by decide +kernel
theorem dX5_act_146 : decode bX5_act 146 = .ok (.aload_n 0, 1) := by decide +kernel
theorem dX5_act_147 : decode bX5_act 147 = .ok (.iconst 0, 1) := by decide +kernel
theorem dX5_act_148 : decode bX5_act 148 = .ok (.putfield 17, 3) := by decide +kernel
theorem dX5_act_151 : decode bX5_act 151 = .ok (.aload_n 0, 1) := by decide +kernel
theorem dX5_act_152 : decode bX5_act 152 = .ok (.iload_n 3, 1) := by decide +kernel
theorem dX5_act_153 : decode bX5_act 153 = .ok (.invokevirtual 109, 3) := by decide +kernel
theorem dX5_act_156 : decode bX5_act 156 = .ok (.aload_n 0, 1) := by decide +kernel
theorem dX5_act_157 : decode bX5_act 157 = .ok (.dup, 1) := by decide +kernel
theorem dX5_act_158 : decode bX5_act 158 = .ok (.getfield 32, 3) := by decide +kernel
theorem dX5_act_161 : decode bX5_act 161 = .ok (.iconst 1, 1) := by decide +kernel
theorem dX5_act_162 : decode bX5_act 162 = .ok (.iadd, 1) := by decide +kernel
theorem dX5_act_163 : decode bX5_act 163 = .ok (.putfield 32, 3) := by decide +kernel
theorem dX5_act_166 : decode bX5_act 166 = .ok (.aload_n 0, 1) := by decide +kernel
theorem dX5_act_167 : decode bX5_act 167 = .ok (.getfield 26, 3) := by decide +kernel
theorem dX5_act_170 : decode bX5_act 170 = .ok (.aload_n 0, 1) := by decide +kernel
theorem dX5_act_171 : decode bX5_act 171 = .ok (.getfield 32, 3) := by decide +kernel
theorem dX5_act_174 : decode bX5_act 174 = .ok (.aload_n 0, 1) := by decide +kernel
theorem dX5_act_175 : decode bX5_act 175 = .ok (.getfield 29, 3) := by decide +kernel
theorem dX5_act_178 : decode bX5_act 178 = .ok (.isub, 1) := by decide +kernel
theorem dX5_act_179 : decode bX5_act 179 = .ok (.aload_n 0, 1) := by decide +kernel
theorem dX5_act_180 : decode bX5_act 180 = .ok (.getfield 23, 3) := by decide +kernel
theorem dX5_act_183 : decode bX5_act 183 = .ok (.iastore, 1) := by decide +kernel
theorem dX5_act_184 : decode bX5_act 184 = .ok (.aload_n 0, 1) := by decide +kernel
theorem dX5_act_185 : decode bX5_act 185 = .ok (.getfield 32, 3) := by decide +kernel
theorem dX5_act_188 : decode bX5_act 188 = .ok (.iconst 1, 1) := by decide +kernel
theorem dX5_act_189 : decode bX5_act 189 = .ok (.isub, 1) := by decide +kernel
theorem dX5_act_190 : decode bX5_act 190 = .ok (.ireturn, 1) := by decide +kernel
theorem dX5_flush_0 : decode bX5_flush 0 = .ok (.aload_n 0, 1) := by decide +kernel
theorem dX5_flush_1 : decode bX5_flush 1 = .ok (.aload_n 0, 1) := by decide +kernel
theorem dX5_flush_2 : decode bX5_flush 2 = .ok (.getfield 38, 3) := by decide +kernel
theorem dX5_flush_5 : decode bX5_flush 5 = .ok (.ifCond .eq 7, 3) := by decide +kernel
theorem dX5_flush_8 : decode bX5_flush 8 = .ok (.iconst 1, 1) := by decide +kernel
theorem dX5_flush_9 : decode bX5_flush 9 = .ok (.goto 4, 3) := by decide +kernel
theorem dX5_flush_12 : decode bX5_flush 12 = .ok (.iconst 0, 1) := by decide +kernel
theorem dX5_flush_13 : decode bX5_flush 13 = .ok (.putfield 7, 3) := by decide +kernel
theorem dX5_flush_16 : decode bX5_flush 16 = .ok (.aload_n 0, 1) := by decide +kernel
theorem dX5_flush_17 : decode bX5_flush 17 = .ok (.getfield 7, 3) := by decide +kernel
theorem dX5_flush_20 : decode bX5_flush 20 = .ok (.ifCond .eq 5, 3) := by decide +kernel
theorem dX5_flush_23 : decode bX5_flush 23 = .ok (.iconst 0, 1) := by decide +kernel
theorem dX5_flush_24 : decode bX5_flush 24 = .ok (.ireturn, 1) := by decide +kernel
theorem dX5_flush_25 : decode bX5_flush 25 = .ok (.aload_n 0, 1) := by decide +kernel
theorem dX5_flush_26 : decode bX5_flush 26 = .ok (.getfield 32, 3) := by decide +kernel
theorem dX5_flush_29 : decode bX5_flush 29 = .ok (.aload_n 0, 1) := by decide +kernel
theorem dX5_flush_30 : decode bX5_flush 30 = .ok (.getfield 35, 3) := by decide +kernel
theorem dX5_flush_33 : decode bX5_flush 33 = .ok (.isub, 1) := by decide +kernel
theorem dX5_flush_34 : decode bX5_flush 34 = .ok (.istore_n 1, 1) := by decide +kernel
theorem dX5_flush_35 : decode bX5_flush 35 = .ok (.aload_n 0, 1) := by decide +kernel
theorem dX5_flush_36 : decode bX5_flush 36 = .ok (.aload_n 0, 1) := by decide +kernel
theorem dX5_flush_37 : decode bX5_flush 37 = .ok (.getfield 32, 3) := by decide +kernel
theorem dX5_flush_40 : decode bX5_flush 40 = .ok (.putfield 35, 3) := by decide +kernel
theorem dX5_flush_43 : decode bX5_flush 43 = .ok (.iload_n 1, 1) := by decide +kernel
theorem dX5_flush_44 : decode bX5_flush 44 = .ok (.ireturn, 1) := by decide +kernel
theorem dX5_part_0 : decode bX5_part 0 = .ok (.aload_n 0, 1) := by decide +kernel
theorem dX5_part_1 : decode bX5_part 1 = .ok (.aload_n 0, 1) := by decide +kernel
theorem dX5_part_2 : decode bX5_part 2 = .ok (.getfield 38, 3) := by decide +kernel
theorem dX5_part_5 : decode bX5_part 5 = .ok (.ifCond .eq 7, 3) := by decide +kernel
theorem dX5_part_8 : decode bX5_part 8 = .ok (.iconst 1, 1) := by decide +kernel
theorem dX5_part_9 : decode bX5_part 9 = .ok (.goto 4, 3) := by decide +kernel
theorem dX5_part_12 : decode bX5_part 12 = .ok (.iconst 0, 1) := by decide +kernel
theorem dX5_part_13 : decode bX5_part 13 = .ok (.putfield 7, 3) := by decide +kernel
theorem dX5_part_16 : decode bX5_part 16 = .ok (.aload_n 0, 1) := by decide +kernel
theorem dX5_part_17 : decode bX5_part 17 = .ok (.getfield 7, 3) := by decide +kernel
theorem dX5_part_20 : decode bX5_part 20 = .ok (.ifCond .eq 5, 3) := by decide +kernel
theorem dX5_part_23 : decode bX5_part 23 = .ok (.iconst 0, 1) := by decide +kernel
theorem dX5_part_24 : decode bX5_part 24 = .ok (.ireturn, 1) := by decide +kernel
theorem dX5_part_25 : decode bX5_part 25 = .ok (.aload_n 0, 1) := by decide +kernel
theorem dX5_part_26 : decode bX5_part 26 = .ok (.aload_n 0, 1) := by decide +kernel
theorem dX5_part_27 : decode bX5_part 27 = .ok (.getfield 32, 3) := by decide +kernel
theorem dX5_part_30 : decode bX5_part 30 = .ok (.putfield 35, 3) := by decide +kernel
theorem dX5_part_33 : decode bX5_part 33 = .ok (.aload_n 0, 1) := by decide +kernel
theorem dX5_part_34 : decode bX5_part 34 = .ok (.invokevirtual 113, 3) := by decide +kernel
theorem dX5_part_37 : decode bX5_part 37 = .ok (.aload_n 0, 1) := by decide +kernel
theorem dX5_part_38 : decode bX5_part 38 = .ok (.getfield 45, 3) := by decide +kernel
theorem dX5_part_41 : decode bX5_part 41 = .ok (.istore_n 1, 1) := by decide +kernel
theorem dX5_part_42 : decode bX5_part 42 = .ok (.aload_n 0, 1) := by decide +kernel
theorem dX5_part_43 : decode bX5_part 43 = .ok (.getfield 65, 3) := by decide +kernel
theorem dX5_part_46 : decode bX5_part 46 = .ok (.iconst 4, 1) := by decide +kernel
theorem dX5_part_47 : decode bX5_part 47 = .ok (.aload_n 0, 1) := by decide +kernel
theorem dX5_part_48 : decode bX5_part 48 = .ok (.getfield 48, 3) := by decide +kernel
theorem dX5_part_51 : decode bX5_part 51 = .ok (.imul, 1) := by decide +kernel
theorem dX5_part_52 : decode bX5_part 52 = .ok (.iload_n 1, 1) := by decide +kernel
theorem dX5_part_53 : decode bX5_part 53 = .ok (.iadd, 1) := by decide +kernel
theorem dX5_part_54 : decode bX5_part 54 = .ok (.aload_n 0, 1) := by decide +kernel
theorem dX5_part_55 : decode bX5_part 55 = .ok (.getfield 32, 3) := by decide +kernel
theorem dX5_part_58 : decode bX5_part 58 = .ok (.iastore, 1) := by decide +kernel
theorem dX5_part_59 : decode bX5_part 59 = .ok (.iload_n 1, 1) := by decide +kernel
theorem dX5_part_60 : decode bX5_part 60 = .ok (.istore_n 2, 1) := by decide +kernel
theorem dX5_part_61 : decode bX5_part 61 = .ok (.iload_n 2, 1) := by decide +kernel
theorem dX5_part_62 : decode bX5_part 62 = .ok (.bipush 32, 2) := by decide +kernel
theorem dX5_part_64 : decode bX5_part 64 = .ok (.if_icmp .ge 26, 3) := by decide +kernel
theorem dX5_part_67 : decode bX5_part 67 = .ok (.aload_n 0, 1) := by decide +kernel
theorem dX5_part_68 : decode bX5_part 68 = .ok (.bipush 64, 2) := by decide +kernel
theorem dX5_part_70 : decode bX5_part 70 = .ok (.iload_n 2, 1) := by decide +kernel
theorem dX5_part_71 : decode bX5_part 71 = .ok (.iadd, 1) := by decide +kernel
theorem dX5_part_72 : decode bX5_part 72 = .ok (.bipush 32, 2) := by decide +kernel
theorem dX5_part_74 : decode bX5_part 74 = .ok (.aload_n 0, 1) := by decide +kernel
theorem dX5_part_75 : decode bX5_part 75 = .ok (.getfield 48, 3) := by decide +kernel
theorem dX5_part_78 : decode bX5_part 78 = .ok (.imul, 1) := by decide +kernel
theorem dX5_part_79 : decode bX5_part 79 = .ok (.iload_n 2, 1) := by decide +kernel
theorem dX5_part_80 : decode bX5_part 80 = .ok (.iadd, 1) := by decide +kernel
theorem dX5_part_81 : decode bX5_part 81 = .ok (.invokevirtual 92, 3) := by decide +kernel
theorem dX5_part_84 : decode bX5_part 84 = .ok (.iinc 2 4, 3) := by decide +kernel
theorem dX5_part_87 : decode bX5_part 87 = .ok (.goto (-26), 3) := by decide +kernel
theorem dX5_part_90 : decode bX5_part 90 = .ok (.aload_n 0, 1) := by decide +kernel
theorem dX5_part_91 : decode bX5_part 91 = .ok (.invokevirtual 116, 3) := by decide +kernel
theorem dX5_part_94 : decode bX5_part 94 = .ok (.aload_n 0, 1) := by decide +kernel
theorem dX5_part_95 : decode bX5_part 95 = .ok (.aload_n 0, 1) := by decide +kernel
theorem dX5_part_96 : decode bX5_part 96 = .ok (.getfield 45, 3) := by decide +kernel
theorem dX5_part_99 : decode bX5_part 99 = .ok (.iconst 1, 1) := by decide +kernel
theorem dX5_part_100 : decode bX5_part 100 = .ok (.iadd, 1) := by decide +kernel
theorem dX5_part_101 : decode bX5_part 101 = .ok (.iconst 4, 1) := by decide +kernel
theorem dX5_part_102 : decode bX5_part 102 = .ok (.irem, 1) := by decide +kernel
theorem dX5_part_103 : decode bX5_part 103 = .ok (.putfield 45, 3) := by decide +kernel
theorem dX5_part_106 : decode bX5_part 106 = .ok (.iload_n 1, 1) := by decide +kernel
theorem dX5_part_107 : decode bX5_part 107 = .ok (.ireturn, 1) := by decide +kernel
theorem dX5_cut_0 : decode bX5_cut 0 = .ok (.aload_n 0, 1) := by decide +kernel
theorem dX5_cut_1 : decode bX5_cut 1 = .ok (.aload_n 0, 1) := by decide +kernel
theorem dX5_cut_2 : decode bX5_cut 2 = .ok (.getfield 38, 3) := by decide +kernel
theorem dX5_cut_5 : decode bX5_cut 5 = .ok (.ifCond .eq 7, 3) := by decide +kernel
theorem dX5_cut_8 : decode bX5_cut 8 = .ok (.iconst 1, 1) := by decide +kernel
theorem dX5_cut_9 : decode bX5_cut 9 = .ok (.goto 4, 3) := by decide +kernel
theorem dX5_cut_12 : decode bX5_cut 12 = .ok (.iconst 0, 1) := by decide +kernel
theorem dX5_cut_13 : decode bX5_cut 13 = .ok (.putfield 7, 3) := by decide +kernel
theorem dX5_cut_16 : decode bX5_cut 16 = .ok (.aload_n 0, 1) := by decide +kernel
theorem dX5_cut_17 : decode bX5_cut 17 = .ok (.getfield 7, 3) := by decide +kernel
theorem dX5_cut_20 : decode bX5_cut 20 = .ok (.ifCond .eq 5, 3) := by decide +kernel
theorem dX5_cut_23 : decode bX5_cut 23 = .ok (.iconst 0, 1) := by decide +kernel
theorem dX5_cut_24 : decode bX5_cut 24 = .ok (.ireturn, 1) := by decide +kernel
theorem dX5_cut_25 : decode bX5_cut 25 = .ok (.aload_n 0, 1) := by decide +kernel
theorem dX5_cut_26 : decode bX5_cut 26 = .ok (.aload_n 0, 1) := by decide +kernel
theorem dX5_cut_27 : decode bX5_cut 27 = .ok (.getfield 32, 3) := by decide +kernel
theorem dX5_cut_30 : decode bX5_cut 30 = .ok (.putfield 35, 3) := by decide +kernel
theorem dX5_cut_33 : decode bX5_cut 33 = .ok (.aload_n 0, 1) := by decide +kernel
theorem dX5_cut_34 : decode bX5_cut 34 = .ok (.getfield 54, 3) := by decide +kernel
theorem dX5_cut_37 : decode bX5_cut 37 = .ok (.aload_n 0, 1) := by decide +kernel
theorem dX5_cut_38 : decode bX5_cut 38 = .ok (.getfield 48, 3) := by decide +kernel
theorem dX5_cut_41 : decode bX5_cut 41 = .ok (.iaload, 1) := by decide +kernel
theorem dX5_cut_42 : decode bX5_cut 42 = .ok (.istore_n 1, 1) := by decide +kernel
theorem dX5_cut_43 : decode bX5_cut 43 = .ok (.iload_n 1, 1) := by decide +kernel
theorem dX5_cut_44 : decode bX5_cut 44 = .ok (.aload_n 0, 1) := by decide +kernel
theorem dX5_cut_45 : decode bX5_cut 45 = .ok (.getfield 32, 3) := by decide +kernel
theorem dX5_cut_48 : decode bX5_cut 48 = .ok (.if_icmp .ge 43, 3) := by decide +kernel
theorem dX5_cut_51 : decode bX5_cut 51 = .ok (.iload_n 1, 1) := by decide +kernel
theorem dX5_cut_52 : decode bX5_cut 52 = .ok (.aload_n 0, 1) := by decide +kernel
theorem dX5_cut_53 : decode bX5_cut 53 = .ok (.getfield 65, 3) := by decide +kernel
theorem dX5_cut_56 : decode bX5_cut 56 = .ok (.iconst 4, 1) := by decide +kernel
theorem dX5_cut_57 : decode bX5_cut 57 = .ok (.aload_n 0, 1) := by decide +kernel
theorem dX5_cut_58 : decode bX5_cut 58 = .ok (.getfield 48, 3) := by decide +kernel
theorem dX5_cut_61 : decode bX5_cut 61 = .ok (.imul, 1) := by decide +kernel
theorem dX5_cut_62 : decode bX5_cut 62 = .ok (.aload_n 0, 1) := by decide +kernel
theorem dX5_cut_63 : decode bX5_cut 63 = .ok (.getfield 20, 3) := by decide +kernel
theorem dX5_cut_66 : decode bX5_cut 66 = .ok (.aload_n 0, 1) := by decide +kernel
theorem dX5_cut_67 : decode bX5_cut 67 = .ok (.getfield 26, 3) := by decide +kernel
theorem dX5_cut_70 : decode bX5_cut 70 = .ok (.iload_n 1, 1) := by decide +kernel
theorem dX5_cut_71 : decode bX5_cut 71 = .ok (.aload_n 0, 1) := by decide +kernel
theorem dX5_cut_72 : decode bX5_cut 72 = .ok (.getfield 29, 3) := by decide +kernel
theorem dX5_cut_75 : decode bX5_cut 75 = .ok (.isub, 1) := by decide +kernel
theorem dX5_cut_76 : decode bX5_cut 76 = .ok (.iaload, 1) := by decide +kernel
theorem dX5_cut_77 : decode bX5_cut 77 = .ok (.iaload, 1) := by decide +kernel
theorem dX5_cut_78 : decode bX5_cut 78 = .ok (.iconst 4, 1) := by decide +kernel
theorem dX5_cut_79 : decode bX5_cut 79 = .ok (.irem, 1) := by decide +kernel
theorem dX5_cut_80 : decode bX5_cut 80 = .ok (.iadd, 1) := by decide +kernel
theorem dX5_cut_81 : decode bX5_cut 81 = .ok (.iaload, 1) := by decide +kernel
theorem dX5_cut_82 : decode bX5_cut 82 = .ok (.if_icmp .ge 9, 3) := by decide +kernel
theorem dX5_cut_85 : decode bX5_cut 85 = .ok (.iinc 1 1, 3) := by decide +kernel
theorem dX5_cut_88 : decode bX5_cut 88 = .ok (.goto (-45), 3) := by decide +kernel
theorem dX5_cut_91 : decode bX5_cut 91 = .ok (.iload_n 1, 1) := by decide +kernel
theorem dX5_cut_92 : decode bX5_cut 92 = .ok (.aload_n 0, 1) := by decide +kernel
theorem dX5_cut_93 : decode bX5_cut 93 = .ok (.getfield 54, 3) := by decide +kernel
theorem dX5_cut_96 : decode bX5_cut 96 = .ok (.aload_n 0, 1) := by decide +kernel
theorem dX5_cut_97 : decode bX5_cut 97 = .ok (.getfield 48, 3) := by decide +kernel
theorem dX5_cut_100 : decode bX5_cut 100 = .ok (.iaload, 1) := by decide +kernel
theorem dX5_cut_101 : decode bX5_cut 101 = .ok (.isub, 1) := by decide +kernel
theorem dX5_cut_102 : decode bX5_cut 102 = .ok (.istore_n 2, 1) := by decide +kernel
theorem dX5_cut_103 : decode bX5_cut 103 = .ok (.iload_n 2, 1) := by decide +kernel
theorem dX5_cut_104 : decode bX5_cut 104 = .ok (.ifCond .ne 5, 3) := by decide +kernel
theorem dX5_cut_107 : decode bX5_cut 107 = .ok (.iconst 0, 1) := by decide +kernel
theorem dX5_cut_108 : decode bX5_cut 108 = .ok (.ireturn, 1) := by decide +kernel
theorem dX5_cut_109 : decode bX5_cut 109 = .ok (.aload_n 0, 1) := by decide +kernel
theorem dX5_cut_110 : decode bX5_cut 110 = .ok (.iload_n 1, 1) := by decide +kernel
theorem dX5_cut_111 : decode bX5_cut 111 = .ok (.invokevirtual 119, 3) := by decide +kernel
theorem dX5_cut_114 : decode bX5_cut 114 = .ok (.lstore_n 3, 1) := by decide +kernel
theorem dX5_cut_115 : decode bX5_cut 115 = .ok (.aload_n 0, 1) := by decide +kernel
theorem dX5_cut_116 : decode bX5_cut 116 = .ok (.invokevirtual 113, 3) := by decide +kernel
theorem dX5_cut_119 : decode bX5_cut 119 = .ok (.aload_n 0, 1) := by decide +kernel
theorem dX5_cut_120 : decode bX5_cut 120 = .ok (.getfield 54, 3) := by decide +kernel
theorem dX5_cut_123 : decode bX5_cut 123 = .ok (.aload_n 0, 1) := by decide +kernel
theorem dX5_cut_124 : decode bX5_cut 124 = .ok (.getfield 48, 3) := by decide +kernel
theorem dX5_cut_127 : decode bX5_cut 127 = .ok (.iload_n 1, 1) := by decide +kernel
theorem dX5_cut_128 : decode bX5_cut 128 = .ok (.iastore, 1) := by decide +kernel
theorem dX5_cut_129 : decode bX5_cut 129 = .ok (.aload_n 0, 1) := by decide +kernel
theorem dX5_cut_130 : decode bX5_cut 130 = .ok (.getfield 57, 3) := by decide +kernel
theorem dX5_cut_133 : decode bX5_cut 133 = .ok (.aload_n 0, 1) := by decide +kernel
theorem dX5_cut_134 : decode bX5_cut 134 = .ok (.getfield 48, 3) := by decide +kernel
theorem dX5_cut_137 : decode bX5_cut 137 = .ok (.lload_n 3, 1) := by decide +kernel
theorem dX5_cut_138 : decode bX5_cut 138 = .ok (.lastore, 1) := by decide +kernel
theorem dX5_cut_139 : decode bX5_cut 139 = .ok (.aload_n 0, 1) := by decide +kernel
theorem dX5_cut_140 : decode bX5_cut 140 = .ok (.invokevirtual 116, 3) := by decide +kernel
theorem dX5_cut_143 : decode bX5_cut 143 = .ok (.iload_n 2, 1) := by decide +kernel
theorem dX5_cut_144 : decode bX5_cut 144 = .ok (.ireturn, 1) := by decide +kernel
theorem dX5_find_0 : decode bX5_find 0 = .ok (.aload_n 0, 1) := by decide +kernel
theorem dX5_find_1 : decode bX5_find 1 = .ok (.aload_n 0, 1) := by decide +kernel
theorem dX5_find_2 : decode bX5_find 2 = .ok (.getfield 38, 3) := by decide +kernel
theorem dX5_find_5 : decode bX5_find 5 = .ok (.ifCond .eq 7, 3) := by decide +kernel
theorem dX5_find_8 : decode bX5_find 8 = .ok (.iconst 2, 1) := by decide +kernel
theorem dX5_find_9 : decode bX5_find 9 = .ok (.goto 17, 3) := by decide +kernel
theorem dX5_find_12 : decode bX5_find 12 = .ok (.iload_n 1, 1) := by decide +kernel
theorem dX5_find_13 : decode bX5_find 13 = .ok (.bipush 32, 2) := by decide +kernel
theorem dX5_find_15 : decode bX5_find 15 = .ok (.invokestatic 100, 3) := by decide +kernel
theorem dX5_find_18 : decode bX5_find 18 = .ok (.ifCond .eq 7, 3) := by decide +kernel
theorem dX5_find_21 : decode bX5_find 21 = .ok (.iconst 1, 1) := by decide +kernel
theorem dX5_find_22 : decode bX5_find 22 = .ok (.goto 4, 3) := by decide +kernel
theorem dX5_find_25 : decode bX5_find 25 = .ok (.iconst 0, 1) := by decide +kernel
theorem dX5_find_26 : decode bX5_find 26 = .ok (.putfield 7, 3) := by decide +kernel
theorem dX5_find_29 : decode bX5_find 29 = .ok (.aload_n 0, 1) := by decide +kernel
theorem dX5_find_30 : decode bX5_find 30 = .ok (.getfield 7, 3) := by decide +kernel
theorem dX5_find_33 : decode bX5_find 33 = .ok (.ifCond .eq 5, 3) := by decide +kernel
theorem dX5_find_36 : decode bX5_find 36 = .ok (.iconst 0, 1) := by decide +kernel
theorem dX5_find_37 : decode bX5_find 37 = .ok (.ireturn, 1) := by decide +kernel
theorem dX5_find_38 : decode bX5_find 38 = .ok (.bipush 64, 2) := by decide +kernel
theorem dX5_find_40 : decode bX5_find 40 = .ok (.iload_n 1, 1) := by decide +kernel
theorem dX5_find_41 : decode bX5_find 41 = .ok (.iadd, 1) := by decide +kernel
theorem dX5_find_42 : decode bX5_find 42 = .ok (.istore_n 3, 1) := by decide +kernel
theorem dX5_find_43 : decode bX5_find 43 = .ok (.iload_n 2, 1) := by decide +kernel
theorem dX5_find_44 : decode bX5_find 44 = .ok (.iconst (-1), 1) := by decide +kernel
theorem dX5_find_45 : decode bX5_find 45 = .ok (.if_icmp .ne 23, 3) := by decide +kernel
theorem dX5_find_48 : decode bX5_find 48 = .ok (.aload_n 0, 1) := by decide +kernel
theorem dX5_find_49 : decode bX5_find 49 = .ok (.getfield 68, 3) := by decide +kernel
theorem dX5_find_52 : decode bX5_find 52 = .ok (.iload_n 3, 1) := by decide +kernel
theorem dX5_find_53 : decode bX5_find 53 = .ok (.iaload, 1) := by decide +kernel
theorem dX5_find_54 : decode bX5_find 54 = .ok (.ifCond .ge 7, 3) := by decide +kernel
theorem dX5_find_57 : decode bX5_find 57 = .ok (.iconst (-1), 1) := by decide +kernel
theorem dX5_find_58 : decode bX5_find 58 = .ok (.goto 9, 3) := by decide +kernel
theorem dX5_find_61 : decode bX5_find 61 = .ok (.aload_n 0, 1) := by decide +kernel
theorem dX5_find_62 : decode bX5_find 62 = .ok (.getfield 71, 3) := by decide +kernel
theorem dX5_find_65 : decode bX5_find 65 = .ok (.iload_n 3, 1) := by decide +kernel
theorem dX5_find_66 : decode bX5_find 66 = .ok (.iaload, 1) := by decide +kernel
theorem dX5_find_67 : decode bX5_find 67 = .ok (.ireturn, 1) := by decide +kernel
theorem dX5_find_68 : decode bX5_find 68 = .ok (.aload_n 0, 1) := by decide +kernel
theorem dX5_find_69 : decode bX5_find 69 = .ok (.aload_n 0, 1) := by decide +kernel
theorem dX5_find_70 : decode bX5_find 70 = .ok (.getfield 68, 3) := by decide +kernel
theorem dX5_find_73 : decode bX5_find 73 = .ok (.iload_n 3, 1) := by decide +kernel
theorem dX5_find_74 : decode bX5_find 74 = .ok (.iaload, 1) := by decide +kernel
theorem dX5_find_75 : decode bX5_find 75 = .ok (.ifCond .lt 16, 3) := by decide +kernel
theorem dX5_find_78 : decode bX5_find 78 = .ok (.iload_n 2, 1) := by decide +kernel
theorem dX5_find_79 : decode bX5_find 79 = .ok (.aload_n 0, 1) := by decide +kernel
theorem dX5_find_80 : decode bX5_find 80 = .ok (.getfield 71, 3) := by decide +kernel
theorem dX5_find_83 : decode bX5_find 83 = .ok (.iload_n 3, 1) := by decide +kernel
theorem dX5_find_84 : decode bX5_find 84 = .ok (.iaload, 1) := by decide +kernel
theorem dX5_find_85 : decode bX5_find 85 = .ok (.invokestatic 100, 3) := by decide +kernel
theorem dX5_find_88 : decode bX5_find 88 = .ok (.ifCond .eq 7, 3) := by decide +kernel
theorem dX5_find_91 : decode bX5_find 91 = .ok (.iconst 1, 1) := by decide +kernel
theorem dX5_find_92 : decode bX5_find 92 = .ok (.goto 4, 3) := by decide +kernel
theorem dX5_find_95 : decode bX5_find 95 = .ok (.iconst 0, 1) := by decide +kernel
theorem dX5_find_96 : decode bX5_find 96 = .ok (.putfield 7, 3) := by decide +kernel
theorem dX5_find_99 : decode bX5_find 99 = .ok (.aload_n 0, 1) := by decide +kernel
theorem dX5_find_100 : decode bX5_find 100 = .ok (.getfield 7, 3) := by decide +kernel
theorem dX5_find_103 : decode bX5_find 103 = .ok (.ifCond .eq 7, 3) := by decide +kernel
theorem dX5_find_106 : decode bX5_find 106 = .ok (.iconst 0, 1) := by decide +kernel
theorem dX5_find_107 : decode bX5_find 107 = .ok (.goto 14, 3) := by decide +kernel
theorem dX5_find_110 : decode bX5_find 110 = .ok (.aload_n 0, 1) := by decide +kernel
theorem dX5_find_111 : decode bX5_find 111 = .ok (.getfield 74, 3) := by decide +kernel
theorem dX5_find_114 : decode bX5_find 114 = .ok (.bipush 24, 2) := by decide +kernel
theorem dX5_find_116 : decode bX5_find 116 = .ok (.iload_n 3, 1) := by decide +kernel
theorem dX5_find_117 : decode bX5_find 117 = .ok (.imul, 1) := by decide +kernel
theorem dX5_find_118 : decode bX5_find 118 = .ok (.iload_n 2, 1) := by decide +kernel
theorem dX5_find_119 : decode bX5_find 119 = .ok (.iadd, 1) := by decide +kernel
theorem dX5_find_120 : decode bX5_find 120 = .ok (.iaload, 1) := by decide +kernel
theorem dX5_find_121 : decode bX5_find 121 = .ok (.ireturn, 1) := by decide +kernel
theorem dX5_day_0 : decode bX5_day 0 = .ok (.aload_n 0, 1) := by decide +kernel
theorem dX5_day_1 : decode bX5_day 1 = .ok (.aload_n 0, 1) := by decide +kernel
theorem dX5_day_2 : decode bX5_day 2 = .ok (.getfield 38, 3) := by decide +kernel
theorem dX5_day_5 : decode bX5_day 5 = .ok (.ifCond .eq 7, 3) := by decide +kernel
theorem dX5_day_8 : decode bX5_day 8 = .ok (.iconst 2, 1) := by decide +kernel
theorem dX5_day_9 : decode bX5_day 9 = .ok (.goto 17, 3) := by decide +kernel
theorem dX5_day_12 : decode bX5_day 12 = .ok (.iload_n 1, 1) := by decide +kernel
theorem dX5_day_13 : decode bX5_day 13 = .ok (.bipush 32, 2) := by decide +kernel
theorem dX5_day_15 : decode bX5_day 15 = .ok (.invokestatic 100, 3) := by decide +kernel
theorem dX5_day_18 : decode bX5_day 18 = .ok (.ifCond .eq 7, 3) := by decide +kernel
theorem dX5_day_21 : decode bX5_day 21 = .ok (.iconst 1, 1) := by decide +kernel
theorem dX5_day_22 : decode bX5_day 22 = .ok (.goto 4, 3) := by decide +kernel
theorem dX5_day_25 : decode bX5_day 25 = .ok (.iconst 0, 1) := by decide +kernel
theorem dX5_day_26 : decode bX5_day 26 = .ok (.putfield 7, 3) := by decide +kernel
theorem dX5_day_29 : decode bX5_day 29 = .ok (.aload_n 0, 1) := by decide +kernel
theorem dX5_day_30 : decode bX5_day 30 = .ok (.getfield 7, 3) := by decide +kernel
theorem dX5_day_33 : decode bX5_day 33 = .ok (.ifCond .eq 7, 3) := by decide +kernel
theorem dX5_day_36 : decode bX5_day 36 = .ok (.iconst 0, 1) := by decide +kernel
theorem dX5_day_37 : decode bX5_day 37 = .ok (.goto 12, 3) := by decide +kernel
theorem dX5_day_40 : decode bX5_day 40 = .ok (.aload_n 0, 1) := by decide +kernel
theorem dX5_day_41 : decode bX5_day 41 = .ok (.getfield 68, 3) := by decide +kernel
theorem dX5_day_44 : decode bX5_day 44 = .ok (.bipush 64, 2) := by decide +kernel
theorem dX5_day_46 : decode bX5_day 46 = .ok (.iload_n 1, 1) := by decide +kernel
theorem dX5_day_47 : decode bX5_day 47 = .ok (.iadd, 1) := by decide +kernel
theorem dX5_day_48 : decode bX5_day 48 = .ok (.iaload, 1) := by decide +kernel
theorem dX5_day_49 : decode bX5_day 49 = .ok (.ireturn, 1) := by decide +kernel
theorem dX5_seal_0 : decode bX5_seal 0 = .ok (.aload_n 0, 1) := by decide +kernel
theorem dX5_seal_1 : decode bX5_seal 1 = .ok (.aload_n 0, 1) := by decide +kernel
theorem dX5_seal_2 : decode bX5_seal 2 = .ok (.getfield 38, 3) := by decide +kernel
theorem dX5_seal_5 : decode bX5_seal 5 = .ok (.ifCond .eq 7, 3) := by decide +kernel
theorem dX5_seal_8 : decode bX5_seal 8 = .ok (.iconst 1, 1) := by decide +kernel
theorem dX5_seal_9 : decode bX5_seal 9 = .ok (.goto 4, 3) := by decide +kernel
theorem dX5_seal_12 : decode bX5_seal 12 = .ok (.iconst 0, 1) := by decide +kernel
theorem dX5_seal_13 : decode bX5_seal 13 = .ok (.putfield 7, 3) := by decide +kernel
theorem dX5_seal_16 : decode bX5_seal 16 = .ok (.aload_n 0, 1) := by decide +kernel
theorem dX5_seal_17 : decode bX5_seal 17 = .ok (.getfield 7, 3) := by decide +kernel
theorem dX5_seal_20 : decode bX5_seal 20 = .ok (.ifCond .eq 7, 3) := by decide +kernel
theorem dX5_seal_23 : decode bX5_seal 23 = .ok (.lconst 0, 1) := by decide +kernel
theorem dX5_seal_24 : decode bX5_seal 24 = .ok (.goto 11, 3) := by decide +kernel
theorem dX5_seal_27 : decode bX5_seal 27 = .ok (.aload_n 0, 1) := by decide +kernel
theorem dX5_seal_28 : decode bX5_seal 28 = .ok (.aload_n 0, 1) := by decide +kernel
theorem dX5_seal_29 : decode bX5_seal 29 = .ok (.getfield 32, 3) := by decide +kernel
theorem dX5_seal_32 : decode bX5_seal 32 = .ok (.invokevirtual 119, 3) := by decide +kernel
theorem dX5_seal_35 : decode bX5_seal 35 = .ok (.lreturn, 1) := by decide +kernel
theorem dX5_crash_0 : decode bX5_crash 0 = .ok (.aload_n 0, 1) := by decide +kernel
