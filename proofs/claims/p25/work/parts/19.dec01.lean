theorem dX6_hopOn_8 : decode cX6_hopOn 8 = .ok (.getfield 54, 3) := by decide +kernel
theorem dX6_hopOn_11 : decode cX6_hopOn 11 = .ok (.aload_n 0, 1) := by decide +kernel
theorem dX6_hopOn_12 : decode cX6_hopOn 12 = .ok (.getfield 72, 3) := by decide +kernel
theorem dX6_hopOn_15 : decode cX6_hopOn 15 = .ok (.if_icmp .ne 16, 3) := by decide +kernel
theorem dX6_hopOn_18 : decode cX6_hopOn 18 = .ok (.aload_n 0, 1) := by decide +kernel
theorem dX6_hopOn_19 : decode cX6_hopOn 19 = .ok (.aload_n 0, 1) := by decide +kernel
theorem dX6_hopOn_20 : decode cX6_hopOn 20 = .ok (.getfield 69, 3) := by decide +kernel
theorem dX6_hopOn_23 : decode cX6_hopOn 23 = .ok (.putfield 40, 3) := by decide +kernel
theorem dX6_hopOn_26 : decode cX6_hopOn 26 = .ok (.aload_n 0, 1) := by decide +kernel
theorem dX6_hopOn_27 : decode cX6_hopOn 27 = .ok (.iconst 0, 1) := by decide +kernel
theorem dX6_hopOn_28 : decode cX6_hopOn 28 = .ok (.putfield 50, 3) := by decide +kernel
theorem dX6_hopOn_31 : decode cX6_hopOn 31 = .ok (.aload_n 0, 1) := by decide +kernel
theorem dX6_hopOn_32 : decode cX6_hopOn 32 = .ok (.aload_n 0, 1) := by decide +kernel
theorem dX6_hopOn_33 : decode cX6_hopOn 33 = .ok (.getfield 57, 3) := by decide +kernel
theorem dX6_hopOn_36 : decode cX6_hopOn 36 = .ok (.aload_n 0, 1) := by decide +kernel
theorem dX6_hopOn_37 : decode cX6_hopOn 37 = .ok (.getfield 37, 3) := by decide +kernel
theorem dX6_hopOn_40 : decode cX6_hopOn 40 = .ok (.iadd, 1) := by decide +kernel
theorem dX6_hopOn_41 : decode cX6_hopOn 41 = .ok (.bipush 37, 2) := by decide +kernel
theorem dX6_hopOn_43 : decode cX6_hopOn 43 = .ok (.irem, 1) := by decide +kernel
theorem dX6_hopOn_44 : decode cX6_hopOn 44 = .ok (.putfield 57, 3) := by decide +kernel
theorem dX6_hopOn_47 : decode cX6_hopOn 47 = .ok (.aload_n 0, 1) := by decide +kernel
theorem dX6_hopOn_48 : decode cX6_hopOn 48 = .ok (.aload_n 0, 1) := by decide +kernel
theorem dX6_hopOn_49 : decode cX6_hopOn 49 = .ok (.getfield 57, 3) := by decide +kernel
theorem dX6_hopOn_52 : decode cX6_hopOn 52 = .ok (.aload_n 0, 1) := by decide +kernel
theorem dX6_hopOn_53 : decode cX6_hopOn 53 = .ok (.getfield 40, 3) := by decide +kernel
theorem dX6_hopOn_56 : decode cX6_hopOn 56 = .ok (.invokestatic 84, 3) := by decide +kernel
theorem dX6_hopOn_59 : decode cX6_hopOn 59 = .ok (.putfield 9, 3) := by decide +kernel
theorem dX6_hopOn_62 : decode cX6_hopOn 62 = .ok (.return_, 1) := by decide +kernel
theorem dX6_channelFor_0 : decode cX6_channelFor 0 = .ok (.lload_n 1, 1) := by decide +kernel
theorem dX6_channelFor_1 : decode cX6_channelFor 1 = .ok (.invokestatic 25, 3) := by decide +kernel
theorem dX6_channelFor_4 : decode cX6_channelFor 4 = .ok (.istore_n 3, 1) := by decide +kernel
theorem dX6_channelFor_5 : decode cX6_channelFor 5 = .ok (.iload_n 3, 1) := by decide +kernel
theorem dX6_channelFor_6 : decode cX6_channelFor 6 = .ok (.ifCond .eq 13, 3) := by decide +kernel
theorem dX6_channelFor_9 : decode cX6_channelFor 9 = .ok (.lload_n 1, 1) := by decide +kernel
theorem dX6_channelFor_10 : decode cX6_channelFor 10 = .ok (.iload_n 0, 1) := by decide +kernel
theorem dX6_channelFor_11 : decode cX6_channelFor 11 = .ok (.lushr, 1) := by decide +kernel
theorem dX6_channelFor_12 : decode cX6_channelFor 12 = .ok (.lconst 1, 1) := by decide +kernel
theorem dX6_channelFor_13 : decode cX6_channelFor 13 = .ok (.land, 1) := by decide +kernel
theorem dX6_channelFor_14 : decode cX6_channelFor 14 = .ok (.lconst 1, 1) := by decide +kernel
theorem dX6_channelFor_15 : decode cX6_channelFor 15 = .ok (.lcmp, 1) := by decide +kernel
theorem dX6_channelFor_16 : decode cX6_channelFor 16 = .ok (.ifCond .ne 5, 3) := by decide +kernel
theorem dX6_channelFor_19 : decode cX6_channelFor 19 = .ok (.iload_n 0, 1) := by decide +kernel
theorem dX6_channelFor_20 : decode cX6_channelFor 20 = .ok (.ireturn, 1) := by decide +kernel
theorem dX6_channelFor_21 : decode cX6_channelFor 21 = .ok (.iload_n 0, 1) := by decide +kernel
theorem dX6_channelFor_22 : decode cX6_channelFor 22 = .ok (.iload_n 3, 1) := by decide +kernel
theorem dX6_channelFor_23 : decode cX6_channelFor 23 = .ok (.irem, 1) := by decide +kernel
theorem dX6_channelFor_24 : decode cX6_channelFor 24 = .ok (.istore 4, 2) := by decide +kernel
theorem dX6_channelFor_26 : decode cX6_channelFor 26 = .ok (.iconst 0, 1) := by decide +kernel
theorem dX6_channelFor_27 : decode cX6_channelFor 27 = .ok (.istore 5, 2) := by decide +kernel
theorem dX6_channelFor_29 : decode cX6_channelFor 29 = .ok (.iload 5, 2) := by decide +kernel
theorem dX6_channelFor_31 : decode cX6_channelFor 31 = .ok (.bipush 37, 2) := by decide +kernel
theorem dX6_channelFor_33 : decode cX6_channelFor 33 = .ok (.if_icmp .ge 31, 3) := by decide +kernel
theorem dX6_channelFor_36 : decode cX6_channelFor 36 = .ok (.lload_n 1, 1) := by decide +kernel
theorem dX6_channelFor_37 : decode cX6_channelFor 37 = .ok (.iload 5, 2) := by decide +kernel
theorem dX6_channelFor_39 : decode cX6_channelFor 39 = .ok (.lushr, 1) := by decide +kernel
theorem dX6_channelFor_40 : decode cX6_channelFor 40 = .ok (.lconst 1, 1) := by decide +kernel
theorem dX6_channelFor_41 : decode cX6_channelFor 41 = .ok (.land, 1) := by decide +kernel
theorem dX6_channelFor_42 : decode cX6_channelFor 42 = .ok (.lconst 1, 1) := by decide +kernel
theorem dX6_channelFor_43 : decode cX6_channelFor 43 = .ok (.lcmp, 1) := by decide +kernel
theorem dX6_channelFor_44 : decode cX6_channelFor 44 = .ok (.ifCond .ne 14, 3) := by decide +kernel
theorem dX6_channelFor_47 : decode cX6_channelFor 47 = .ok (.iload 4, 2) := by decide +kernel
theorem dX6_channelFor_49 : decode cX6_channelFor 49 = .ok (.ifCond .ne 6, 3) := by decide +kernel
theorem dX6_channelFor_52 : decode cX6_channelFor 52 = .ok (.iload 5, 2) := by decide +kernel
theorem dX6_channelFor_54 : decode cX6_channelFor 54 = .ok (.ireturn, 1) := by decide +kernel
theorem dX6_channelFor_55 : decode cX6_channelFor 55 = .ok (.iinc 4 (-1), 3) := by decide +kernel
theorem dX6_channelFor_58 : decode cX6_channelFor 58 = .ok (.iinc 5 1, 3) := by decide +kernel
theorem dX6_channelFor_61 : decode cX6_channelFor 61 = .ok (.goto (-32), 3) := by decide +kernel
theorem dX6_channelFor_64 : decode cX6_channelFor 64 = .ok (.iload_n 0, 1) := by decide +kernel
theorem dX6_channelFor_65 : decode cX6_channelFor 65 = .ok (.ireturn, 1) := by decide +kernel
theorem dX6_pass_0 : decode cX6_pass 0 = .ok (.aload_n 0, 1) := by decide +kernel
theorem dX6_pass_1 : decode cX6_pass 1 = .ok (.aload_n 0, 1) := by decide +kernel
theorem dX6_pass_2 : decode cX6_pass 2 = .ok (.getfield 54, 3) := by decide +kernel
theorem dX6_pass_5 : decode cX6_pass 5 = .ok (.iconst 1, 1) := by decide +kernel
theorem dX6_pass_6 : decode cX6_pass 6 = .ok (.iadd, 1) := by decide +kernel
theorem dX6_pass_7 : decode cX6_pass 7 = .ok (.ldc 75, 2) := by decide +kernel
theorem dX6_pass_9 : decode cX6_pass 9 = .ok (.iand, 1) := by decide +kernel
theorem dX6_pass_10 : decode cX6_pass 10 = .ok (.putfield 54, 3) := by decide +kernel
theorem dX6_pass_13 : decode cX6_pass 13 = .ok (.aload_n 0, 1) := by decide +kernel
theorem dX6_pass_14 : decode cX6_pass 14 = .ok (.dup, 1) := by decide +kernel
theorem dX6_pass_15 : decode cX6_pass 15 = .ok (.getfield 44, 3) := by decide +kernel
theorem dX6_pass_18 : decode cX6_pass 18 = .ok (.aload_n 0, 1) := by decide +kernel
theorem dX6_pass_19 : decode cX6_pass 19 = .ok (.getfield 31, 3) := by decide +kernel
theorem dX6_pass_22 : decode cX6_pass 22 = .ok (.iadd, 1) := by decide +kernel
theorem dX6_pass_23 : decode cX6_pass 23 = .ok (.putfield 44, 3) := by decide +kernel
theorem dX6_pass_26 : decode cX6_pass 26 = .ok (.return_, 1) := by decide +kernel
theorem dX6_giveReason_0 : decode cX6_giveReason 0 = .ok (.aload_n 0, 1) := by decide +kernel
theorem dX6_giveReason_1 : decode cX6_giveReason 1 = .ok (.getfield 15, 3) := by decide +kernel
theorem dX6_giveReason_4 : decode cX6_giveReason 4 = .ok (.iconst (-1), 1) := by decide +kernel
theorem dX6_giveReason_5 : decode cX6_giveReason 5 = .ok (.if_icmp .ne 8, 3) := by decide +kernel
theorem dX6_giveReason_8 : decode cX6_giveReason 8 = .ok (.aload_n 0, 1) := by decide +kernel
theorem dX6_giveReason_9 : decode cX6_giveReason 9 = .ok (.iload_n 1, 1) := by decide +kernel
theorem dX6_giveReason_10 : decode cX6_giveReason 10 = .ok (.putfield 15, 3) := by decide +kernel
theorem dX6_giveReason_13 : decode cX6_giveReason 13 = .ok (.return_, 1) := by decide +kernel
theorem dX6_reasonToEnd_0 : decode cX6_reasonToEnd 0 = .ok (.aload_n 0, 1) := by decide +kernel
theorem dX6_reasonToEnd_1 : decode cX6_reasonToEnd 1 = .ok (.getfield 15, 3) := by decide +kernel
theorem dX6_reasonToEnd_4 : decode cX6_reasonToEnd 4 = .ok (.iconst (-1), 1) := by decide +kernel
theorem dX6_reasonToEnd_5 : decode cX6_reasonToEnd 5 = .ok (.if_icmp .eq 8, 3) := by decide +kernel
theorem dX6_reasonToEnd_8 : decode cX6_reasonToEnd 8 = .ok (.aload_n 0, 1) := by decide +kernel
theorem dX6_reasonToEnd_9 : decode cX6_reasonToEnd 9 = .ok (.getfield 15, 3) := by decide +kernel
theorem dX6_reasonToEnd_12 : decode cX6_reasonToEnd 12 = .ok (.ireturn, 1) := by decide +kernel
theorem dX6_reasonToEnd_13 : decode cX6_reasonToEnd 13 = .ok (.iload_n 1, 1) := by decide +kernel
theorem dX6_reasonToEnd_14 : decode cX6_reasonToEnd 14 = .ok (.aload_n 0, 1) := by decide +kernel
theorem dX6_reasonToEnd_15 : decode cX6_reasonToEnd 15 = .ok (.getfield 47, 3) := by decide +kernel
theorem dX6_reasonToEnd_18 : decode cX6_reasonToEnd 18 = .ok (.isub, 1) := by decide +kernel
theorem dX6_reasonToEnd_19 : decode cX6_reasonToEnd 19 = .ok (.istore_n 2, 1) := by decide +kernel
theorem dX6_reasonToEnd_20 : decode cX6_reasonToEnd 20 = .ok (.aload_n 0, 1) := by decide +kernel
theorem dX6_reasonToEnd_21 : decode cX6_reasonToEnd 21 = .ok (.getfield 60, 3) := by decide +kernel
theorem dX6_reasonToEnd_24 : decode cX6_reasonToEnd 24 = .ok (.ifCond .eq 18, 3) := by decide +kernel
theorem dX6_reasonToEnd_27 : decode cX6_reasonToEnd 27 = .ok (.iload_n 2, 1) := by decide +kernel
theorem dX6_reasonToEnd_28 : decode cX6_reasonToEnd 28 = .ok (.aload_n 0, 1) := by decide +kernel
theorem dX6_reasonToEnd_29 : decode cX6_reasonToEnd 29 = .ok (.getfield 34, 3) := by decide +kernel
theorem dX6_reasonToEnd_32 : decode cX6_reasonToEnd 32 = .ok (.if_icmp .lt 8, 3) := by decide +kernel
theorem dX6_reasonToEnd_35 : decode cX6_reasonToEnd 35 = .ok (.bipush 8, 2) := by decide +kernel
theorem dX6_reasonToEnd_37 : decode cX6_reasonToEnd 37 = .ok (.goto 4, 3) := by decide +kernel
theorem dX6_reasonToEnd_40 : decode cX6_reasonToEnd 40 = .ok (.iconst (-1), 1) := by decide +kernel
theorem dX6_reasonToEnd_41 : decode cX6_reasonToEnd 41 = .ok (.ireturn, 1) := by decide +kernel
theorem dX6_reasonToEnd_42 : decode cX6_reasonToEnd 42 = .ok (.iload_n 2, 1) := by decide +kernel
theorem dX6_reasonToEnd_43 : decode cX6_reasonToEnd 43 = .ok (.bipush 6, 2) := by decide +kernel
theorem dX6_reasonToEnd_45 : decode cX6_reasonToEnd 45 = .ok (.aload_n 0, 1) := by decide +kernel
theorem dX6_reasonToEnd_46 : decode cX6_reasonToEnd 46 = .ok (.getfield 31, 3) := by decide +kernel
theorem dX6_reasonToEnd_49 : decode cX6_reasonToEnd 49 = .ok (.imul, 1) := by decide +kernel
theorem dX6_reasonToEnd_50 : decode cX6_reasonToEnd 50 = .ok (.if_icmp .lt 8, 3) := by decide +kernel
theorem dX6_reasonToEnd_53 : decode cX6_reasonToEnd 53 = .ok (.bipush 62, 2) := by decide +kernel
theorem dX6_reasonToEnd_55 : decode cX6_reasonToEnd 55 = .ok (.goto 4, 3) := by decide +kernel
theorem dX6_reasonToEnd_58 : decode cX6_reasonToEnd 58 = .ok (.iconst (-1), 1) := by decide +kernel
theorem dX6_reasonToEnd_59 : decode cX6_reasonToEnd 59 = .ok (.ireturn, 1) := by decide +kernel
theorem dX7_init_0 : decode cX7_init 0 = .ok (.aload_n 0, 1) := by decide +kernel
theorem dX7_init_1 : decode cX7_init 1 = .ok (.invokespecial 3, 3) := by decide +kernel
theorem dX7_init_4 : decode cX7_init 4 = .ok (.aload_n 0, 1) := by decide +kernel
theorem dX7_init_5 : decode cX7_init 5 = .ok (.new 9, 3) := by decide +kernel
theorem dX7_init_8 : decode cX7_init 8 = .ok (.dup, 1) := by decide +kernel
theorem dX7_init_9 : decode cX7_init 9 = .ok (.bipush 31, 2) := by decide +kernel
theorem dX7_init_11 : decode cX7_init 11 = .ok (.invokespecial 11, 3) := by decide +kernel
theorem dX7_init_14 : decode cX7_init 14 = .ok (.putfield 14, 3) := by decide +kernel
theorem dX7_init_17 : decode cX7_init 17 = .ok (.aload_n 0, 1) := by decide +kernel
theorem dX7_init_18 : decode cX7_init 18 = .ok (.bipush 6, 2) := by decide +kernel
theorem dX7_init_20 : decode cX7_init 20 = .ok (.anewarray 9, 3) := by decide +kernel
theorem dX7_init_23 : decode cX7_init 23 = .ok (.putfield 20, 3) := by decide +kernel
theorem dX7_init_26 : decode cX7_init 26 = .ok (.aload_n 0, 1) := by decide +kernel
theorem dX7_init_27 : decode cX7_init 27 = .ok (.bipush 8, 2) := by decide +kernel
theorem dX7_init_29 : decode cX7_init 29 = .ok (.anewarray 9, 3) := by decide +kernel
theorem dX7_init_32 : decode cX7_init 32 = .ok (.putfield 24, 3) := by decide +kernel
theorem dX7_init_35 : decode cX7_init 35 = .ok (.aload_n 0, 1) := by decide +kernel
theorem dX7_init_36 : decode cX7_init 36 = .ok (.new 9, 3) := by decide +kernel
theorem dX7_init_39 : decode cX7_init 39 = .ok (.dup, 1) := by decide +kernel
theorem dX7_init_40 : decode cX7_init 40 = .ok (.bipush 96, 2) := by decide +kernel
theorem dX7_init_42 : decode cX7_init 42 = .ok (.invokespecial 11, 3) := by decide +kernel
theorem dX7_init_45 : decode cX7_init 45 = .ok (.putfield 27, 3) := by decide +kernel
theorem dX7_init_48 : decode cX7_init 48 = .ok (.aload_n 0, 1) := by decide +kernel
theorem dX7_init_49 : decode cX7_init 49 = .ok (.new 9, 3) := by decide +kernel
theorem dX7_init_52 : decode cX7_init 52 = .ok (.dup, 1) := by decide +kernel
theorem dX7_init_53 : decode cX7_init 53 = .ok (.bipush 92, 2) := by decide +kernel
theorem dX7_init_55 : decode cX7_init 55 = .ok (.invokespecial 11, 3) := by decide +kernel
theorem dX7_init_58 : decode cX7_init 58 = .ok (.putfield 30, 3) := by decide +kernel
theorem dX7_init_61 : decode cX7_init 61 = .ok (.aload_n 0, 1) := by decide +kernel
theorem dX7_init_62 : decode cX7_init 62 = .ok (.new 9, 3) := by decide +kernel
theorem dX7_init_65 : decode cX7_init 65 = .ok (.dup, 1) := by decide +kernel
theorem dX7_init_66 : decode cX7_init 66 = .ok (.bipush 31, 2) := by decide +kernel
theorem dX7_init_68 : decode cX7_init 68 = .ok (.invokespecial 11, 3) := by decide +kernel
theorem dX7_init_71 : decode cX7_init 71 = .ok (.putfield 33, 3) := by decide +kernel
theorem dX7_init_74 : decode cX7_init 74 = .ok (.iconst 0, 1) := by decide +kernel
theorem dX7_init_75 : decode cX7_init 75 = .ok (.istore_n 1, 1) := by decide +kernel
theorem dX7_init_76 : decode cX7_init 76 = .ok (.iload_n 1, 1) := by decide +kernel
theorem dX7_init_77 : decode cX7_init 77 = .ok (.aload_n 0, 1) := by decide +kernel
theorem dX7_init_78 : decode cX7_init 78 = .ok (.getfield 20, 3) := by decide +kernel
theorem dX7_init_81 : decode cX7_init 81 = .ok (.arraylength, 1) := by decide +kernel
theorem dX7_init_82 : decode cX7_init 82 = .ok (.if_icmp .ge 24, 3) := by decide +kernel
theorem dX7_init_85 : decode cX7_init 85 = .ok (.aload_n 0, 1) := by decide +kernel
theorem dX7_init_86 : decode cX7_init 86 = .ok (.getfield 20, 3) := by decide +kernel
theorem dX7_init_89 : decode cX7_init 89 = .ok (.iload_n 1, 1) := by decide +kernel
theorem dX7_init_90 : decode cX7_init 90 = .ok (.new 9, 3) := by decide +kernel
theorem dX7_init_93 : decode cX7_init 93 = .ok (.dup, 1) := by decide +kernel
theorem dX7_init_94 : decode cX7_init 94 = .ok (.bipush 27, 2) := by decide +kernel
theorem dX7_init_96 : decode cX7_init 96 = .ok (.invokespecial 11, 3) := by decide +kernel
theorem dX7_init_99 : decode cX7_init 99 = .ok (.aastore, 1) := by decide +kernel
theorem dX7_init_100 : decode cX7_init 100 = .ok (.iinc 1 1, 3) := by decide +kernel
theorem dX7_init_103 : decode cX7_init 103 = .ok (.goto (-27), 3) := by decide +kernel
theorem dX7_init_106 : decode cX7_init 106 = .ok (.iconst 0, 1) := by decide +kernel
theorem dX7_init_107 : decode cX7_init 107 = .ok (.istore_n 1, 1) := by decide +kernel
theorem dX7_init_108 : decode cX7_init 108 = .ok (.iload_n 1, 1) := by decide +kernel
theorem dX7_init_109 : decode cX7_init 109 = .ok (.aload_n 0, 1) := by decide +kernel
theorem dX7_init_110 : decode cX7_init 110 = .ok (.getfield 24, 3) := by decide +kernel
theorem dX7_init_113 : decode cX7_init 113 = .ok (.arraylength, 1) := by decide +kernel
theorem dX7_init_114 : decode cX7_init 114 = .ok (.if_icmp .ge 24, 3) := by decide +kernel
theorem dX7_init_117 : decode cX7_init 117 = .ok (.aload_n 0, 1) := by decide +kernel
theorem dX7_init_118 : decode cX7_init 118 = .ok (.getfield 24, 3) := by decide +kernel
theorem dX7_init_121 : decode cX7_init 121 = .ok (.iload_n 1, 1) := by decide +kernel
theorem dX7_init_122 : decode cX7_init 122 = .ok (.new 9, 3) := by decide +kernel
theorem dX7_init_125 : decode cX7_init 125 = .ok (.dup, 1) := by decide +kernel
theorem dX7_init_126 : decode cX7_init 126 = .ok (.bipush 96, 2) := by decide +kernel
theorem dX7_init_128 : decode cX7_init 128 = .ok (.invokespecial 11, 3) := by decide +kernel
theorem dX7_init_131 : decode cX7_init 131 = .ok (.aastore, 1) := by decide +kernel
theorem dX7_init_132 : decode cX7_init 132 = .ok (.iinc 1 1, 3) := by decide +kernel
theorem dX7_init_135 : decode cX7_init 135 = .ok (.goto (-27), 3) := by decide +kernel
theorem dX7_init_138 : decode cX7_init 138 = .ok (.return_, 1) := by decide +kernel
theorem dX7_reset_0 : decode cX7_reset 0 = .ok (.aload_n 0, 1) := by decide +kernel
theorem dX7_reset_1 : decode cX7_reset 1 = .ok (.invokevirtual 36, 3) := by decide +kernel
theorem dX7_reset_4 : decode cX7_reset 4 = .ok (.aload_n 0, 1) := by decide +kernel
theorem dX7_reset_5 : decode cX7_reset 5 = .ok (.iconst 0, 1) := by decide +kernel
theorem dX7_reset_6 : decode cX7_reset 6 = .ok (.putfield 39, 3) := by decide +kernel
theorem dX7_reset_9 : decode cX7_reset 9 = .ok (.aload_n 0, 1) := by decide +kernel
theorem dX7_reset_10 : decode cX7_reset 10 = .ok (.iconst 0, 1) := by decide +kernel
theorem dX7_reset_11 : decode cX7_reset 11 = .ok (.putfield 43, 3) := by decide +kernel
theorem dX7_reset_14 : decode cX7_reset 14 = .ok (.aload_n 0, 1) := by decide +kernel
theorem dX7_reset_15 : decode cX7_reset 15 = .ok (.iconst 0, 1) := by decide +kernel
theorem dX7_reset_16 : decode cX7_reset 16 = .ok (.putfield 46, 3) := by decide +kernel
theorem dX7_reset_19 : decode cX7_reset 19 = .ok (.aload_n 0, 1) := by decide +kernel
theorem dX7_reset_20 : decode cX7_reset 20 = .ok (.iconst 0, 1) := by decide +kernel
theorem dX7_reset_21 : decode cX7_reset 21 = .ok (.putfield 50, 3) := by decide +kernel
theorem dX7_reset_24 : decode cX7_reset 24 = .ok (.aload_n 0, 1) := by decide +kernel
theorem dX7_reset_25 : decode cX7_reset 25 = .ok (.iconst 0, 1) := by decide +kernel
theorem dX7_reset_26 : decode cX7_reset 26 = .ok (.putfield 53, 3) := by decide +kernel
theorem dX7_reset_29 : decode cX7_reset 29 = .ok (.aload_n 0, 1) := by decide +kernel
theorem dX7_reset_30 : decode cX7_reset 30 = .ok (.iconst 0, 1) := by decide +kernel
theorem dX7_reset_31 : decode cX7_reset 31 = .ok (.putfield 56, 3) := by decide +kernel
theorem dX7_reset_34 : decode cX7_reset 34 = .ok (.aload_n 0, 1) := by decide +kernel
theorem dX7_reset_35 : decode cX7_reset 35 = .ok (.iconst 0, 1) := by decide +kernel
theorem dX7_reset_36 : decode cX7_reset 36 = .ok (.putfield 59, 3) := by decide +kernel
theorem dX7_reset_39 : decode cX7_reset 39 = .ok (.return_, 1) := by decide +kernel
theorem dX7_dropCurrent_0 : decode cX7_dropCurrent 0 = .ok (.aload_n 0, 1) := by decide +kernel
theorem dX7_dropCurrent_1 : decode cX7_dropCurrent 1 = .ok (.getfield 14, 3) := by decide +kernel
theorem dX7_dropCurrent_4 : decode cX7_dropCurrent 4 = .ok (.invokevirtual 62, 3) := by decide +kernel
theorem dX7_dropCurrent_7 : decode cX7_dropCurrent 7 = .ok (.aload_n 0, 1) := by decide +kernel
theorem dX7_dropCurrent_8 : decode cX7_dropCurrent 8 = .ok (.iconst 0, 1) := by decide +kernel
theorem dX7_dropCurrent_9 : decode cX7_dropCurrent 9 = .ok (.putfield 65, 3) := by decide +kernel
theorem dX7_dropCurrent_12 : decode cX7_dropCurrent 12 = .ok (.aload_n 0, 1) := by decide +kernel
theorem dX7_dropCurrent_13 : decode cX7_dropCurrent 13 = .ok (.iconst 0, 1) := by decide +kernel
theorem dX7_dropCurrent_14 : decode cX7_dropCurrent 14 = .ok (.putfield 68, 3) := by decide +kernel
theorem dX7_dropCurrent_17 : decode cX7_dropCurrent 17 = .ok (.return_, 1) := by decide +kernel
theorem dX7_isFull_0 : decode cX7_isFull 0 = .ok (.aload_n 0, 1) := by decide +kernel
theorem dX7_isFull_1 : decode cX7_isFull 1 = .ok (.getfield 53, 3) := by decide +kernel
theorem dX7_isFull_4 : decode cX7_isFull 4 = .ok (.bipush 8, 2) := by decide +kernel
theorem dX7_isFull_6 : decode cX7_isFull 6 = .ok (.if_icmp .lt 7, 3) := by decide +kernel
theorem dX7_isFull_9 : decode cX7_isFull 9 = .ok (.iconst 1, 1) := by decide +kernel
theorem dX7_isFull_10 : decode cX7_isFull 10 = .ok (.goto 4, 3) := by decide +kernel
theorem dX7_isFull_13 : decode cX7_isFull 13 = .ok (.iconst 0, 1) := by decide +kernel
theorem dX7_isFull_14 : decode cX7_isFull 14 = .ok (.ireturn, 1) := by decide +kernel
theorem dX7_newControl_0 : decode cX7_newControl 0 = .ok (.aload_n 0, 1) := by decide +kernel
theorem dX7_newControl_1 : decode cX7_newControl 1 = .ok (.getfield 33, 3) := by decide +kernel
theorem dX7_newControl_4 : decode cX7_newControl 4 = .ok (.astore_n 2, 1) := by decide +kernel
theorem dX7_newControl_5 : decode cX7_newControl 5 = .ok (.aload_n 0, 1) := by decide +kernel
theorem dX7_newControl_6 : decode cX7_newControl 6 = .ok (.getfield 43, 3) := by decide +kernel
theorem dX7_newControl_9 : decode cX7_newControl 9 = .ok (.aload_n 0, 1) := by decide +kernel
theorem dX7_newControl_10 : decode cX7_newControl 10 = .ok (.getfield 20, 3) := by decide +kernel
theorem dX7_newControl_13 : decode cX7_newControl 13 = .ok (.arraylength, 1) := by decide +kernel
theorem dX7_newControl_14 : decode cX7_newControl 14 = .ok (.if_icmp .ge 34, 3) := by decide +kernel
theorem dX7_newControl_17 : decode cX7_newControl 17 = .ok (.aload_n 0, 1) := by decide +kernel
theorem dX7_newControl_18 : decode cX7_newControl 18 = .ok (.getfield 20, 3) := by decide +kernel
theorem dX7_newControl_21 : decode cX7_newControl 21 = .ok (.aload_n 0, 1) := by decide +kernel
theorem dX7_newControl_22 : decode cX7_newControl 22 = .ok (.getfield 39, 3) := by decide +kernel
theorem dX7_newControl_25 : decode cX7_newControl 25 = .ok (.aload_n 0, 1) := by decide +kernel
theorem dX7_newControl_26 : decode cX7_newControl 26 = .ok (.getfield 43, 3) := by decide +kernel
theorem dX7_newControl_29 : decode cX7_newControl 29 = .ok (.iadd, 1) := by decide +kernel
theorem dX7_newControl_30 : decode cX7_newControl 30 = .ok (.aload_n 0, 1) := by decide +kernel
theorem dX7_newControl_31 : decode cX7_newControl 31 = .ok (.getfield 20, 3) := by decide +kernel
theorem dX7_newControl_34 : decode cX7_newControl 34 = .ok (.arraylength, 1) := by decide +kernel
theorem dX7_newControl_35 : decode cX7_newControl 35 = .ok (.irem, 1) := by decide +kernel
theorem dX7_newControl_36 : decode cX7_newControl 36 = .ok (.aaload, 1) := by decide +kernel
theorem dX7_newControl_37 : decode cX7_newControl 37 = .ok (.astore_n 2, 1) := by decide +kernel
theorem dX7_newControl_38 : decode cX7_newControl 38 = .ok (.aload_n 0, 1) := by decide +kernel
theorem dX7_newControl_39 : decode cX7_newControl 39 = .ok (.dup, 1) := by decide +kernel
theorem dX7_newControl_40 : decode cX7_newControl 40 = .ok (.getfield 43, 3) := by decide +kernel
theorem dX7_newControl_43 : decode cX7_newControl 43 = .ok (.iconst 1, 1) := by decide +kernel
theorem dX7_newControl_44 : decode cX7_newControl 44 = .ok (.iadd, 1) := by decide +kernel
theorem dX7_newControl_45 : decode cX7_newControl 45 = .ok (.putfield 43, 3) := by decide +kernel
theorem dX7_newControl_48 : decode cX7_newControl 48 = .ok (.aload_n 2, 1) := by decide +kernel
theorem dX7_newControl_49 : decode cX7_newControl 49 = .ok (.invokevirtual 62, 3) := by decide +kernel
theorem dX7_newControl_52 : decode cX7_newControl 52 = .ok (.aload_n 2, 1) := by decide +kernel
theorem dX7_newControl_53 : decode cX7_newControl 53 = .ok (.iload_n 1, 1) := by decide +kernel
theorem dX7_newControl_54 : decode cX7_newControl 54 = .ok (.invokevirtual 71, 3) := by decide +kernel
theorem dX7_newControl_57 : decode cX7_newControl 57 = .ok (.aload_n 2, 1) := by decide +kernel
theorem dX7_newControl_58 : decode cX7_newControl 58 = .ok (.areturn, 1) := by decide +kernel
theorem dX7_addVersion_0 : decode cX7_addVersion 0 = .ok (.aload_n 0, 1) := by decide +kernel
theorem dX7_addVersion_1 : decode cX7_addVersion 1 = .ok (.bipush 12, 2) := by decide +kernel
theorem dX7_addVersion_3 : decode cX7_addVersion 3 = .ok (.invokevirtual 74, 3) := by decide +kernel
theorem dX7_addVersion_6 : decode cX7_addVersion 6 = .ok (.astore_n 1, 1) := by decide +kernel
theorem dX7_addVersion_7 : decode cX7_addVersion 7 = .ok (.aload_n 1, 1) := by decide +kernel
theorem dX7_addVersion_8 : decode cX7_addVersion 8 = .ok (.bipush 9, 2) := by decide +kernel
theorem dX7_addVersion_10 : decode cX7_addVersion 10 = .ok (.invokevirtual 71, 3) := by decide +kernel
theorem dX7_addVersion_13 : decode cX7_addVersion 13 = .ok (.aload_n 1, 1) := by decide +kernel
theorem dX7_addVersion_14 : decode cX7_addVersion 14 = .ok (.lconst 1, 1) := by decide +kernel
theorem dX7_addVersion_15 : decode cX7_addVersion 15 = .ok (.iconst 2, 1) := by decide +kernel
theorem dX7_addVersion_16 : decode cX7_addVersion 16 = .ok (.invokevirtual 78, 3) := by decide +kernel
theorem dX7_addVersion_19 : decode cX7_addVersion 19 = .ok (.aload_n 1, 1) := by decide +kernel
theorem dX7_addVersion_20 : decode cX7_addVersion 20 = .ok (.ldc2_w 82, 3) := by decide +kernel
theorem dX7_addVersion_23 : decode cX7_addVersion 23 = .ok (.iconst 2, 1) := by decide +kernel
theorem dX7_addVersion_24 : decode cX7_addVersion 24 = .ok (.invokevirtual 78, 3) := by decide +kernel
theorem dX7_addVersion_27 : decode cX7_addVersion 27 = .ok (.aload_n 0, 1) := by decide +kernel
theorem dX7_addVersion_28 : decode cX7_addVersion 28 = .ok (.iconst 1, 1) := by decide +kernel
theorem dX7_addVersion_29 : decode cX7_addVersion 29 = .ok (.putfield 46, 3) := by decide +kernel
theorem dX7_addVersion_32 : decode cX7_addVersion 32 = .ok (.return_, 1) := by decide +kernel
theorem dX7_post_0 : decode cX7_post 0 = .ok (.aload_n 0, 1) := by decide +kernel
theorem dX7_post_1 : decode cX7_post 1 = .ok (.invokevirtual 84, 3) := by decide +kernel
theorem dX7_post_4 : decode cX7_post 4 = .ok (.ifCond .eq 4, 3) := by decide +kernel
theorem dX7_post_7 : decode cX7_post 7 = .ok (.return_, 1) := by decide +kernel
theorem dX7_post_8 : decode cX7_post 8 = .ok (.aload_n 0, 1) := by decide +kernel
theorem dX7_post_9 : decode cX7_post 9 = .ok (.getfield 24, 3) := by decide +kernel
theorem dX7_post_12 : decode cX7_post 12 = .ok (.aload_n 0, 1) := by decide +kernel
theorem dX7_post_13 : decode cX7_post 13 = .ok (.getfield 50, 3) := by decide +kernel
theorem dX7_post_16 : decode cX7_post 16 = .ok (.aload_n 0, 1) := by decide +kernel
theorem dX7_post_17 : decode cX7_post 17 = .ok (.getfield 53, 3) := by decide +kernel
theorem dX7_post_20 : decode cX7_post 20 = .ok (.iadd, 1) := by decide +kernel
theorem dX7_post_21 : decode cX7_post 21 = .ok (.aload_n 0, 1) := by decide +kernel
theorem dX7_post_22 : decode cX7_post 22 = .ok (.getfield 24, 3) := by decide +kernel
theorem dX7_post_25 : decode cX7_post 25 = .ok (.arraylength, 1) := by decide +kernel
theorem dX7_post_26 : decode cX7_post 26 = .ok (.irem, 1) := by decide +kernel
theorem dX7_post_27 : decode cX7_post 27 = .ok (.aaload, 1) := by decide +kernel
theorem dX7_post_28 : decode cX7_post 28 = .ok (.astore_n 3, 1) := by decide +kernel
theorem dX7_post_29 : decode cX7_post 29 = .ok (.aload_n 3, 1) := by decide +kernel
theorem dX7_post_30 : decode cX7_post 30 = .ok (.invokevirtual 62, 3) := by decide +kernel
theorem dX7_post_33 : decode cX7_post 33 = .ok (.aload_n 3, 1) := by decide +kernel
theorem dX7_post_34 : decode cX7_post 34 = .ok (.aload_n 2, 1) := by decide +kernel
theorem dX7_post_35 : decode cX7_post 35 = .ok (.getfield 88, 3) := by decide +kernel
theorem dX7_post_38 : decode cX7_post 38 = .ok (.i2l, 1) := by decide +kernel
theorem dX7_post_39 : decode cX7_post 39 = .ok (.iconst 2, 1) := by decide +kernel
theorem dX7_post_40 : decode cX7_post 40 = .ok (.invokevirtual 78, 3) := by decide +kernel
theorem dX7_post_43 : decode cX7_post 43 = .ok (.aload_n 3, 1) := by decide +kernel
theorem dX7_post_44 : decode cX7_post 44 = .ok (.iload_n 1, 1) := by decide +kernel
theorem dX7_post_45 : decode cX7_post 45 = .ok (.i2l, 1) := by decide +kernel
theorem dX7_post_46 : decode cX7_post 46 = .ok (.iconst 2, 1) := by decide +kernel
theorem dX7_post_47 : decode cX7_post 47 = .ok (.invokevirtual 78, 3) := by decide +kernel
theorem dX7_post_50 : decode cX7_post 50 = .ok (.aload_n 3, 1) := by decide +kernel
theorem dX7_post_51 : decode cX7_post 51 = .ok (.aload_n 2, 1) := by decide +kernel
theorem dX7_post_52 : decode cX7_post 52 = .ok (.iconst 0, 1) := by decide +kernel
theorem dX7_post_53 : decode cX7_post 53 = .ok (.aload_n 2, 1) := by decide +kernel
theorem dX7_post_54 : decode cX7_post 54 = .ok (.getfield 88, 3) := by decide +kernel
theorem dX7_post_57 : decode cX7_post 57 = .ok (.invokevirtual 91, 3) := by decide +kernel
theorem dX7_post_60 : decode cX7_post 60 = .ok (.aload_n 0, 1) := by decide +kernel
theorem dX7_post_61 : decode cX7_post 61 = .ok (.dup, 1) := by decide +kernel
theorem dX7_post_62 : decode cX7_post 62 = .ok (.getfield 53, 3) := by decide +kernel
theorem dX7_post_65 : decode cX7_post 65 = .ok (.iconst 1, 1) := by decide +kernel
theorem dX7_post_66 : decode cX7_post 66 = .ok (.iadd, 1) := by decide +kernel
theorem dX7_post_67 : decode cX7_post 67 = .ok (.putfield 53, 3) := by decide +kernel
theorem dX7_post_70 : decode cX7_post 70 = .ok (.return_, 1) := by decide +kernel
theorem dX7_pickNext_0 : decode cX7_pickNext 0 = .ok (.aload_n 0, 1) := by decide +kernel
theorem dX7_pickNext_1 : decode cX7_pickNext 1 = .ok (.invokevirtual 36, 3) := by decide +kernel
theorem dX7_pickNext_4 : decode cX7_pickNext 4 = .ok (.aload_n 0, 1) := by decide +kernel
theorem dX7_pickNext_5 : decode cX7_pickNext 5 = .ok (.getfield 43, 3) := by decide +kernel
theorem dX7_pickNext_8 : decode cX7_pickNext 8 = .ok (.ifCond .le 65, 3) := by decide +kernel
theorem dX7_pickNext_11 : decode cX7_pickNext 11 = .ok (.aload_n 0, 1) := by decide +kernel
theorem dX7_pickNext_12 : decode cX7_pickNext 12 = .ok (.getfield 14, 3) := by decide +kernel
theorem dX7_pickNext_15 : decode cX7_pickNext 15 = .ok (.aload_n 0, 1) := by decide +kernel
theorem dX7_pickNext_16 : decode cX7_pickNext 16 = .ok (.getfield 20, 3) := by decide +kernel
theorem dX7_pickNext_19 : decode cX7_pickNext 19 = .ok (.aload_n 0, 1) := by decide +kernel
theorem dX7_pickNext_20 : decode cX7_pickNext 20 = .ok (.getfield 39, 3) := by decide +kernel
theorem dX7_pickNext_23 : decode cX7_pickNext 23 = .ok (.aaload, 1) := by decide +kernel
theorem dX7_pickNext_24 : decode cX7_pickNext 24 = .ok (.invokevirtual 95, 3) := by decide +kernel
theorem dX7_pickNext_27 : decode cX7_pickNext 27 = .ok (.aload_n 0, 1) := by decide +kernel
theorem dX7_pickNext_28 : decode cX7_pickNext 28 = .ok (.iconst 3, 1) := by decide +kernel
theorem dX7_pickNext_29 : decode cX7_pickNext 29 = .ok (.putfield 65, 3) := by decide +kernel
theorem dX7_pickNext_32 : decode cX7_pickNext 32 = .ok (.aload_n 0, 1) := by decide +kernel
theorem dX7_pickNext_33 : decode cX7_pickNext 33 = .ok (.aload_n 0, 1) := by decide +kernel
theorem dX7_pickNext_34 : decode cX7_pickNext 34 = .ok (.getfield 14, 3) := by decide +kernel
theorem dX7_pickNext_37 : decode cX7_pickNext 37 = .ok (.iconst 0, 1) := by decide +kernel
theorem dX7_pickNext_38 : decode cX7_pickNext 38 = .ok (.invokevirtual 99, 3) := by decide +kernel
theorem dX7_pickNext_41 : decode cX7_pickNext 41 = .ok (.putfield 68, 3) := by decide +kernel
theorem dX7_pickNext_44 : decode cX7_pickNext 44 = .ok (.aload_n 0, 1) := by decide +kernel
theorem dX7_pickNext_45 : decode cX7_pickNext 45 = .ok (.aload_n 0, 1) := by decide +kernel
theorem dX7_pickNext_46 : decode cX7_pickNext 46 = .ok (.getfield 39, 3) := by decide +kernel
theorem dX7_pickNext_49 : decode cX7_pickNext 49 = .ok (.iconst 1, 1) := by decide +kernel
theorem dX7_pickNext_50 : decode cX7_pickNext 50 = .ok (.iadd, 1) := by decide +kernel
theorem dX7_pickNext_51 : decode cX7_pickNext 51 = .ok (.aload_n 0, 1) := by decide +kernel
theorem dX7_pickNext_52 : decode cX7_pickNext 52 = .ok (.getfield 20, 3) := by decide +kernel
theorem dX7_pickNext_55 : decode cX7_pickNext 55 = .ok (.arraylength, 1) := by decide +kernel
theorem dX7_pickNext_56 : decode cX7_pickNext 56 = .ok (.irem, 1) := by decide +kernel
theorem dX7_pickNext_57 : decode cX7_pickNext 57 = .ok (.putfield 39, 3) := by decide +kernel
theorem dX7_pickNext_60 : decode cX7_pickNext 60 = .ok (.aload_n 0, 1) := by decide +kernel
theorem dX7_pickNext_61 : decode cX7_pickNext 61 = .ok (.dup, 1) := by decide +kernel
theorem dX7_pickNext_62 : decode cX7_pickNext 62 = .ok (.getfield 43, 3) := by decide +kernel
theorem dX7_pickNext_65 : decode cX7_pickNext 65 = .ok (.iconst 1, 1) := by decide +kernel
theorem dX7_pickNext_66 : decode cX7_pickNext 66 = .ok (.isub, 1) := by decide +kernel
theorem dX7_pickNext_67 : decode cX7_pickNext 67 = .ok (.putfield 43, 3) := by decide +kernel
theorem dX7_pickNext_70 : decode cX7_pickNext 70 = .ok (.goto 35, 3) := by decide +kernel
theorem dX7_pickNext_73 : decode cX7_pickNext 73 = .ok (.iload_n 1, 1) := by decide +kernel
theorem dX7_pickNext_74 : decode cX7_pickNext 74 = .ok (.ifCond .ne 26, 3) := by decide +kernel
theorem dX7_pickNext_77 : decode cX7_pickNext 77 = .ok (.aload_n 0, 1) := by decide +kernel
theorem dX7_pickNext_78 : decode cX7_pickNext 78 = .ok (.getfield 53, 3) := by decide +kernel
theorem dX7_pickNext_81 : decode cX7_pickNext 81 = .ok (.ifCond .le 19, 3) := by decide +kernel
theorem dX7_pickNext_84 : decode cX7_pickNext 84 = .ok (.aload_n 0, 1) := by decide +kernel
theorem dX7_pickNext_85 : decode cX7_pickNext 85 = .ok (.aload_n 0, 1) := by decide +kernel
theorem dX7_pickNext_86 : decode cX7_pickNext 86 = .ok (.getfield 24, 3) := by decide +kernel
theorem dX7_pickNext_89 : decode cX7_pickNext 89 = .ok (.aload_n 0, 1) := by decide +kernel
theorem dX7_pickNext_90 : decode cX7_pickNext 90 = .ok (.getfield 50, 3) := by decide +kernel
theorem dX7_pickNext_93 : decode cX7_pickNext 93 = .ok (.aaload, 1) := by decide +kernel
theorem dX7_pickNext_94 : decode cX7_pickNext 94 = .ok (.invokevirtual 103, 3) := by decide +kernel
theorem dX7_pickNext_97 : decode cX7_pickNext 97 = .ok (.goto 8, 3) := by decide +kernel
theorem dX7_pickNext_100 : decode cX7_pickNext 100 = .ok (.aload_n 0, 1) := by decide +kernel
theorem dX7_pickNext_101 : decode cX7_pickNext 101 = .ok (.iconst 1, 1) := by decide +kernel
theorem dX7_pickNext_102 : decode cX7_pickNext 102 = .ok (.putfield 65, 3) := by decide +kernel
theorem dX7_pickNext_105 : decode cX7_pickNext 105 = .ok (.return_, 1) := by decide +kernel
theorem dX7_pickPiece_0 : decode cX7_pickPiece 0 = .ok (.aload_n 0, 1) := by decide +kernel
theorem dX7_pickPiece_1 : decode cX7_pickPiece 1 = .ok (.aload_n 0, 1) := by decide +kernel
theorem dX7_pickPiece_2 : decode cX7_pickPiece 2 = .ok (.getfield 56, 3) := by decide +kernel
theorem dX7_pickPiece_5 : decode cX7_pickPiece 5 = .ok (.ifCond .ne 7, 3) := by decide +kernel
theorem dX7_pickPiece_8 : decode cX7_pickPiece 8 = .ok (.iconst 2, 1) := by decide +kernel
theorem dX7_pickPiece_9 : decode cX7_pickPiece 9 = .ok (.goto 4, 3) := by decide +kernel
theorem dX7_pickPiece_12 : decode cX7_pickPiece 12 = .ok (.iconst 1, 1) := by decide +kernel
theorem dX7_pickPiece_13 : decode cX7_pickPiece 13 = .ok (.putfield 65, 3) := by decide +kernel
theorem dX7_pickPiece_16 : decode cX7_pickPiece 16 = .ok (.aload_n 0, 1) := by decide +kernel
theorem dX7_pickPiece_17 : decode cX7_pickPiece 17 = .ok (.getfield 14, 3) := by decide +kernel
theorem dX7_pickPiece_20 : decode cX7_pickPiece 20 = .ok (.aload_n 1, 1) := by decide +kernel
theorem dX7_pickPiece_21 : decode cX7_pickPiece 21 = .ok (.aload_n 0, 1) := by decide +kernel
theorem dX7_pickPiece_22 : decode cX7_pickPiece 22 = .ok (.getfield 56, 3) := by decide +kernel
theorem dX7_pickPiece_25 : decode cX7_pickPiece 25 = .ok (.bipush 27, 2) := by decide +kernel
theorem dX7_pickPiece_27 : decode cX7_pickPiece 27 = .ok (.invokevirtual 91, 3) := by decide +kernel
theorem dX7_pickPiece_30 : decode cX7_pickPiece 30 = .ok (.aload_n 0, 1) := by decide +kernel
theorem dX7_pickPiece_31 : decode cX7_pickPiece 31 = .ok (.dup, 1) := by decide +kernel
theorem dX7_pickPiece_32 : decode cX7_pickPiece 32 = .ok (.getfield 56, 3) := by decide +kernel
theorem dX7_pickPiece_35 : decode cX7_pickPiece 35 = .ok (.bipush 27, 2) := by decide +kernel
theorem dX7_pickPiece_37 : decode cX7_pickPiece 37 = .ok (.iadd, 1) := by decide +kernel
theorem dX7_pickPiece_38 : decode cX7_pickPiece 38 = .ok (.putfield 56, 3) := by decide +kernel
theorem dX7_pickPiece_41 : decode cX7_pickPiece 41 = .ok (.aload_n 0, 1) := by decide +kernel
theorem dX7_pickPiece_42 : decode cX7_pickPiece 42 = .ok (.getfield 56, 3) := by decide +kernel
theorem dX7_pickPiece_45 : decode cX7_pickPiece 45 = .ok (.aload_n 1, 1) := by decide +kernel
theorem dX7_pickPiece_46 : decode cX7_pickPiece 46 = .ok (.getfield 88, 3) := by decide +kernel
theorem dX7_pickPiece_49 : decode cX7_pickPiece 49 = .ok (.if_icmp .lt 34, 3) := by decide +kernel
theorem dX7_pickPiece_52 : decode cX7_pickPiece 52 = .ok (.aload_n 0, 1) := by decide +kernel
theorem dX7_pickPiece_53 : decode cX7_pickPiece 53 = .ok (.iconst 0, 1) := by decide +kernel
theorem dX7_pickPiece_54 : decode cX7_pickPiece 54 = .ok (.putfield 56, 3) := by decide +kernel
theorem dX7_pickPiece_57 : decode cX7_pickPiece 57 = .ok (.aload_n 0, 1) := by decide +kernel
theorem dX7_pickPiece_58 : decode cX7_pickPiece 58 = .ok (.aload_n 0, 1) := by decide +kernel
theorem dX7_pickPiece_59 : decode cX7_pickPiece 59 = .ok (.getfield 50, 3) := by decide +kernel
theorem dX7_pickPiece_62 : decode cX7_pickPiece 62 = .ok (.iconst 1, 1) := by decide +kernel
theorem dX7_pickPiece_63 : decode cX7_pickPiece 63 = .ok (.iadd, 1) := by decide +kernel
theorem dX7_pickPiece_64 : decode cX7_pickPiece 64 = .ok (.aload_n 0, 1) := by decide +kernel
theorem dX7_pickPiece_65 : decode cX7_pickPiece 65 = .ok (.getfield 24, 3) := by decide +kernel
theorem dX7_pickPiece_68 : decode cX7_pickPiece 68 = .ok (.arraylength, 1) := by decide +kernel
theorem dX7_pickPiece_69 : decode cX7_pickPiece 69 = .ok (.irem, 1) := by decide +kernel
theorem dX7_pickPiece_70 : decode cX7_pickPiece 70 = .ok (.putfield 50, 3) := by decide +kernel
theorem dX7_pickPiece_73 : decode cX7_pickPiece 73 = .ok (.aload_n 0, 1) := by decide +kernel
theorem dX7_pickPiece_74 : decode cX7_pickPiece 74 = .ok (.dup, 1) := by decide +kernel
theorem dX7_pickPiece_75 : decode cX7_pickPiece 75 = .ok (.getfield 53, 3) := by decide +kernel
theorem dX7_pickPiece_78 : decode cX7_pickPiece 78 = .ok (.iconst 1, 1) := by decide +kernel
theorem dX7_pickPiece_79 : decode cX7_pickPiece 79 = .ok (.isub, 1) := by decide +kernel
theorem dX7_pickPiece_80 : decode cX7_pickPiece 80 = .ok (.putfield 53, 3) := by decide +kernel
theorem dX7_pickPiece_83 : decode cX7_pickPiece 83 = .ok (.return_, 1) := by decide +kernel
theorem dX7_gather_0 : decode cX7_gather 0 = .ok (.iload_n 1, 1) := by decide +kernel
theorem dX7_gather_1 : decode cX7_gather 1 = .ok (.iconst 2, 1) := by decide +kernel
theorem dX7_gather_2 : decode cX7_gather 2 = .ok (.if_icmp .ne 37, 3) := by decide +kernel
theorem dX7_gather_5 : decode cX7_gather 5 = .ok (.aload_n 0, 1) := by decide +kernel
theorem dX7_gather_6 : decode cX7_gather 6 = .ok (.getfield 27, 3) := by decide +kernel
theorem dX7_gather_9 : decode cX7_gather 9 = .ok (.invokevirtual 62, 3) := by decide +kernel
theorem dX7_gather_12 : decode cX7_gather 12 = .ok (.aload_n 0, 1) := by decide +kernel
theorem dX7_gather_13 : decode cX7_gather 13 = .ok (.aload_n 2, 1) := by decide +kernel
theorem dX7_gather_14 : decode cX7_gather 14 = .ok (.getfield 88, 3) := by decide +kernel
theorem dX7_gather_17 : decode cX7_gather 17 = .ok (.iconst 4, 1) := by decide +kernel
theorem dX7_gather_18 : decode cX7_gather 18 = .ok (.if_icmp .lt 17, 3) := by decide +kernel
theorem dX7_gather_21 : decode cX7_gather 21 = .ok (.aload_n 2, 1) := by decide +kernel
theorem dX7_gather_22 : decode cX7_gather 22 = .ok (.iconst 0, 1) := by decide +kernel
theorem dX7_gather_23 : decode cX7_gather 23 = .ok (.invokevirtual 106, 3) := by decide +kernel
theorem dX7_gather_26 : decode cX7_gather 26 = .ok (.bipush 92, 2) := by decide +kernel
theorem dX7_gather_28 : decode cX7_gather 28 = .ok (.if_icmp .gt 7, 3) := by decide +kernel
theorem dX7_gather_31 : decode cX7_gather 31 = .ok (.iconst 1, 1) := by decide +kernel
theorem dX7_gather_32 : decode cX7_gather 32 = .ok (.goto 4, 3) := by decide +kernel
theorem dX7_gather_35 : decode cX7_gather 35 = .ok (.iconst 0, 1) := by decide +kernel
theorem dX7_gather_36 : decode cX7_gather 36 = .ok (.putfield 59, 3) := by decide +kernel
theorem dX7_gather_39 : decode cX7_gather 39 = .ok (.aload_n 0, 1) := by decide +kernel
theorem dX7_gather_40 : decode cX7_gather 40 = .ok (.getfield 59, 3) := by decide +kernel
theorem dX7_gather_43 : decode cX7_gather 43 = .ok (.ifCond .ne 5, 3) := by decide +kernel
theorem dX7_gather_46 : decode cX7_gather 46 = .ok (.iconst 0, 1) := by decide +kernel
theorem dX7_gather_47 : decode cX7_gather 47 = .ok (.ireturn, 1) := by decide +kernel
theorem dX7_gather_48 : decode cX7_gather 48 = .ok (.iconst 4, 1) := by decide +kernel
theorem dX7_gather_49 : decode cX7_gather 49 = .ok (.aload_n 0, 1) := by decide +kernel
theorem dX7_gather_50 : decode cX7_gather 50 = .ok (.getfield 27, 3) := by decide +kernel
theorem dX7_gather_53 : decode cX7_gather 53 = .ok (.getfield 88, 3) := by decide +kernel
theorem dX7_gather_56 : decode cX7_gather 56 = .ok (.ifCond .ne 7, 3) := by decide +kernel
theorem dX7_gather_59 : decode cX7_gather 59 = .ok (.aload_n 2, 1) := by decide +kernel
theorem dX7_gather_60 : decode cX7_gather 60 = .ok (.goto 7, 3) := by decide +kernel
theorem dX7_gather_63 : decode cX7_gather 63 = .ok (.aload_n 0, 1) := by decide +kernel
theorem dX7_gather_64 : decode cX7_gather 64 = .ok (.getfield 27, 3) := by decide +kernel
theorem dX7_gather_67 : decode cX7_gather 67 = .ok (.iconst 0, 1) := by decide +kernel
theorem dX7_gather_68 : decode cX7_gather 68 = .ok (.invokevirtual 106, 3) := by decide +kernel
theorem dX7_gather_71 : decode cX7_gather 71 = .ok (.iadd, 1) := by decide +kernel
theorem dX7_gather_72 : decode cX7_gather 72 = .ok (.istore_n 3, 1) := by decide +kernel
theorem dX7_gather_73 : decode cX7_gather 73 = .ok (.aload_n 0, 1) := by decide +kernel
theorem dX7_gather_74 : decode cX7_gather 74 = .ok (.getfield 27, 3) := by decide +kernel
theorem dX7_gather_77 : decode cX7_gather 77 = .ok (.getfield 88, 3) := by decide +kernel
theorem dX7_gather_80 : decode cX7_gather 80 = .ok (.aload_n 2, 1) := by decide +kernel
theorem dX7_gather_81 : decode cX7_gather 81 = .ok (.getfield 88, 3) := by decide +kernel
theorem dX7_gather_84 : decode cX7_gather 84 = .ok (.iadd, 1) := by decide +kernel
theorem dX7_gather_85 : decode cX7_gather 85 = .ok (.iload_n 3, 1) := by decide +kernel
theorem dX7_gather_86 : decode cX7_gather 86 = .ok (.if_icmp .le 10, 3) := by decide +kernel
theorem dX7_gather_89 : decode cX7_gather 89 = .ok (.aload_n 0, 1) := by decide +kernel
theorem dX7_gather_90 : decode cX7_gather 90 = .ok (.iconst 0, 1) := by decide +kernel
theorem dX7_gather_91 : decode cX7_gather 91 = .ok (.putfield 59, 3) := by decide +kernel
theorem dX7_gather_94 : decode cX7_gather 94 = .ok (.iconst 0, 1) := by decide +kernel
theorem dX7_gather_95 : decode cX7_gather 95 = .ok (.ireturn, 1) := by decide +kernel
theorem dX7_gather_96 : decode cX7_gather 96 = .ok (.aload_n 0, 1) := by decide +kernel
theorem dX7_gather_97 : decode cX7_gather 97 = .ok (.getfield 27, 3) := by decide +kernel
theorem dX7_gather_100 : decode cX7_gather 100 = .ok (.aload_n 2, 1) := by decide +kernel
theorem dX7_gather_101 : decode cX7_gather 101 = .ok (.iconst 0, 1) := by decide +kernel
theorem dX7_gather_102 : decode cX7_gather 102 = .ok (.aload_n 2, 1) := by decide +kernel
theorem dX7_gather_103 : decode cX7_gather 103 = .ok (.getfield 88, 3) := by decide +kernel
theorem dX7_gather_106 : decode cX7_gather 106 = .ok (.invokevirtual 91, 3) := by decide +kernel
theorem dX7_gather_109 : decode cX7_gather 109 = .ok (.aload_n 0, 1) := by decide +kernel
theorem dX7_gather_110 : decode cX7_gather 110 = .ok (.getfield 27, 3) := by decide +kernel
theorem dX7_gather_113 : decode cX7_gather 113 = .ok (.getfield 88, 3) := by decide +kernel
theorem dX7_gather_116 : decode cX7_gather 116 = .ok (.iload_n 3, 1) := by decide +kernel
theorem dX7_gather_117 : decode cX7_gather 117 = .ok (.if_icmp .ge 5, 3) := by decide +kernel
theorem dX7_gather_120 : decode cX7_gather 120 = .ok (.iconst 0, 1) := by decide +kernel
theorem dX7_gather_121 : decode cX7_gather 121 = .ok (.ireturn, 1) := by decide +kernel
theorem dX7_gather_122 : decode cX7_gather 122 = .ok (.aload_n 0, 1) := by decide +kernel
theorem dX7_gather_123 : decode cX7_gather 123 = .ok (.iconst 0, 1) := by decide +kernel
theorem dX7_gather_124 : decode cX7_gather 124 = .ok (.putfield 59, 3) := by decide +kernel
theorem dX7_gather_127 : decode cX7_gather 127 = .ok (.aload_n 0, 1) := by decide +kernel
theorem dX7_gather_128 : decode cX7_gather 128 = .ok (.aload_n 0, 1) := by decide +kernel
theorem dX7_gather_129 : decode cX7_gather 129 = .ok (.getfield 27, 3) := by decide +kernel
theorem dX7_gather_132 : decode cX7_gather 132 = .ok (.iconst 2, 1) := by decide +kernel
theorem dX7_gather_133 : decode cX7_gather 133 = .ok (.invokevirtual 106, 3) := by decide +kernel
theorem dX7_gather_136 : decode cX7_gather 136 = .ok (.putfield 109, 3) := by decide +kernel
theorem dX7_gather_139 : decode cX7_gather 139 = .ok (.aload_n 0, 1) := by decide +kernel
theorem dX7_gather_140 : decode cX7_gather 140 = .ok (.getfield 30, 3) := by decide +kernel
theorem dX7_gather_143 : decode cX7_gather 143 = .ok (.invokevirtual 62, 3) := by decide +kernel
theorem dX7_gather_146 : decode cX7_gather 146 = .ok (.aload_n 0, 1) := by decide +kernel
theorem dX7_gather_147 : decode cX7_gather 147 = .ok (.getfield 30, 3) := by decide +kernel
theorem dX7_gather_150 : decode cX7_gather 150 = .ok (.aload_n 0, 1) := by decide +kernel
theorem dX7_gather_151 : decode cX7_gather 151 = .ok (.getfield 27, 3) := by decide +kernel
theorem dX7_gather_154 : decode cX7_gather 154 = .ok (.iconst 4, 1) := by decide +kernel
theorem dX7_gather_155 : decode cX7_gather 155 = .ok (.iload_n 3, 1) := by decide +kernel
theorem dX7_gather_156 : decode cX7_gather 156 = .ok (.invokevirtual 91, 3) := by decide +kernel
theorem dX7_gather_159 : decode cX7_gather 159 = .ok (.aload_n 0, 1) := by decide +kernel
theorem dX7_gather_160 : decode cX7_gather 160 = .ok (.invokevirtual 84, 3) := by decide +kernel
theorem dX7_gather_163 : decode cX7_gather 163 = .ok (.ifCond .ne 34, 3) := by decide +kernel
theorem dX7_gather_166 : decode cX7_gather 166 = .ok (.aload_n 0, 1) := by decide +kernel
theorem dX7_gather_167 : decode cX7_gather 167 = .ok (.getfield 30, 3) := by decide +kernel
theorem dX7_gather_170 : decode cX7_gather 170 = .ok (.getfield 88, 3) := by decide +kernel
theorem dX7_gather_173 : decode cX7_gather 173 = .ok (.ifCond .le 24, 3) := by decide +kernel
theorem dX7_gather_176 : decode cX7_gather 176 = .ok (.aload_n 0, 1) := by decide +kernel
theorem dX7_gather_177 : decode cX7_gather 177 = .ok (.getfield 109, 3) := by decide +kernel
theorem dX7_gather_180 : decode cX7_gather 180 = .ok (.iconst 4, 1) := by decide +kernel
theorem dX7_gather_181 : decode cX7_gather 181 = .ok (.if_icmp .eq 12, 3) := by decide +kernel
theorem dX7_gather_184 : decode cX7_gather 184 = .ok (.aload_n 0, 1) := by decide +kernel
theorem dX7_gather_185 : decode cX7_gather 185 = .ok (.getfield 109, 3) := by decide +kernel
theorem dX7_gather_188 : decode cX7_gather 188 = .ok (.bipush 6, 2) := by decide +kernel
theorem dX7_gather_190 : decode cX7_gather 190 = .ok (.if_icmp .ne 7, 3) := by decide +kernel
theorem dX7_gather_193 : decode cX7_gather 193 = .ok (.iconst 1, 1) := by decide +kernel
theorem dX7_gather_194 : decode cX7_gather 194 = .ok (.goto 4, 3) := by decide +kernel
theorem dX7_gather_197 : decode cX7_gather 197 = .ok (.iconst 0, 1) := by decide +kernel
theorem dX7_gather_198 : decode cX7_gather 198 = .ok (.ireturn, 1) := by decide +kernel
theorem dX8_init_0 : decode cX8_init 0 = .ok (.aload_n 0, 1) := by decide +kernel
theorem dX8_init_1 : decode cX8_init 1 = .ok (.invokespecial 3, 3) := by decide +kernel
theorem dX8_init_4 : decode cX8_init 4 = .ok (.aload_n 0, 1) := by decide +kernel
theorem dX8_init_5 : decode cX8_init 5 = .ok (.iconst (-1), 1) := by decide +kernel
theorem dX8_init_6 : decode cX8_init 6 = .ok (.putfield 9, 3) := by decide +kernel
theorem dX8_init_9 : decode cX8_init 9 = .ok (.aload_n 0, 1) := by decide +kernel
theorem dX8_init_10 : decode cX8_init 10 = .ok (.bipush 16, 2) := by decide +kernel
theorem dX8_init_12 : decode cX8_init 12 = .ok (.newarray .int, 2) := by decide +kernel
theorem dX8_init_14 : decode cX8_init 14 = .ok (.putfield 15, 3) := by decide +kernel
theorem dX8_init_17 : decode cX8_init 17 = .ok (.aload_n 0, 1) := by decide +kernel
theorem dX8_init_18 : decode cX8_init 18 = .ok (.bipush 16, 2) := by decide +kernel
theorem dX8_init_20 : decode cX8_init 20 = .ok (.newarray .int, 2) := by decide +kernel
theorem dX8_init_22 : decode cX8_init 22 = .ok (.putfield 19, 3) := by decide +kernel
theorem dX8_init_25 : decode cX8_init 25 = .ok (.aload_n 0, 1) := by decide +kernel
theorem dX8_init_26 : decode cX8_init 26 = .ok (.bipush 16, 2) := by decide +kernel
theorem dX8_init_28 : decode cX8_init 28 = .ok (.newarray .int, 2) := by decide +kernel
theorem dX8_init_30 : decode cX8_init 30 = .ok (.putfield 22, 3) := by decide +kernel
theorem dX8_init_33 : decode cX8_init 33 = .ok (.aload_n 0, 1) := by decide +kernel
theorem dX8_init_34 : decode cX8_init 34 = .ok (.bipush 16, 2) := by decide +kernel
theorem dX8_init_36 : decode cX8_init 36 = .ok (.newarray .int, 2) := by decide +kernel
theorem dX8_init_38 : decode cX8_init 38 = .ok (.putfield 25, 3) := by decide +kernel
theorem dX8_init_41 : decode cX8_init 41 = .ok (.aload_n 0, 1) := by decide +kernel
theorem dX8_init_42 : decode cX8_init 42 = .ok (.bipush 16, 2) := by decide +kernel
theorem dX8_init_44 : decode cX8_init 44 = .ok (.newarray .int, 2) := by decide +kernel
theorem dX8_init_46 : decode cX8_init 46 = .ok (.putfield 28, 3) := by decide +kernel
theorem dX8_init_49 : decode cX8_init 49 = .ok (.aload_n 0, 1) := by decide +kernel
theorem dX8_init_50 : decode cX8_init 50 = .ok (.aload_n 1, 1) := by decide +kernel
theorem dX8_init_51 : decode cX8_init 51 = .ok (.putfield 31, 3) := by decide +kernel
theorem dX8_init_54 : decode cX8_init 54 = .ok (.return_, 1) := by decide +kernel
theorem dX8_start_0 : decode cX8_start 0 = .ok (.iconst 1, 1) := by decide +kernel
theorem dX8_start_1 : decode cX8_start 1 = .ok (.aload_n 2, 1) := by decide +kernel
theorem dX8_start_2 : decode cX8_start 2 = .ok (.invokestatic 35, 3) := by decide +kernel
theorem dX8_start_5 : decode cX8_start 5 = .ok (.aload_n 0, 1) := by decide +kernel
theorem dX8_start_6 : decode cX8_start 6 = .ok (.aload_n 2, 1) := by decide +kernel
theorem dX8_start_7 : decode cX8_start 7 = .ok (.iconst 2, 1) := by decide +kernel
theorem dX8_start_8 : decode cX8_start 8 = .ok (.invokevirtual 39, 3) := by decide +kernel
theorem dX8_start_11 : decode cX8_start 11 = .ok (.aload_n 0, 1) := by decide +kernel
theorem dX8_start_12 : decode cX8_start 12 = .ok (.iload_n 1, 1) := by decide +kernel
theorem dX8_start_13 : decode cX8_start 13 = .ok (.invokevirtual 43, 3) := by decide +kernel
theorem dX8_start_16 : decode cX8_start 16 = .ok (.aload_n 0, 1) := by decide +kernel
theorem dX8_start_17 : decode cX8_start 17 = .ok (.iconst 1, 1) := by decide +kernel
theorem dX8_start_18 : decode cX8_start 18 = .ok (.putfield 47, 3) := by decide +kernel
theorem dX8_start_21 : decode cX8_start 21 = .ok (.return_, 1) := by decide +kernel
theorem dX8_hear_0 : decode cX8_hear 0 = .ok (.aload_n 1, 1) := by decide +kernel
theorem dX8_hear_1 : decode cX8_hear 1 = .ok (.getfield 50, 3) := by decide +kernel
theorem dX8_hear_4 : decode cX8_hear 4 = .ok (.iconst 4, 1) := by decide +kernel
theorem dX8_hear_5 : decode cX8_hear 5 = .ok (.if_icmp .ne 7, 3) := by decide +kernel
theorem dX8_hear_8 : decode cX8_hear 8 = .ok (.iconst 1, 1) := by decide +kernel
theorem dX8_hear_9 : decode cX8_hear 9 = .ok (.goto 4, 3) := by decide +kernel
theorem dX8_hear_12 : decode cX8_hear 12 = .ok (.iconst 0, 1) := by decide +kernel
theorem dX8_hear_13 : decode cX8_hear 13 = .ok (.istore 4, 2) := by decide +kernel
theorem dX8_hear_15 : decode cX8_hear 15 = .ok (.aload_n 2, 1) := by decide +kernel
theorem dX8_hear_16 : decode cX8_hear 16 = .ok (.iconst 0, 1) := by decide +kernel
theorem dX8_hear_17 : decode cX8_hear 17 = .ok (.invokevirtual 55, 3) := by decide +kernel
theorem dX8_hear_20 : decode cX8_hear 20 = .ok (.tableswitch 196 1 5 #[36, 60, 103, 130, 157], 36) := by decide +kernel
theorem dX8_hear_56 : decode cX8_hear 56 = .ok (.aload_n 2, 1) := by decide +kernel
theorem dX8_hear_57 : decode cX8_hear 57 = .ok (.getfield 61, 3) := by decide +kernel
theorem dX8_hear_60 : decode cX8_hear 60 = .ok (.bipush 7, 2) := by decide +kernel
theorem dX8_hear_62 : decode cX8_hear 62 = .ok (.if_icmp .ne 154, 3) := by decide +kernel
theorem dX8_hear_65 : decode cX8_hear 65 = .ok (.iload 4, 2) := by decide +kernel
theorem dX8_hear_67 : decode cX8_hear 67 = .ok (.ifCond .ne 149, 3) := by decide +kernel
theorem dX8_hear_70 : decode cX8_hear 70 = .ok (.aload_n 0, 1) := by decide +kernel
theorem dX8_hear_71 : decode cX8_hear 71 = .ok (.aload_n 1, 1) := by decide +kernel
theorem dX8_hear_72 : decode cX8_hear 72 = .ok (.aload_n 2, 1) := by decide +kernel
theorem dX8_hear_73 : decode cX8_hear 73 = .ok (.aload_n 3, 1) := by decide +kernel
theorem dX8_hear_74 : decode cX8_hear 74 = .ok (.invokevirtual 64, 3) := by decide +kernel
theorem dX8_hear_77 : decode cX8_hear 77 = .ok (.goto 139, 3) := by decide +kernel
theorem dX8_hear_80 : decode cX8_hear 80 = .ok (.aload_n 2, 1) := by decide +kernel
theorem dX8_hear_81 : decode cX8_hear 81 = .ok (.getfield 61, 3) := by decide +kernel
theorem dX8_hear_84 : decode cX8_hear 84 = .ok (.bipush 7, 2) := by decide +kernel
theorem dX8_hear_86 : decode cX8_hear 86 = .ok (.if_icmp .ne 130, 3) := by decide +kernel
theorem dX8_hear_89 : decode cX8_hear 89 = .ok (.iload 4, 2) := by decide +kernel
theorem dX8_hear_91 : decode cX8_hear 91 = .ok (.ifCond .eq 125, 3) := by decide +kernel
theorem dX8_hear_94 : decode cX8_hear 94 = .ok (.aload_n 0, 1) := by decide +kernel
theorem dX8_hear_95 : decode cX8_hear 95 = .ok (.getfield 47, 3) := by decide +kernel
theorem dX8_hear_98 : decode cX8_hear 98 = .ok (.iconst 1, 1) := by decide +kernel
theorem dX8_hear_99 : decode cX8_hear 99 = .ok (.if_icmp .ne 117, 3) := by decide +kernel
theorem dX8_hear_102 : decode cX8_hear 102 = .ok (.aload_n 0, 1) := by decide +kernel
theorem dX8_hear_103 : decode cX8_hear 103 = .ok (.aload_n 2, 1) := by decide +kernel
theorem dX8_hear_104 : decode cX8_hear 104 = .ok (.bipush 9, 2) := by decide +kernel
theorem dX8_hear_106 : decode cX8_hear 106 = .ok (.invokevirtual 39, 3) := by decide +kernel
theorem dX8_hear_109 : decode cX8_hear 109 = .ok (.aload_n 0, 1) := by decide +kernel
theorem dX8_hear_110 : decode cX8_hear 110 = .ok (.aload_n 1, 1) := by decide +kernel
theorem dX8_hear_111 : decode cX8_hear 111 = .ok (.aload_n 3, 1) := by decide +kernel
theorem dX8_hear_112 : decode cX8_hear 112 = .ok (.invokevirtual 68, 3) := by decide +kernel
theorem dX8_hear_115 : decode cX8_hear 115 = .ok (.aload_n 0, 1) := by decide +kernel
theorem dX8_hear_116 : decode cX8_hear 116 = .ok (.iconst 2, 1) := by decide +kernel
theorem dX8_hear_117 : decode cX8_hear 117 = .ok (.putfield 47, 3) := by decide +kernel
theorem dX8_hear_120 : decode cX8_hear 120 = .ok (.goto 96, 3) := by decide +kernel
theorem dX8_hear_123 : decode cX8_hear 123 = .ok (.aload_n 2, 1) := by decide +kernel
theorem dX8_hear_124 : decode cX8_hear 124 = .ok (.getfield 61, 3) := by decide +kernel
theorem dX8_hear_127 : decode cX8_hear 127 = .ok (.bipush 17, 2) := by decide +kernel
theorem dX8_hear_129 : decode cX8_hear 129 = .ok (.if_icmp .ne 87, 3) := by decide +kernel
theorem dX8_hear_132 : decode cX8_hear 132 = .ok (.aload_n 0, 1) := by decide +kernel
theorem dX8_hear_133 : decode cX8_hear 133 = .ok (.getfield 47, 3) := by decide +kernel
theorem dX8_hear_136 : decode cX8_hear 136 = .ok (.iconst 2, 1) := by decide +kernel
theorem dX8_hear_137 : decode cX8_hear 137 = .ok (.if_icmp .ne 79, 3) := by decide +kernel
theorem dX8_hear_140 : decode cX8_hear 140 = .ok (.aload_n 0, 1) := by decide +kernel
theorem dX8_hear_141 : decode cX8_hear 141 = .ok (.aload_n 1, 1) := by decide +kernel
theorem dX8_hear_142 : decode cX8_hear 142 = .ok (.aload_n 2, 1) := by decide +kernel
theorem dX8_hear_143 : decode cX8_hear 143 = .ok (.aload_n 3, 1) := by decide +kernel
theorem dX8_hear_144 : decode cX8_hear 144 = .ok (.invokevirtual 72, 3) := by decide +kernel
theorem dX8_hear_147 : decode cX8_hear 147 = .ok (.goto 69, 3) := by decide +kernel
theorem dX8_hear_150 : decode cX8_hear 150 = .ok (.aload_n 2, 1) := by decide +kernel
theorem dX8_hear_151 : decode cX8_hear 151 = .ok (.getfield 61, 3) := by decide +kernel
theorem dX8_hear_154 : decode cX8_hear 154 = .ok (.bipush 17, 2) := by decide +kernel
theorem dX8_hear_156 : decode cX8_hear 156 = .ok (.if_icmp .ne 60, 3) := by decide +kernel
theorem dX8_hear_159 : decode cX8_hear 159 = .ok (.aload_n 0, 1) := by decide +kernel
theorem dX8_hear_160 : decode cX8_hear 160 = .ok (.getfield 47, 3) := by decide +kernel
theorem dX8_hear_163 : decode cX8_hear 163 = .ok (.iconst 3, 1) := by decide +kernel
theorem dX8_hear_164 : decode cX8_hear 164 = .ok (.if_icmp .ne 52, 3) := by decide +kernel
theorem dX8_hear_167 : decode cX8_hear 167 = .ok (.aload_n 0, 1) := by decide +kernel
theorem dX8_hear_168 : decode cX8_hear 168 = .ok (.aload_n 1, 1) := by decide +kernel
theorem dX8_hear_169 : decode cX8_hear 169 = .ok (.aload_n 2, 1) := by decide +kernel
theorem dX8_hear_170 : decode cX8_hear 170 = .ok (.aload_n 3, 1) := by decide +kernel
theorem dX8_hear_171 : decode cX8_hear 171 = .ok (.invokevirtual 75, 3) := by decide +kernel
theorem dX8_hear_174 : decode cX8_hear 174 = .ok (.goto 42, 3) := by decide +kernel
theorem dX8_hear_177 : decode cX8_hear 177 = .ok (.aload_n 2, 1) := by decide +kernel
theorem dX8_hear_178 : decode cX8_hear 178 = .ok (.getfield 61, 3) := by decide +kernel
theorem dX8_hear_181 : decode cX8_hear 181 = .ok (.iconst 2, 1) := by decide +kernel
theorem dX8_hear_182 : decode cX8_hear 182 = .ok (.if_icmp .ne 34, 3) := by decide +kernel
theorem dX8_hear_185 : decode cX8_hear 185 = .ok (.aload_n 0, 1) := by decide +kernel
theorem dX8_hear_186 : decode cX8_hear 186 = .ok (.getfield 47, 3) := by decide +kernel
theorem dX8_hear_189 : decode cX8_hear 189 = .ok (.ifCond .eq 27, 3) := by decide +kernel
theorem dX8_hear_192 : decode cX8_hear 192 = .ok (.aload_n 0, 1) := by decide +kernel
theorem dX8_hear_193 : decode cX8_hear 193 = .ok (.iconst 0, 1) := by decide +kernel
theorem dX8_hear_194 : decode cX8_hear 194 = .ok (.putfield 47, 3) := by decide +kernel
theorem dX8_hear_197 : decode cX8_hear 197 = .ok (.aload_n 1, 1) := by decide +kernel
theorem dX8_hear_198 : decode cX8_hear 198 = .ok (.getfield 78, 3) := by decide +kernel
theorem dX8_hear_201 : decode cX8_hear 201 = .ok (.bipush 11, 2) := by decide +kernel
theorem dX8_hear_203 : decode cX8_hear 203 = .ok (.aload_n 2, 1) := by decide +kernel
theorem dX8_hear_204 : decode cX8_hear 204 = .ok (.iconst 1, 1) := by decide +kernel
theorem dX8_hear_205 : decode cX8_hear 205 = .ok (.invokevirtual 55, 3) := by decide +kernel
theorem dX8_hear_208 : decode cX8_hear 208 = .ok (.iconst 0, 1) := by decide +kernel
theorem dX8_hear_209 : decode cX8_hear 209 = .ok (.iconst 0, 1) := by decide +kernel
theorem dX8_hear_210 : decode cX8_hear 210 = .ok (.invokevirtual 82, 3) := by decide +kernel
theorem dX8_hear_213 : decode cX8_hear 213 = .ok (.goto 3, 3) := by decide +kernel
theorem dX8_hear_216 : decode cX8_hear 216 = .ok (.return_, 1) := by decide +kernel
theorem dX8_hearRequest_0 : decode cX8_hearRequest 0 = .ok (.aload_n 0, 1) := by decide +kernel
theorem dX8_hearRequest_1 : decode cX8_hearRequest 1 = .ok (.getfield 9, 3) := by decide +kernel
theorem dX8_hearRequest_4 : decode cX8_hearRequest 4 = .ok (.iconst (-1), 1) := by decide +kernel
theorem dX8_hearRequest_5 : decode cX8_hearRequest 5 = .ok (.if_icmp .ne 14, 3) := by decide +kernel
theorem dX8_hearRequest_8 : decode cX8_hearRequest 8 = .ok (.aload_n 0, 1) := by decide +kernel
theorem dX8_hearRequest_9 : decode cX8_hearRequest 9 = .ok (.iconst 5, 1) := by decide +kernel
theorem dX8_hearRequest_10 : decode cX8_hearRequest 10 = .ok (.aload_n 1, 1) := by decide +kernel
theorem dX8_hearRequest_11 : decode cX8_hearRequest 11 = .ok (.getfield 78, 3) := by decide +kernel
theorem dX8_hearRequest_14 : decode cX8_hearRequest 14 = .ok (.aload_n 3, 1) := by decide +kernel
theorem dX8_hearRequest_15 : decode cX8_hearRequest 15 = .ok (.invokevirtual 88, 3) := by decide +kernel
theorem dX8_hearRequest_18 : decode cX8_hearRequest 18 = .ok (.return_, 1) := by decide +kernel
theorem dX8_hearRequest_19 : decode cX8_hearRequest 19 = .ok (.aload_n 0, 1) := by decide +kernel
theorem dX8_hearRequest_20 : decode cX8_hearRequest 20 = .ok (.aload_n 2, 1) := by decide +kernel
theorem dX8_hearRequest_21 : decode cX8_hearRequest 21 = .ok (.iconst 2, 1) := by decide +kernel
theorem dX8_hearRequest_22 : decode cX8_hearRequest 22 = .ok (.invokevirtual 39, 3) := by decide +kernel
theorem dX8_hearRequest_25 : decode cX8_hearRequest 25 = .ok (.aload_n 0, 1) := by decide +kernel
theorem dX8_hearRequest_26 : decode cX8_hearRequest 26 = .ok (.aload_n 0, 1) := by decide +kernel
theorem dX8_hearRequest_27 : decode cX8_hearRequest 27 = .ok (.getfield 9, 3) := by decide +kernel
theorem dX8_hearRequest_30 : decode cX8_hearRequest 30 = .ok (.invokevirtual 43, 3) := by decide +kernel
theorem dX8_hearRequest_33 : decode cX8_hearRequest 33 = .ok (.iconst 2, 1) := by decide +kernel
theorem dX8_hearRequest_34 : decode cX8_hearRequest 34 = .ok (.aload_n 3, 1) := by decide +kernel
theorem dX8_hearRequest_35 : decode cX8_hearRequest 35 = .ok (.invokestatic 35, 3) := by decide +kernel
theorem dX8_hearRequest_38 : decode cX8_hearRequest 38 = .ok (.aload_n 0, 1) := by decide +kernel
theorem dX8_hearRequest_39 : decode cX8_hearRequest 39 = .ok (.aload_n 3, 1) := by decide +kernel
theorem dX8_hearRequest_40 : decode cX8_hearRequest 40 = .ok (.bipush 9, 2) := by decide +kernel
theorem dX8_hearRequest_42 : decode cX8_hearRequest 42 = .ok (.invokevirtual 39, 3) := by decide +kernel
theorem dX8_hearRequest_45 : decode cX8_hearRequest 45 = .ok (.aload_n 0, 1) := by decide +kernel
theorem dX8_hearRequest_46 : decode cX8_hearRequest 46 = .ok (.iconst 2, 1) := by decide +kernel
theorem dX8_hearRequest_47 : decode cX8_hearRequest 47 = .ok (.putfield 47, 3) := by decide +kernel
theorem dX8_hearRequest_50 : decode cX8_hearRequest 50 = .ok (.return_, 1) := by decide +kernel
theorem dX8_hearConfirm_0 : decode cX8_hearConfirm 0 = .ok (.aload_n 2, 1) := by decide +kernel
theorem dX8_hearConfirm_1 : decode cX8_hearConfirm 1 = .ok (.aload_n 0, 1) := by decide +kernel
theorem dX8_hearConfirm_2 : decode cX8_hearConfirm 2 = .ok (.getfield 25, 3) := by decide +kernel
theorem dX8_hearConfirm_5 : decode cX8_hearConfirm 5 = .ok (.iconst 1, 1) := by decide +kernel
theorem dX8_hearConfirm_6 : decode cX8_hearConfirm 6 = .ok (.invokevirtual 92, 3) := by decide +kernel
theorem dX8_hearConfirm_9 : decode cX8_hearConfirm 9 = .ok (.aload_n 1, 1) := by decide +kernel
theorem dX8_hearConfirm_10 : decode cX8_hearConfirm 10 = .ok (.getfield 50, 3) := by decide +kernel
theorem dX8_hearConfirm_13 : decode cX8_hearConfirm 13 = .ok (.iconst 4, 1) := by decide +kernel
theorem dX8_hearConfirm_14 : decode cX8_hearConfirm 14 = .ok (.if_icmp .ne 19, 3) := by decide +kernel
theorem dX8_hearConfirm_17 : decode cX8_hearConfirm 17 = .ok (.aload_n 3, 1) := by decide +kernel
theorem dX8_hearConfirm_18 : decode cX8_hearConfirm 18 = .ok (.iconst 4, 1) := by decide +kernel
theorem dX8_hearConfirm_19 : decode cX8_hearConfirm 19 = .ok (.invokevirtual 96, 3) := by decide +kernel
theorem dX8_hearConfirm_22 : decode cX8_hearConfirm 22 = .ok (.aload_n 3, 1) := by decide +kernel
theorem dX8_hearConfirm_23 : decode cX8_hearConfirm 23 = .ok (.aload_n 0, 1) := by decide +kernel
theorem dX8_hearConfirm_24 : decode cX8_hearConfirm 24 = .ok (.getfield 22, 3) := by decide +kernel
theorem dX8_hearConfirm_27 : decode cX8_hearConfirm 27 = .ok (.invokevirtual 99, 3) := by decide +kernel
theorem dX8_hearConfirm_30 : decode cX8_hearConfirm 30 = .ok (.goto 9, 3) := by decide +kernel
theorem dX8_hearConfirm_33 : decode cX8_hearConfirm 33 = .ok (.aload_n 0, 1) := by decide +kernel
theorem dX8_hearConfirm_34 : decode cX8_hearConfirm 34 = .ok (.aload_n 1, 1) := by decide +kernel
theorem dX8_hearConfirm_35 : decode cX8_hearConfirm 35 = .ok (.aload_n 3, 1) := by decide +kernel
theorem dX8_hearConfirm_36 : decode cX8_hearConfirm 36 = .ok (.invokevirtual 68, 3) := by decide +kernel
theorem dX8_hearConfirm_39 : decode cX8_hearConfirm 39 = .ok (.aload_n 0, 1) := by decide +kernel
theorem dX8_hearConfirm_40 : decode cX8_hearConfirm 40 = .ok (.iconst 3, 1) := by decide +kernel
theorem dX8_hearConfirm_41 : decode cX8_hearConfirm 41 = .ok (.putfield 47, 3) := by decide +kernel
theorem dX8_hearConfirm_44 : decode cX8_hearConfirm 44 = .ok (.return_, 1) := by decide +kernel
theorem dX8_hearRandom_0 : decode cX8_hearRandom 0 = .ok (.aload_n 2, 1) := by decide +kernel
theorem dX8_hearRandom_1 : decode cX8_hearRandom 1 = .ok (.aload_n 0, 1) := by decide +kernel
theorem dX8_hearRandom_2 : decode cX8_hearRandom 2 = .ok (.getfield 28, 3) := by decide +kernel
theorem dX8_hearRandom_5 : decode cX8_hearRandom 5 = .ok (.iconst 1, 1) := by decide +kernel
theorem dX8_hearRandom_6 : decode cX8_hearRandom 6 = .ok (.invokevirtual 92, 3) := by decide +kernel
theorem dX8_hearRandom_9 : decode cX8_hearRandom 9 = .ok (.aload_n 0, 1) := by decide +kernel
theorem dX8_hearRandom_10 : decode cX8_hearRandom 10 = .ok (.aload_n 1, 1) := by decide +kernel
theorem dX8_hearRandom_11 : decode cX8_hearRandom 11 = .ok (.invokevirtual 103, 3) := by decide +kernel
theorem dX8_hearRandom_14 : decode cX8_hearRandom 14 = .ok (.iconst 0, 1) := by decide +kernel
theorem dX8_hearRandom_15 : decode cX8_hearRandom 15 = .ok (.istore 4, 2) := by decide +kernel
theorem dX8_hearRandom_17 : decode cX8_hearRandom 17 = .ok (.iload 4, 2) := by decide +kernel
theorem dX8_hearRandom_19 : decode cX8_hearRandom 19 = .ok (.aload_n 0, 1) := by decide +kernel
theorem dX8_hearRandom_20 : decode cX8_hearRandom 20 = .ok (.getfield 25, 3) := by decide +kernel
theorem dX8_hearRandom_23 : decode cX8_hearRandom 23 = .ok (.arraylength, 1) := by decide +kernel
theorem dX8_hearRandom_24 : decode cX8_hearRandom 24 = .ok (.if_icmp .ge 47, 3) := by decide +kernel
theorem dX8_hearRandom_27 : decode cX8_hearRandom 27 = .ok (.iload 4, 2) := by decide +kernel
theorem dX8_hearRandom_29 : decode cX8_hearRandom 29 = .ok (.aload_n 0, 1) := by decide +kernel
theorem dX8_hearRandom_30 : decode cX8_hearRandom 30 = .ok (.getfield 28, 3) := by decide +kernel
theorem dX8_hearRandom_33 : decode cX8_hearRandom 33 = .ok (.arraylength, 1) := by decide +kernel
theorem dX8_hearRandom_34 : decode cX8_hearRandom 34 = .ok (.if_icmp .ge 37, 3) := by decide +kernel
theorem dX8_hearRandom_37 : decode cX8_hearRandom 37 = .ok (.aload_n 0, 1) := by decide +kernel
theorem dX8_hearRandom_38 : decode cX8_hearRandom 38 = .ok (.getfield 25, 3) := by decide +kernel
theorem dX8_hearRandom_41 : decode cX8_hearRandom 41 = .ok (.iload 4, 2) := by decide +kernel
theorem dX8_hearRandom_43 : decode cX8_hearRandom 43 = .ok (.iaload, 1) := by decide +kernel
theorem dX8_hearRandom_44 : decode cX8_hearRandom 44 = .ok (.aload_n 0, 1) := by decide +kernel
theorem dX8_hearRandom_45 : decode cX8_hearRandom 45 = .ok (.getfield 28, 3) := by decide +kernel
theorem dX8_hearRandom_48 : decode cX8_hearRandom 48 = .ok (.iload 4, 2) := by decide +kernel
theorem dX8_hearRandom_50 : decode cX8_hearRandom 50 = .ok (.iaload, 1) := by decide +kernel
theorem dX8_hearRandom_51 : decode cX8_hearRandom 51 = .ok (.if_icmp .eq 14, 3) := by decide +kernel
theorem dX8_hearRandom_54 : decode cX8_hearRandom 54 = .ok (.aload_n 0, 1) := by decide +kernel
theorem dX8_hearRandom_55 : decode cX8_hearRandom 55 = .ok (.iconst 4, 1) := by decide +kernel
theorem dX8_hearRandom_56 : decode cX8_hearRandom 56 = .ok (.aload_n 1, 1) := by decide +kernel
theorem dX8_hearRandom_57 : decode cX8_hearRandom 57 = .ok (.getfield 78, 3) := by decide +kernel
theorem dX8_hearRandom_60 : decode cX8_hearRandom 60 = .ok (.aload_n 3, 1) := by decide +kernel
theorem dX8_hearRandom_61 : decode cX8_hearRandom 61 = .ok (.invokevirtual 88, 3) := by decide +kernel
theorem dX8_hearRandom_64 : decode cX8_hearRandom 64 = .ok (.return_, 1) := by decide +kernel
theorem dX8_hearRandom_65 : decode cX8_hearRandom 65 = .ok (.iinc 4 1, 3) := by decide +kernel
theorem dX8_hearRandom_68 : decode cX8_hearRandom 68 = .ok (.goto (-51), 3) := by decide +kernel
theorem dX8_hearRandom_71 : decode cX8_hearRandom 71 = .ok (.aload_n 1, 1) := by decide +kernel
theorem dX8_hearRandom_72 : decode cX8_hearRandom 72 = .ok (.getfield 50, 3) := by decide +kernel
theorem dX8_hearRandom_75 : decode cX8_hearRandom 75 = .ok (.iconst 4, 1) := by decide +kernel
theorem dX8_hearRandom_76 : decode cX8_hearRandom 76 = .ok (.if_icmp .ne 7, 3) := by decide +kernel
theorem dX8_hearRandom_79 : decode cX8_hearRandom 79 = .ok (.iconst 1, 1) := by decide +kernel
theorem dX8_hearRandom_80 : decode cX8_hearRandom 80 = .ok (.goto 4, 3) := by decide +kernel
theorem dX8_hearRandom_83 : decode cX8_hearRandom 83 = .ok (.iconst 0, 1) := by decide +kernel
theorem dX8_hearRandom_84 : decode cX8_hearRandom 84 = .ok (.istore 4, 2) := by decide +kernel
theorem dX8_hearRandom_86 : decode cX8_hearRandom 86 = .ok (.iconst 0, 1) := by decide +kernel
theorem dX8_hearRandom_87 : decode cX8_hearRandom 87 = .ok (.istore 5, 2) := by decide +kernel
theorem dX8_hearRandom_89 : decode cX8_hearRandom 89 = .ok (.iload 5, 2) := by decide +kernel
theorem dX8_hearRandom_91 : decode cX8_hearRandom 91 = .ok (.bipush 8, 2) := by decide +kernel
theorem dX8_hearRandom_93 : decode cX8_hearRandom 93 = .ok (.if_icmp .ge 70, 3) := by decide +kernel
theorem dX8_hearRandom_96 : decode cX8_hearRandom 96 = .ok (.aload_n 2, 1) := by decide +kernel
theorem dX8_hearRandom_97 : decode cX8_hearRandom 97 = .ok (.iconst 1, 1) := by decide +kernel
theorem dX8_hearRandom_98 : decode cX8_hearRandom 98 = .ok (.iload 5, 2) := by decide +kernel
theorem dX8_hearRandom_100 : decode cX8_hearRandom 100 = .ok (.iadd, 1) := by decide +kernel
theorem dX8_hearRandom_101 : decode cX8_hearRandom 101 = .ok (.invokevirtual 55, 3) := by decide +kernel
theorem dX8_hearRandom_104 : decode cX8_hearRandom 104 = .ok (.istore 6, 2) := by decide +kernel
theorem dX8_hearRandom_106 : decode cX8_hearRandom 106 = .ok (.aload_n 0, 1) := by decide +kernel
theorem dX8_hearRandom_107 : decode cX8_hearRandom 107 = .ok (.getfield 28, 3) := by decide +kernel
theorem dX8_hearRandom_110 : decode cX8_hearRandom 110 = .ok (.iload 5, 2) := by decide +kernel
theorem dX8_hearRandom_112 : decode cX8_hearRandom 112 = .ok (.iload 4, 2) := by decide +kernel
theorem dX8_hearRandom_114 : decode cX8_hearRandom 114 = .ok (.ifCond .eq 8, 3) := by decide +kernel
theorem dX8_hearRandom_117 : decode cX8_hearRandom 117 = .ok (.iload 6, 2) := by decide +kernel
theorem dX8_hearRandom_119 : decode cX8_hearRandom 119 = .ok (.goto 10, 3) := by decide +kernel
theorem dX8_hearRandom_122 : decode cX8_hearRandom 122 = .ok (.aload_n 0, 1) := by decide +kernel
theorem dX8_hearRandom_123 : decode cX8_hearRandom 123 = .ok (.getfield 22, 3) := by decide +kernel
theorem dX8_hearRandom_126 : decode cX8_hearRandom 126 = .ok (.iload 5, 2) := by decide +kernel
theorem dX8_hearRandom_128 : decode cX8_hearRandom 128 = .ok (.iaload, 1) := by decide +kernel
theorem dX8_hearRandom_129 : decode cX8_hearRandom 129 = .ok (.iastore, 1) := by decide +kernel
theorem dX8_hearRandom_130 : decode cX8_hearRandom 130 = .ok (.aload_n 0, 1) := by decide +kernel
theorem dX8_hearRandom_131 : decode cX8_hearRandom 131 = .ok (.getfield 28, 3) := by decide +kernel
theorem dX8_hearRandom_134 : decode cX8_hearRandom 134 = .ok (.bipush 8, 2) := by decide +kernel
theorem dX8_hearRandom_136 : decode cX8_hearRandom 136 = .ok (.iload 5, 2) := by decide +kernel
theorem dX8_hearRandom_138 : decode cX8_hearRandom 138 = .ok (.iadd, 1) := by decide +kernel
theorem dX8_hearRandom_139 : decode cX8_hearRandom 139 = .ok (.iload 4, 2) := by decide +kernel
theorem dX8_hearRandom_141 : decode cX8_hearRandom 141 = .ok (.ifCond .eq 13, 3) := by decide +kernel
theorem dX8_hearRandom_144 : decode cX8_hearRandom 144 = .ok (.aload_n 0, 1) := by decide +kernel
theorem dX8_hearRandom_145 : decode cX8_hearRandom 145 = .ok (.getfield 22, 3) := by decide +kernel
theorem dX8_hearRandom_148 : decode cX8_hearRandom 148 = .ok (.iload 5, 2) := by decide +kernel
theorem dX8_hearRandom_150 : decode cX8_hearRandom 150 = .ok (.iaload, 1) := by decide +kernel
theorem dX8_hearRandom_151 : decode cX8_hearRandom 151 = .ok (.goto 5, 3) := by decide +kernel
theorem dX8_hearRandom_154 : decode cX8_hearRandom 154 = .ok (.iload 6, 2) := by decide +kernel
theorem dX8_hearRandom_156 : decode cX8_hearRandom 156 = .ok (.iastore, 1) := by decide +kernel
theorem dX8_hearRandom_157 : decode cX8_hearRandom 157 = .ok (.iinc 5 1, 3) := by decide +kernel
theorem dX8_hearRandom_160 : decode cX8_hearRandom 160 = .ok (.goto (-71), 3) := by decide +kernel
theorem dX8_hearRandom_163 : decode cX8_hearRandom 163 = .ok (.aload_n 0, 1) := by decide +kernel
theorem dX8_hearRandom_164 : decode cX8_hearRandom 164 = .ok (.getfield 31, 3) := by decide +kernel
theorem dX8_hearRandom_167 : decode cX8_hearRandom 167 = .ok (.aload_n 0, 1) := by decide +kernel
theorem dX8_hearRandom_168 : decode cX8_hearRandom 168 = .ok (.getfield 28, 3) := by decide +kernel
theorem dX8_hearRandom_171 : decode cX8_hearRandom 171 = .ok (.invokevirtual 107, 3) := by decide +kernel
theorem dX8_hearRandom_174 : decode cX8_hearRandom 174 = .ok (.aload_n 1, 1) := by decide +kernel
theorem dX8_hearRandom_175 : decode cX8_hearRandom 175 = .ok (.getfield 112, 3) := by decide +kernel
theorem dX8_hearRandom_178 : decode cX8_hearRandom 178 = .ok (.aload_n 0, 1) := by decide +kernel
theorem dX8_hearRandom_179 : decode cX8_hearRandom 179 = .ok (.getfield 28, 3) := by decide +kernel
theorem dX8_hearRandom_182 : decode cX8_hearRandom 182 = .ok (.invokevirtual 116, 3) := by decide +kernel
theorem dX8_hearRandom_185 : decode cX8_hearRandom 185 = .ok (.iload 4, 2) := by decide +kernel
theorem dX8_hearRandom_187 : decode cX8_hearRandom 187 = .ok (.ifCond .ne 16, 3) := by decide +kernel
theorem dX8_hearRandom_190 : decode cX8_hearRandom 190 = .ok (.aload_n 3, 1) := by decide +kernel
theorem dX8_hearRandom_191 : decode cX8_hearRandom 191 = .ok (.iconst 4, 1) := by decide +kernel
theorem dX8_hearRandom_192 : decode cX8_hearRandom 192 = .ok (.invokevirtual 96, 3) := by decide +kernel
theorem dX8_hearRandom_195 : decode cX8_hearRandom 195 = .ok (.aload_n 3, 1) := by decide +kernel
theorem dX8_hearRandom_196 : decode cX8_hearRandom 196 = .ok (.aload_n 0, 1) := by decide +kernel
theorem dX8_hearRandom_197 : decode cX8_hearRandom 197 = .ok (.getfield 22, 3) := by decide +kernel
theorem dX8_hearRandom_200 : decode cX8_hearRandom 200 = .ok (.invokevirtual 99, 3) := by decide +kernel
theorem dX8_hearRandom_203 : decode cX8_hearRandom 203 = .ok (.aload_n 0, 1) := by decide +kernel
theorem dX8_hearRandom_204 : decode cX8_hearRandom 204 = .ok (.iconst 0, 1) := by decide +kernel
theorem dX8_hearRandom_205 : decode cX8_hearRandom 205 = .ok (.putfield 47, 3) := by decide +kernel
theorem dX8_hearRandom_208 : decode cX8_hearRandom 208 = .ok (.aload_n 1, 1) := by decide +kernel
theorem dX8_hearRandom_209 : decode cX8_hearRandom 209 = .ok (.getfield 78, 3) := by decide +kernel
theorem dX8_hearRandom_212 : decode cX8_hearRandom 212 = .ok (.bipush 10, 2) := by decide +kernel
theorem dX8_hearRandom_214 : decode cX8_hearRandom 214 = .ok (.iconst 0, 1) := by decide +kernel
theorem dX8_hearRandom_215 : decode cX8_hearRandom 215 = .ok (.iconst 0, 1) := by decide +kernel
theorem dX8_hearRandom_216 : decode cX8_hearRandom 216 = .ok (.iconst 0, 1) := by decide +kernel
theorem dX8_hearRandom_217 : decode cX8_hearRandom 217 = .ok (.invokevirtual 82, 3) := by decide +kernel
theorem dX8_hearRandom_220 : decode cX8_hearRandom 220 = .ok (.return_, 1) := by decide +kernel
theorem dX8_fail_0 : decode cX8_fail 0 = .ok (.aload_n 3, 1) := by decide +kernel
theorem dX8_fail_1 : decode cX8_fail 1 = .ok (.iconst 5, 1) := by decide +kernel
theorem dX8_fail_2 : decode cX8_fail 2 = .ok (.invokevirtual 96, 3) := by decide +kernel
theorem dX8_fail_5 : decode cX8_fail 5 = .ok (.aload_n 3, 1) := by decide +kernel
theorem dX8_fail_6 : decode cX8_fail 6 = .ok (.iload_n 1, 1) := by decide +kernel
theorem dX8_fail_7 : decode cX8_fail 7 = .ok (.invokevirtual 96, 3) := by decide +kernel
theorem dX8_fail_10 : decode cX8_fail 10 = .ok (.aload_n 0, 1) := by decide +kernel
theorem dX8_fail_11 : decode cX8_fail 11 = .ok (.iconst 0, 1) := by decide +kernel
theorem dX8_fail_12 : decode cX8_fail 12 = .ok (.putfield 47, 3) := by decide +kernel
theorem dX8_fail_15 : decode cX8_fail 15 = .ok (.aload_n 2, 1) := by decide +kernel
theorem dX8_fail_16 : decode cX8_fail 16 = .ok (.bipush 11, 2) := by decide +kernel
theorem dX8_fail_18 : decode cX8_fail 18 = .ok (.iload_n 1, 1) := by decide +kernel
theorem dX8_fail_19 : decode cX8_fail 19 = .ok (.iconst 0, 1) := by decide +kernel
theorem dX8_fail_20 : decode cX8_fail 20 = .ok (.iconst 0, 1) := by decide +kernel
theorem dX8_fail_21 : decode cX8_fail 21 = .ok (.invokevirtual 82, 3) := by decide +kernel
theorem dX8_fail_24 : decode cX8_fail 24 = .ok (.return_, 1) := by decide +kernel
theorem dX8_drawAndConfirm_0 : decode cX8_drawAndConfirm 0 = .ok (.aload_n 1, 1) := by decide +kernel
theorem dX8_drawAndConfirm_1 : decode cX8_drawAndConfirm 1 = .ok (.aload_n 0, 1) := by decide +kernel
theorem dX8_drawAndConfirm_2 : decode cX8_drawAndConfirm 2 = .ok (.getfield 22, 3) := by decide +kernel
theorem dX8_drawAndConfirm_5 : decode cX8_drawAndConfirm 5 = .ok (.iconst 0, 1) := by decide +kernel
theorem dX8_drawAndConfirm_6 : decode cX8_drawAndConfirm 6 = .ok (.bipush 16, 2) := by decide +kernel
theorem dX8_drawAndConfirm_8 : decode cX8_drawAndConfirm 8 = .ok (.invokevirtual 121, 3) := by decide +kernel
theorem dX8_drawAndConfirm_11 : decode cX8_drawAndConfirm 11 = .ok (.iconst 0, 1) := by decide +kernel
theorem dX8_drawAndConfirm_12 : decode cX8_drawAndConfirm 12 = .ok (.istore_n 3, 1) := by decide +kernel
theorem dX8_drawAndConfirm_13 : decode cX8_drawAndConfirm 13 = .ok (.iload_n 3, 1) := by decide +kernel
theorem dX8_drawAndConfirm_14 : decode cX8_drawAndConfirm 14 = .ok (.aload_n 0, 1) := by decide +kernel
theorem dX8_drawAndConfirm_15 : decode cX8_drawAndConfirm 15 = .ok (.getfield 28, 3) := by decide +kernel
theorem dX8_drawAndConfirm_18 : decode cX8_drawAndConfirm 18 = .ok (.arraylength, 1) := by decide +kernel
theorem dX8_drawAndConfirm_19 : decode cX8_drawAndConfirm 19 = .ok (.if_icmp .ge 30, 3) := by decide +kernel
theorem dX8_drawAndConfirm_22 : decode cX8_drawAndConfirm 22 = .ok (.iload_n 3, 1) := by decide +kernel
theorem dX8_drawAndConfirm_23 : decode cX8_drawAndConfirm 23 = .ok (.aload_n 0, 1) := by decide +kernel
theorem dX8_drawAndConfirm_24 : decode cX8_drawAndConfirm 24 = .ok (.getfield 22, 3) := by decide +kernel
theorem dX8_drawAndConfirm_27 : decode cX8_drawAndConfirm 27 = .ok (.arraylength, 1) := by decide +kernel
theorem dX8_drawAndConfirm_28 : decode cX8_drawAndConfirm 28 = .ok (.if_icmp .ge 21, 3) := by decide +kernel
theorem dX8_drawAndConfirm_31 : decode cX8_drawAndConfirm 31 = .ok (.aload_n 0, 1) := by decide +kernel
theorem dX8_drawAndConfirm_32 : decode cX8_drawAndConfirm 32 = .ok (.getfield 28, 3) := by decide +kernel
theorem dX8_drawAndConfirm_35 : decode cX8_drawAndConfirm 35 = .ok (.iload_n 3, 1) := by decide +kernel
theorem dX8_drawAndConfirm_36 : decode cX8_drawAndConfirm 36 = .ok (.aload_n 0, 1) := by decide +kernel
theorem dX8_drawAndConfirm_37 : decode cX8_drawAndConfirm 37 = .ok (.getfield 22, 3) := by decide +kernel
theorem dX8_drawAndConfirm_40 : decode cX8_drawAndConfirm 40 = .ok (.iload_n 3, 1) := by decide +kernel
theorem dX8_drawAndConfirm_41 : decode cX8_drawAndConfirm 41 = .ok (.iaload, 1) := by decide +kernel
theorem dX8_drawAndConfirm_42 : decode cX8_drawAndConfirm 42 = .ok (.iastore, 1) := by decide +kernel
theorem dX8_drawAndConfirm_43 : decode cX8_drawAndConfirm 43 = .ok (.iinc 3 1, 3) := by decide +kernel
theorem dX8_drawAndConfirm_46 : decode cX8_drawAndConfirm 46 = .ok (.goto (-33), 3) := by decide +kernel
theorem dX8_drawAndConfirm_49 : decode cX8_drawAndConfirm 49 = .ok (.aload_n 0, 1) := by decide +kernel
theorem dX8_drawAndConfirm_50 : decode cX8_drawAndConfirm 50 = .ok (.aload_n 1, 1) := by decide +kernel
theorem dX8_drawAndConfirm_51 : decode cX8_drawAndConfirm 51 = .ok (.invokevirtual 103, 3) := by decide +kernel
theorem dX8_drawAndConfirm_54 : decode cX8_drawAndConfirm 54 = .ok (.aload_n 2, 1) := by decide +kernel
theorem dX8_drawAndConfirm_55 : decode cX8_drawAndConfirm 55 = .ok (.iconst 3, 1) := by decide +kernel
theorem dX8_drawAndConfirm_56 : decode cX8_drawAndConfirm 56 = .ok (.invokevirtual 96, 3) := by decide +kernel
theorem dX8_drawAndConfirm_59 : decode cX8_drawAndConfirm 59 = .ok (.aload_n 2, 1) := by decide +kernel
theorem dX8_drawAndConfirm_60 : decode cX8_drawAndConfirm 60 = .ok (.aload_n 0, 1) := by decide +kernel
theorem dX8_drawAndConfirm_61 : decode cX8_drawAndConfirm 61 = .ok (.getfield 28, 3) := by decide +kernel
theorem dX8_drawAndConfirm_64 : decode cX8_drawAndConfirm 64 = .ok (.invokevirtual 99, 3) := by decide +kernel
theorem dX8_drawAndConfirm_67 : decode cX8_drawAndConfirm 67 = .ok (.return_, 1) := by decide +kernel
theorem dX8_confirm_0 : decode cX8_confirm 0 = .ok (.aload_n 1, 1) := by decide +kernel
theorem dX8_confirm_1 : decode cX8_confirm 1 = .ok (.getfield 50, 3) := by decide +kernel
theorem dX8_confirm_4 : decode cX8_confirm 4 = .ok (.iconst 4, 1) := by decide +kernel
theorem dX8_confirm_5 : decode cX8_confirm 5 = .ok (.if_icmp .ne 7, 3) := by decide +kernel
theorem dX8_confirm_8 : decode cX8_confirm 8 = .ok (.iconst 1, 1) := by decide +kernel
theorem dX8_confirm_9 : decode cX8_confirm 9 = .ok (.goto 4, 3) := by decide +kernel
theorem dX8_confirm_12 : decode cX8_confirm 12 = .ok (.iconst 0, 1) := by decide +kernel
theorem dX8_confirm_13 : decode cX8_confirm 13 = .ok (.istore_n 2, 1) := by decide +kernel
theorem dX8_confirm_14 : decode cX8_confirm 14 = .ok (.iload_n 2, 1) := by decide +kernel
theorem dX8_confirm_15 : decode cX8_confirm 15 = .ok (.ifCond .eq 10, 3) := by decide +kernel
theorem dX8_confirm_18 : decode cX8_confirm 18 = .ok (.aload_n 1, 1) := by decide +kernel
theorem dX8_confirm_19 : decode cX8_confirm 19 = .ok (.getfield 125, 3) := by decide +kernel
theorem dX8_confirm_22 : decode cX8_confirm 22 = .ok (.goto 10, 3) := by decide +kernel
theorem dX8_confirm_25 : decode cX8_confirm 25 = .ok (.aload_n 1, 1) := by decide +kernel
theorem dX8_confirm_26 : decode cX8_confirm 26 = .ok (.getfield 129, 3) := by decide +kernel
theorem dX8_confirm_29 : decode cX8_confirm 29 = .ok (.getfield 133, 3) := by decide +kernel
theorem dX8_confirm_32 : decode cX8_confirm 32 = .ok (.lstore_n 3, 1) := by decide +kernel
theorem dX8_confirm_33 : decode cX8_confirm 33 = .ok (.iload_n 2, 1) := by decide +kernel
theorem dX8_confirm_34 : decode cX8_confirm 34 = .ok (.ifCond .eq 13, 3) := by decide +kernel
theorem dX8_confirm_37 : decode cX8_confirm 37 = .ok (.aload_n 1, 1) := by decide +kernel
theorem dX8_confirm_38 : decode cX8_confirm 38 = .ok (.getfield 129, 3) := by decide +kernel
theorem dX8_confirm_41 : decode cX8_confirm 41 = .ok (.getfield 133, 3) := by decide +kernel
theorem dX8_confirm_44 : decode cX8_confirm 44 = .ok (.goto 7, 3) := by decide +kernel
theorem dX8_confirm_47 : decode cX8_confirm 47 = .ok (.aload_n 1, 1) := by decide +kernel
theorem dX8_confirm_48 : decode cX8_confirm 48 = .ok (.getfield 125, 3) := by decide +kernel
theorem dX8_confirm_51 : decode cX8_confirm 51 = .ok (.lstore 5, 2) := by decide +kernel
theorem dX8_confirm_53 : decode cX8_confirm 53 = .ok (.aload_n 0, 1) := by decide +kernel
theorem dX8_confirm_54 : decode cX8_confirm 54 = .ok (.getfield 31, 3) := by decide +kernel
theorem dX8_confirm_57 : decode cX8_confirm 57 = .ok (.aload_n 0, 1) := by decide +kernel
theorem dX8_confirm_58 : decode cX8_confirm 58 = .ok (.getfield 15, 3) := by decide +kernel
theorem dX8_confirm_61 : decode cX8_confirm 61 = .ok (.invokevirtual 138, 3) := by decide +kernel
theorem dX8_confirm_64 : decode cX8_confirm 64 = .ok (.iconst 0, 1) := by decide +kernel
theorem dX8_confirm_65 : decode cX8_confirm 65 = .ok (.istore 7, 2) := by decide +kernel
theorem dX8_confirm_67 : decode cX8_confirm 67 = .ok (.iload 7, 2) := by decide +kernel
theorem dX8_confirm_69 : decode cX8_confirm 69 = .ok (.aload_n 0, 1) := by decide +kernel
theorem dX8_confirm_70 : decode cX8_confirm 70 = .ok (.getfield 28, 3) := by decide +kernel
theorem dX8_confirm_73 : decode cX8_confirm 73 = .ok (.arraylength, 1) := by decide +kernel
theorem dX8_confirm_74 : decode cX8_confirm 74 = .ok (.if_icmp .ge 36, 3) := by decide +kernel
theorem dX8_confirm_77 : decode cX8_confirm 77 = .ok (.iload 7, 2) := by decide +kernel
theorem dX8_confirm_79 : decode cX8_confirm 79 = .ok (.aload_n 0, 1) := by decide +kernel
theorem dX8_confirm_80 : decode cX8_confirm 80 = .ok (.getfield 19, 3) := by decide +kernel
theorem dX8_confirm_83 : decode cX8_confirm 83 = .ok (.arraylength, 1) := by decide +kernel
theorem dX8_confirm_84 : decode cX8_confirm 84 = .ok (.if_icmp .ge 26, 3) := by decide +kernel
theorem dX8_confirm_87 : decode cX8_confirm 87 = .ok (.aload_n 0, 1) := by decide +kernel
theorem dX8_confirm_88 : decode cX8_confirm 88 = .ok (.getfield 28, 3) := by decide +kernel
theorem dX8_confirm_91 : decode cX8_confirm 91 = .ok (.iload 7, 2) := by decide +kernel
theorem dX8_confirm_93 : decode cX8_confirm 93 = .ok (.dup2, 1) := by decide +kernel
theorem dX8_confirm_94 : decode cX8_confirm 94 = .ok (.iaload, 1) := by decide +kernel
theorem dX8_confirm_95 : decode cX8_confirm 95 = .ok (.aload_n 0, 1) := by decide +kernel
theorem dX8_confirm_96 : decode cX8_confirm 96 = .ok (.getfield 19, 3) := by decide +kernel
theorem dX8_confirm_99 : decode cX8_confirm 99 = .ok (.iload 7, 2) := by decide +kernel
theorem dX8_confirm_101 : decode cX8_confirm 101 = .ok (.iaload, 1) := by decide +kernel
theorem dX8_confirm_102 : decode cX8_confirm 102 = .ok (.ixor, 1) := by decide +kernel
theorem dX8_confirm_103 : decode cX8_confirm 103 = .ok (.iastore, 1) := by decide +kernel
theorem dX8_confirm_104 : decode cX8_confirm 104 = .ok (.iinc 7 1, 3) := by decide +kernel
theorem dX8_confirm_107 : decode cX8_confirm 107 = .ok (.goto (-40), 3) := by decide +kernel
theorem dX8_confirm_110 : decode cX8_confirm 110 = .ok (.aload_n 0, 1) := by decide +kernel
theorem dX8_confirm_111 : decode cX8_confirm 111 = .ok (.getfield 31, 3) := by decide +kernel
theorem dX8_confirm_114 : decode cX8_confirm 114 = .ok (.aload_n 0, 1) := by decide +kernel
theorem dX8_confirm_115 : decode cX8_confirm 115 = .ok (.getfield 28, 3) := by decide +kernel
theorem dX8_confirm_118 : decode cX8_confirm 118 = .ok (.invokevirtual 107, 3) := by decide +kernel
theorem dX8_confirm_121 : decode cX8_confirm 121 = .ok (.iconst 0, 1) := by decide +kernel
theorem dX8_confirm_122 : decode cX8_confirm 122 = .ok (.istore 7, 2) := by decide +kernel
theorem dX8_confirm_124 : decode cX8_confirm 124 = .ok (.iload 7, 2) := by decide +kernel
theorem dX8_confirm_126 : decode cX8_confirm 126 = .ok (.bipush 6, 2) := by decide +kernel
theorem dX8_confirm_128 : decode cX8_confirm 128 = .ok (.if_icmp .ge 57, 3) := by decide +kernel
theorem dX8_confirm_131 : decode cX8_confirm 131 = .ok (.aload_n 0, 1) := by decide +kernel
theorem dX8_confirm_132 : decode cX8_confirm 132 = .ok (.getfield 28, 3) := by decide +kernel
theorem dX8_confirm_135 : decode cX8_confirm 135 = .ok (.iload 7, 2) := by decide +kernel
theorem dX8_confirm_137 : decode cX8_confirm 137 = .ok (.dup2, 1) := by decide +kernel
theorem dX8_confirm_138 : decode cX8_confirm 138 = .ok (.iaload, 1) := by decide +kernel
theorem dX8_confirm_139 : decode cX8_confirm 139 = .ok (.lload_n 3, 1) := by decide +kernel
theorem dX8_confirm_140 : decode cX8_confirm 140 = .ok (.bipush 8, 2) := by decide +kernel
theorem dX8_confirm_142 : decode cX8_confirm 142 = .ok (.iload 7, 2) := by decide +kernel
theorem dX8_confirm_144 : decode cX8_confirm 144 = .ok (.imul, 1) := by decide +kernel
theorem dX8_confirm_145 : decode cX8_confirm 145 = .ok (.lushr, 1) := by decide +kernel
theorem dX8_confirm_146 : decode cX8_confirm 146 = .ok (.ldc2_w 141, 3) := by decide +kernel
theorem dX8_confirm_149 : decode cX8_confirm 149 = .ok (.land, 1) := by decide +kernel
theorem dX8_confirm_150 : decode cX8_confirm 150 = .ok (.l2i, 1) := by decide +kernel
theorem dX8_confirm_151 : decode cX8_confirm 151 = .ok (.ixor, 1) := by decide +kernel
theorem dX8_confirm_152 : decode cX8_confirm 152 = .ok (.iastore, 1) := by decide +kernel
theorem dX8_confirm_153 : decode cX8_confirm 153 = .ok (.aload_n 0, 1) := by decide +kernel
theorem dX8_confirm_154 : decode cX8_confirm 154 = .ok (.getfield 28, 3) := by decide +kernel
theorem dX8_confirm_157 : decode cX8_confirm 157 = .ok (.bipush 6, 2) := by decide +kernel
theorem dX8_confirm_159 : decode cX8_confirm 159 = .ok (.iload 7, 2) := by decide +kernel
theorem dX8_confirm_161 : decode cX8_confirm 161 = .ok (.iadd, 1) := by decide +kernel
theorem dX8_confirm_162 : decode cX8_confirm 162 = .ok (.dup2, 1) := by decide +kernel
theorem dX8_confirm_163 : decode cX8_confirm 163 = .ok (.iaload, 1) := by decide +kernel
theorem dX8_confirm_164 : decode cX8_confirm 164 = .ok (.lload 5, 2) := by decide +kernel
theorem dX8_confirm_166 : decode cX8_confirm 166 = .ok (.bipush 8, 2) := by decide +kernel
theorem dX8_confirm_168 : decode cX8_confirm 168 = .ok (.iload 7, 2) := by decide +kernel
theorem dX8_confirm_170 : decode cX8_confirm 170 = .ok (.imul, 1) := by decide +kernel
theorem dX8_confirm_171 : decode cX8_confirm 171 = .ok (.lushr, 1) := by decide +kernel
theorem dX8_confirm_172 : decode cX8_confirm 172 = .ok (.ldc2_w 141, 3) := by decide +kernel
theorem dX8_confirm_175 : decode cX8_confirm 175 = .ok (.land, 1) := by decide +kernel
theorem dX8_confirm_176 : decode cX8_confirm 176 = .ok (.l2i, 1) := by decide +kernel
theorem dX8_confirm_177 : decode cX8_confirm 177 = .ok (.ixor, 1) := by decide +kernel
theorem dX8_confirm_178 : decode cX8_confirm 178 = .ok (.iastore, 1) := by decide +kernel
theorem dX8_confirm_179 : decode cX8_confirm 179 = .ok (.iinc 7 1, 3) := by decide +kernel
theorem dX8_confirm_182 : decode cX8_confirm 182 = .ok (.goto (-58), 3) := by decide +kernel
theorem dX8_confirm_185 : decode cX8_confirm 185 = .ok (.aload_n 0, 1) := by decide +kernel
theorem dX8_confirm_186 : decode cX8_confirm 186 = .ok (.getfield 31, 3) := by decide +kernel
theorem dX8_confirm_189 : decode cX8_confirm 189 = .ok (.aload_n 0, 1) := by decide +kernel
theorem dX8_confirm_190 : decode cX8_confirm 190 = .ok (.getfield 28, 3) := by decide +kernel
theorem dX8_confirm_193 : decode cX8_confirm 193 = .ok (.invokevirtual 107, 3) := by decide +kernel
theorem dX8_confirm_196 : decode cX8_confirm 196 = .ok (.return_, 1) := by decide +kernel
theorem dX8_putOffer_0 : decode cX8_putOffer 0 = .ok (.aload_n 1, 1) := by decide +kernel
theorem dX8_putOffer_1 : decode cX8_putOffer 1 = .ok (.iload_n 0, 1) := by decide +kernel
theorem dX8_putOffer_2 : decode cX8_putOffer 2 = .ok (.invokevirtual 96, 3) := by decide +kernel
theorem dX8_putOffer_5 : decode cX8_putOffer 5 = .ok (.aload_n 1, 1) := by decide +kernel
theorem dX8_putOffer_6 : decode cX8_putOffer 6 = .ok (.iconst 3, 1) := by decide +kernel
theorem dX8_putOffer_7 : decode cX8_putOffer 7 = .ok (.invokevirtual 96, 3) := by decide +kernel
theorem dX8_putOffer_10 : decode cX8_putOffer 10 = .ok (.aload_n 1, 1) := by decide +kernel
theorem dX8_putOffer_11 : decode cX8_putOffer 11 = .ok (.iconst 0, 1) := by decide +kernel
theorem dX8_putOffer_12 : decode cX8_putOffer 12 = .ok (.invokevirtual 96, 3) := by decide +kernel
theorem dX8_putOffer_15 : decode cX8_putOffer 15 = .ok (.aload_n 1, 1) := by decide +kernel
theorem dX8_putOffer_16 : decode cX8_putOffer 16 = .ok (.iconst 0, 1) := by decide +kernel
theorem dX8_putOffer_17 : decode cX8_putOffer 17 = .ok (.invokevirtual 96, 3) := by decide +kernel
theorem dX8_putOffer_20 : decode cX8_putOffer 20 = .ok (.aload_n 1, 1) := by decide +kernel
theorem dX8_putOffer_21 : decode cX8_putOffer 21 = .ok (.bipush 16, 2) := by decide +kernel
theorem dX8_putOffer_23 : decode cX8_putOffer 23 = .ok (.invokevirtual 96, 3) := by decide +kernel
theorem dX8_putOffer_26 : decode cX8_putOffer 26 = .ok (.aload_n 1, 1) := by decide +kernel
theorem dX8_putOffer_27 : decode cX8_putOffer 27 = .ok (.iconst 0, 1) := by decide +kernel
theorem dX8_putOffer_28 : decode cX8_putOffer 28 = .ok (.invokevirtual 96, 3) := by decide +kernel
theorem dX8_putOffer_31 : decode cX8_putOffer 31 = .ok (.aload_n 1, 1) := by decide +kernel
theorem dX8_putOffer_32 : decode cX8_putOffer 32 = .ok (.iconst 0, 1) := by decide +kernel
theorem dX8_putOffer_33 : decode cX8_putOffer 33 = .ok (.invokevirtual 96, 3) := by decide +kernel
theorem dX8_putOffer_36 : decode cX8_putOffer 36 = .ok (.return_, 1) := by decide +kernel
theorem dX8_keepOffer_0 : decode cX8_keepOffer 0 = .ok (.iconst 0, 1) := by decide +kernel
theorem dX8_keepOffer_1 : decode cX8_keepOffer 1 = .ok (.istore_n 3, 1) := by decide +kernel
theorem dX8_keepOffer_2 : decode cX8_keepOffer 2 = .ok (.iload_n 3, 1) := by decide +kernel
theorem dX8_keepOffer_3 : decode cX8_keepOffer 3 = .ok (.bipush 7, 2) := by decide +kernel
theorem dX8_keepOffer_5 : decode cX8_keepOffer 5 = .ok (.if_icmp .ge 41, 3) := by decide +kernel
theorem dX8_keepOffer_8 : decode cX8_keepOffer 8 = .ok (.iload_n 2, 1) := by decide +kernel
theorem dX8_keepOffer_9 : decode cX8_keepOffer 9 = .ok (.ifCond .lt 37, 3) := by decide +kernel
theorem dX8_keepOffer_12 : decode cX8_keepOffer 12 = .ok (.iload_n 2, 1) := by decide +kernel
theorem dX8_keepOffer_13 : decode cX8_keepOffer 13 = .ok (.iload_n 3, 1) := by decide +kernel
theorem dX8_keepOffer_14 : decode cX8_keepOffer 14 = .ok (.iadd, 1) := by decide +kernel
theorem dX8_keepOffer_15 : decode cX8_keepOffer 15 = .ok (.aload_n 0, 1) := by decide +kernel
theorem dX8_keepOffer_16 : decode cX8_keepOffer 16 = .ok (.getfield 19, 3) := by decide +kernel
theorem dX8_keepOffer_19 : decode cX8_keepOffer 19 = .ok (.arraylength, 1) := by decide +kernel
theorem dX8_keepOffer_20 : decode cX8_keepOffer 20 = .ok (.if_icmp .ge 26, 3) := by decide +kernel
theorem dX8_keepOffer_23 : decode cX8_keepOffer 23 = .ok (.aload_n 0, 1) := by decide +kernel
theorem dX8_keepOffer_24 : decode cX8_keepOffer 24 = .ok (.getfield 19, 3) := by decide +kernel
theorem dX8_keepOffer_27 : decode cX8_keepOffer 27 = .ok (.iload_n 2, 1) := by decide +kernel
theorem dX8_keepOffer_28 : decode cX8_keepOffer 28 = .ok (.iload_n 3, 1) := by decide +kernel
theorem dX8_keepOffer_29 : decode cX8_keepOffer 29 = .ok (.iadd, 1) := by decide +kernel
theorem dX8_keepOffer_30 : decode cX8_keepOffer 30 = .ok (.aload_n 1, 1) := by decide +kernel
theorem dX8_keepOffer_31 : decode cX8_keepOffer 31 = .ok (.iload_n 3, 1) := by decide +kernel
theorem dX8_keepOffer_32 : decode cX8_keepOffer 32 = .ok (.invokevirtual 55, 3) := by decide +kernel
theorem dX8_keepOffer_35 : decode cX8_keepOffer 35 = .ok (.sipush 255, 3) := by decide +kernel
theorem dX8_keepOffer_38 : decode cX8_keepOffer 38 = .ok (.iand, 1) := by decide +kernel
theorem dX8_keepOffer_39 : decode cX8_keepOffer 39 = .ok (.iastore, 1) := by decide +kernel
theorem dX8_keepOffer_40 : decode cX8_keepOffer 40 = .ok (.iinc 3 1, 3) := by decide +kernel
theorem dX8_keepOffer_43 : decode cX8_keepOffer 43 = .ok (.goto (-41), 3) := by decide +kernel
theorem dX8_keepOffer_46 : decode cX8_keepOffer 46 = .ok (.return_, 1) := by decide +kernel
theorem dX8_useKey_0 : decode cX8_useKey 0 = .ok (.iconst 0, 1) := by decide +kernel
theorem dX8_useKey_1 : decode cX8_useKey 1 = .ok (.istore_n 2, 1) := by decide +kernel
theorem dX8_useKey_2 : decode cX8_useKey 2 = .ok (.iload_n 2, 1) := by decide +kernel
theorem dX8_useKey_3 : decode cX8_useKey 3 = .ok (.aload_n 0, 1) := by decide +kernel
theorem dX8_useKey_4 : decode cX8_useKey 4 = .ok (.getfield 15, 3) := by decide +kernel
theorem dX8_useKey_7 : decode cX8_useKey 7 = .ok (.arraylength, 1) := by decide +kernel
theorem dX8_useKey_8 : decode cX8_useKey 8 = .ok (.if_icmp .ge 34, 3) := by decide +kernel
theorem dX8_useKey_11 : decode cX8_useKey 11 = .ok (.aload_n 0, 1) := by decide +kernel
theorem dX8_useKey_12 : decode cX8_useKey 12 = .ok (.getfield 15, 3) := by decide +kernel
theorem dX8_useKey_15 : decode cX8_useKey 15 = .ok (.iload_n 2, 1) := by decide +kernel
theorem dX8_useKey_16 : decode cX8_useKey 16 = .ok (.iload_n 2, 1) := by decide +kernel
theorem dX8_useKey_17 : decode cX8_useKey 17 = .ok (.iconst 4, 1) := by decide +kernel
theorem dX8_useKey_18 : decode cX8_useKey 18 = .ok (.if_icmp .ge 16, 3) := by decide +kernel
theorem dX8_useKey_21 : decode cX8_useKey 21 = .ok (.iload_n 1, 1) := by decide +kernel
theorem dX8_useKey_22 : decode cX8_useKey 22 = .ok (.bipush 8, 2) := by decide +kernel
theorem dX8_useKey_24 : decode cX8_useKey 24 = .ok (.iload_n 2, 1) := by decide +kernel
theorem dX8_useKey_25 : decode cX8_useKey 25 = .ok (.imul, 1) := by decide +kernel
theorem dX8_useKey_26 : decode cX8_useKey 26 = .ok (.iushr, 1) := by decide +kernel
theorem dX8_useKey_27 : decode cX8_useKey 27 = .ok (.sipush 255, 3) := by decide +kernel
theorem dX8_useKey_30 : decode cX8_useKey 30 = .ok (.iand, 1) := by decide +kernel
theorem dX8_useKey_31 : decode cX8_useKey 31 = .ok (.goto 4, 3) := by decide +kernel
theorem dX8_useKey_34 : decode cX8_useKey 34 = .ok (.iconst 0, 1) := by decide +kernel
theorem dX8_useKey_35 : decode cX8_useKey 35 = .ok (.iastore, 1) := by decide +kernel
theorem dX8_useKey_36 : decode cX8_useKey 36 = .ok (.iinc 2 1, 3) := by decide +kernel
theorem dX8_useKey_39 : decode cX8_useKey 39 = .ok (.goto (-37), 3) := by decide +kernel
theorem dX8_useKey_42 : decode cX8_useKey 42 = .ok (.return_, 1) := by decide +kernel
theorem dX9_init_0 : decode cX9_init 0 = .ok (.aload_n 0, 1) := by decide +kernel
theorem dX9_init_1 : decode cX9_init 1 = .ok (.invokespecial 3, 3) := by decide +kernel
theorem dX9_init_4 : decode cX9_init 4 = .ok (.aload_n 0, 1) := by decide +kernel
theorem dX9_init_5 : decode cX9_init 5 = .ok (.iload_n 1, 1) := by decide +kernel
theorem dX9_init_6 : decode cX9_init 6 = .ok (.iconst 0, 1) := by decide +kernel
theorem dX9_init_7 : decode cX9_init 7 = .ok (.invokestatic 9, 3) := by decide +kernel
theorem dX9_init_10 : decode cX9_init 10 = .ok (.newarray .int, 2) := by decide +kernel
theorem dX9_init_12 : decode cX9_init 12 = .ok (.putfield 15, 3) := by decide +kernel
theorem dX9_init_15 : decode cX9_init 15 = .ok (.return_, 1) := by decide +kernel
theorem dX9_clear_0 : decode cX9_clear 0 = .ok (.aload_n 0, 1) := by decide +kernel
theorem dX9_clear_1 : decode cX9_clear 1 = .ok (.iconst 0, 1) := by decide +kernel
theorem dX9_clear_2 : decode cX9_clear 2 = .ok (.putfield 21, 3) := by decide +kernel
theorem dX9_clear_5 : decode cX9_clear 5 = .ok (.return_, 1) := by decide +kernel
theorem dX9_cut_0 : decode cX9_cut 0 = .ok (.iload_n 1, 1) := by decide +kernel
theorem dX9_cut_1 : decode cX9_cut 1 = .ok (.ifCond .lt 16, 3) := by decide +kernel
theorem dX9_cut_4 : decode cX9_cut 4 = .ok (.iload_n 1, 1) := by decide +kernel
theorem dX9_cut_5 : decode cX9_cut 5 = .ok (.aload_n 0, 1) := by decide +kernel
theorem dX9_cut_6 : decode cX9_cut 6 = .ok (.getfield 21, 3) := by decide +kernel
theorem dX9_cut_9 : decode cX9_cut 9 = .ok (.if_icmp .ge 8, 3) := by decide +kernel
theorem dX9_cut_12 : decode cX9_cut 12 = .ok (.aload_n 0, 1) := by decide +kernel
theorem dX9_cut_13 : decode cX9_cut 13 = .ok (.iload_n 1, 1) := by decide +kernel
theorem dX9_cut_14 : decode cX9_cut 14 = .ok (.putfield 21, 3) := by decide +kernel
theorem dX9_cut_17 : decode cX9_cut 17 = .ok (.return_, 1) := by decide +kernel
theorem dX9_put_0 : decode cX9_put 0 = .ok (.aload_n 0, 1) := by decide +kernel
theorem dX9_put_1 : decode cX9_put 1 = .ok (.getfield 21, 3) := by decide +kernel
theorem dX9_put_4 : decode cX9_put 4 = .ok (.aload_n 0, 1) := by decide +kernel
theorem dX9_put_5 : decode cX9_put 5 = .ok (.getfield 15, 3) := by decide +kernel
theorem dX9_put_8 : decode cX9_put 8 = .ok (.arraylength, 1) := by decide +kernel
theorem dX9_put_9 : decode cX9_put 9 = .ok (.if_icmp .ge 27, 3) := by decide +kernel
theorem dX9_put_12 : decode cX9_put 12 = .ok (.aload_n 0, 1) := by decide +kernel
theorem dX9_put_13 : decode cX9_put 13 = .ok (.getfield 15, 3) := by decide +kernel
theorem dX9_put_16 : decode cX9_put 16 = .ok (.aload_n 0, 1) := by decide +kernel
theorem dX9_put_17 : decode cX9_put 17 = .ok (.getfield 21, 3) := by decide +kernel
theorem dX9_put_20 : decode cX9_put 20 = .ok (.iload_n 1, 1) := by decide +kernel
theorem dX9_put_21 : decode cX9_put 21 = .ok (.sipush 255, 3) := by decide +kernel
theorem dX9_put_24 : decode cX9_put 24 = .ok (.iand, 1) := by decide +kernel
theorem dX9_put_25 : decode cX9_put 25 = .ok (.iastore, 1) := by decide +kernel
theorem dX9_put_26 : decode cX9_put 26 = .ok (.aload_n 0, 1) := by decide +kernel
theorem dX9_put_27 : decode cX9_put 27 = .ok (.dup, 1) := by decide +kernel
theorem dX9_put_28 : decode cX9_put 28 = .ok (.getfield 21, 3) := by decide +kernel
theorem dX9_put_31 : decode cX9_put 31 = .ok (.iconst 1, 1) := by decide +kernel
theorem dX9_put_32 : decode cX9_put 32 = .ok (.iadd, 1) := by decide +kernel
theorem dX9_put_33 : decode cX9_put 33 = .ok (.putfield 21, 3) := by decide +kernel
theorem dX9_put_36 : decode cX9_put 36 = .ok (.return_, 1) := by decide +kernel
theorem dX9_putNumber_0 : decode cX9_putNumber 0 = .ok (.iconst 0, 1) := by decide +kernel
theorem dX9_putNumber_1 : decode cX9_putNumber 1 = .ok (.istore 4, 2) := by decide +kernel
theorem dX9_putNumber_3 : decode cX9_putNumber 3 = .ok (.iload 4, 2) := by decide +kernel
theorem dX9_putNumber_5 : decode cX9_putNumber 5 = .ok (.iload_n 3, 1) := by decide +kernel
theorem dX9_putNumber_6 : decode cX9_putNumber 6 = .ok (.if_icmp .ge 59, 3) := by decide +kernel
theorem dX9_putNumber_9 : decode cX9_putNumber 9 = .ok (.iload 4, 2) := by decide +kernel
theorem dX9_putNumber_11 : decode cX9_putNumber 11 = .ok (.bipush 8, 2) := by decide +kernel
theorem dX9_putNumber_13 : decode cX9_putNumber 13 = .ok (.if_icmp .ge 52, 3) := by decide +kernel
theorem dX9_putNumber_16 : decode cX9_putNumber 16 = .ok (.aload_n 0, 1) := by decide +kernel
theorem dX9_putNumber_17 : decode cX9_putNumber 17 = .ok (.getfield 21, 3) := by decide +kernel
theorem dX9_putNumber_20 : decode cX9_putNumber 20 = .ok (.aload_n 0, 1) := by decide +kernel
theorem dX9_putNumber_21 : decode cX9_putNumber 21 = .ok (.getfield 15, 3) := by decide +kernel
theorem dX9_putNumber_24 : decode cX9_putNumber 24 = .ok (.arraylength, 1) := by decide +kernel
theorem dX9_putNumber_25 : decode cX9_putNumber 25 = .ok (.if_icmp .ge 40, 3) := by decide +kernel
theorem dX9_putNumber_28 : decode cX9_putNumber 28 = .ok (.aload_n 0, 1) := by decide +kernel
theorem dX9_putNumber_29 : decode cX9_putNumber 29 = .ok (.getfield 15, 3) := by decide +kernel
theorem dX9_putNumber_32 : decode cX9_putNumber 32 = .ok (.aload_n 0, 1) := by decide +kernel
theorem dX9_putNumber_33 : decode cX9_putNumber 33 = .ok (.getfield 21, 3) := by decide +kernel
theorem dX9_putNumber_36 : decode cX9_putNumber 36 = .ok (.lload_n 1, 1) := by decide +kernel
theorem dX9_putNumber_37 : decode cX9_putNumber 37 = .ok (.bipush 8, 2) := by decide +kernel
theorem dX9_putNumber_39 : decode cX9_putNumber 39 = .ok (.iload 4, 2) := by decide +kernel
theorem dX9_putNumber_41 : decode cX9_putNumber 41 = .ok (.imul, 1) := by decide +kernel
theorem dX9_putNumber_42 : decode cX9_putNumber 42 = .ok (.lushr, 1) := by decide +kernel
theorem dX9_putNumber_43 : decode cX9_putNumber 43 = .ok (.ldc2_w 25, 3) := by decide +kernel
theorem dX9_putNumber_46 : decode cX9_putNumber 46 = .ok (.land, 1) := by decide +kernel
theorem dX9_putNumber_47 : decode cX9_putNumber 47 = .ok (.l2i, 1) := by decide +kernel
theorem dX9_putNumber_48 : decode cX9_putNumber 48 = .ok (.iastore, 1) := by decide +kernel
theorem dX9_putNumber_49 : decode cX9_putNumber 49 = .ok (.aload_n 0, 1) := by decide +kernel
theorem dX9_putNumber_50 : decode cX9_putNumber 50 = .ok (.dup, 1) := by decide +kernel
theorem dX9_putNumber_51 : decode cX9_putNumber 51 = .ok (.getfield 21, 3) := by decide +kernel
theorem dX9_putNumber_54 : decode cX9_putNumber 54 = .ok (.iconst 1, 1) := by decide +kernel
theorem dX9_putNumber_55 : decode cX9_putNumber 55 = .ok (.iadd, 1) := by decide +kernel
theorem dX9_putNumber_56 : decode cX9_putNumber 56 = .ok (.putfield 21, 3) := by decide +kernel
theorem dX9_putNumber_59 : decode cX9_putNumber 59 = .ok (.iinc 4 1, 3) := by decide +kernel
theorem dX9_putNumber_62 : decode cX9_putNumber 62 = .ok (.goto (-59), 3) := by decide +kernel
theorem dX9_putNumber_65 : decode cX9_putNumber 65 = .ok (.return_, 1) := by decide +kernel
theorem dX9_putHighestFirst_0 : decode cX9_putHighestFirst 0 = .ok (.bipush 24, 2) := by decide +kernel
theorem dX9_putHighestFirst_2 : decode cX9_putHighestFirst 2 = .ok (.istore_n 2, 1) := by decide +kernel
theorem dX9_putHighestFirst_3 : decode cX9_putHighestFirst 3 = .ok (.iload_n 2, 1) := by decide +kernel
theorem dX9_putHighestFirst_4 : decode cX9_putHighestFirst 4 = .ok (.ifCond .lt 47, 3) := by decide +kernel
theorem dX9_putHighestFirst_7 : decode cX9_putHighestFirst 7 = .ok (.aload_n 0, 1) := by decide +kernel
theorem dX9_putHighestFirst_8 : decode cX9_putHighestFirst 8 = .ok (.getfield 21, 3) := by decide +kernel
theorem dX9_putHighestFirst_11 : decode cX9_putHighestFirst 11 = .ok (.aload_n 0, 1) := by decide +kernel
theorem dX9_putHighestFirst_12 : decode cX9_putHighestFirst 12 = .ok (.getfield 15, 3) := by decide +kernel
theorem dX9_putHighestFirst_15 : decode cX9_putHighestFirst 15 = .ok (.arraylength, 1) := by decide +kernel
theorem dX9_putHighestFirst_16 : decode cX9_putHighestFirst 16 = .ok (.if_icmp .ge 35, 3) := by decide +kernel
theorem dX9_putHighestFirst_19 : decode cX9_putHighestFirst 19 = .ok (.aload_n 0, 1) := by decide +kernel
theorem dX9_putHighestFirst_20 : decode cX9_putHighestFirst 20 = .ok (.getfield 15, 3) := by decide +kernel
theorem dX9_putHighestFirst_23 : decode cX9_putHighestFirst 23 = .ok (.aload_n 0, 1) := by decide +kernel
theorem dX9_putHighestFirst_24 : decode cX9_putHighestFirst 24 = .ok (.getfield 21, 3) := by decide +kernel
theorem dX9_putHighestFirst_27 : decode cX9_putHighestFirst 27 = .ok (.iload_n 1, 1) := by decide +kernel
theorem dX9_putHighestFirst_28 : decode cX9_putHighestFirst 28 = .ok (.iload_n 2, 1) := by decide +kernel
theorem dX9_putHighestFirst_29 : decode cX9_putHighestFirst 29 = .ok (.iushr, 1) := by decide +kernel
theorem dX9_putHighestFirst_30 : decode cX9_putHighestFirst 30 = .ok (.sipush 255, 3) := by decide +kernel
theorem dX9_putHighestFirst_33 : decode cX9_putHighestFirst 33 = .ok (.iand, 1) := by decide +kernel
theorem dX9_putHighestFirst_34 : decode cX9_putHighestFirst 34 = .ok (.iastore, 1) := by decide +kernel
theorem dX9_putHighestFirst_35 : decode cX9_putHighestFirst 35 = .ok (.aload_n 0, 1) := by decide +kernel
theorem dX9_putHighestFirst_36 : decode cX9_putHighestFirst 36 = .ok (.dup, 1) := by decide +kernel
theorem dX9_putHighestFirst_37 : decode cX9_putHighestFirst 37 = .ok (.getfield 21, 3) := by decide +kernel
theorem dX9_putHighestFirst_40 : decode cX9_putHighestFirst 40 = .ok (.iconst 1, 1) := by decide +kernel
theorem dX9_putHighestFirst_41 : decode cX9_putHighestFirst 41 = .ok (.iadd, 1) := by decide +kernel
theorem dX9_putHighestFirst_42 : decode cX9_putHighestFirst 42 = .ok (.putfield 21, 3) := by decide +kernel
theorem dX9_putHighestFirst_45 : decode cX9_putHighestFirst 45 = .ok (.iinc 2 (-8), 3) := by decide +kernel
theorem dX9_putHighestFirst_48 : decode cX9_putHighestFirst 48 = .ok (.goto (-45), 3) := by decide +kernel
theorem dX9_putHighestFirst_51 : decode cX9_putHighestFirst 51 = .ok (.return_, 1) := by decide +kernel
theorem dX9_putPart_0 : decode cX9_putPart 0 = .ok (.iload_n 2, 1) := by decide +kernel
theorem dX9_putPart_1 : decode cX9_putPart 1 = .ok (.iconst 0, 1) := by decide +kernel
theorem dX9_putPart_2 : decode cX9_putPart 2 = .ok (.invokestatic 9, 3) := by decide +kernel
theorem dX9_putPart_5 : decode cX9_putPart 5 = .ok (.istore 4, 2) := by decide +kernel
theorem dX9_putPart_7 : decode cX9_putPart 7 = .ok (.iload 4, 2) := by decide +kernel
theorem dX9_putPart_9 : decode cX9_putPart 9 = .ok (.istore 5, 2) := by decide +kernel
theorem dX9_putPart_11 : decode cX9_putPart 11 = .ok (.iload 5, 2) := by decide +kernel
theorem dX9_putPart_13 : decode cX9_putPart 13 = .ok (.iload 4, 2) := by decide +kernel
theorem dX9_putPart_15 : decode cX9_putPart 15 = .ok (.isub, 1) := by decide +kernel
theorem dX9_putPart_16 : decode cX9_putPart 16 = .ok (.iload_n 3, 1) := by decide +kernel
theorem dX9_putPart_17 : decode cX9_putPart 17 = .ok (.if_icmp .ge 56, 3) := by decide +kernel
theorem dX9_putPart_20 : decode cX9_putPart 20 = .ok (.iload 5, 2) := by decide +kernel
theorem dX9_putPart_22 : decode cX9_putPart 22 = .ok (.aload_n 1, 1) := by decide +kernel
theorem dX9_putPart_23 : decode cX9_putPart 23 = .ok (.getfield 21, 3) := by decide +kernel
theorem dX9_putPart_26 : decode cX9_putPart 26 = .ok (.if_icmp .ge 47, 3) := by decide +kernel
theorem dX9_putPart_29 : decode cX9_putPart 29 = .ok (.aload_n 0, 1) := by decide +kernel
theorem dX9_putPart_30 : decode cX9_putPart 30 = .ok (.getfield 21, 3) := by decide +kernel
theorem dX9_putPart_33 : decode cX9_putPart 33 = .ok (.aload_n 0, 1) := by decide +kernel
theorem dX9_putPart_34 : decode cX9_putPart 34 = .ok (.getfield 15, 3) := by decide +kernel
theorem dX9_putPart_37 : decode cX9_putPart 37 = .ok (.arraylength, 1) := by decide +kernel
theorem dX9_putPart_38 : decode cX9_putPart 38 = .ok (.if_icmp .ge 35, 3) := by decide +kernel
theorem dX9_putPart_41 : decode cX9_putPart 41 = .ok (.aload_n 0, 1) := by decide +kernel
theorem dX9_putPart_42 : decode cX9_putPart 42 = .ok (.getfield 15, 3) := by decide +kernel
theorem dX9_putPart_45 : decode cX9_putPart 45 = .ok (.aload_n 0, 1) := by decide +kernel
theorem dX9_putPart_46 : decode cX9_putPart 46 = .ok (.getfield 21, 3) := by decide +kernel
theorem dX9_putPart_49 : decode cX9_putPart 49 = .ok (.aload_n 1, 1) := by decide +kernel
theorem dX9_putPart_50 : decode cX9_putPart 50 = .ok (.getfield 15, 3) := by decide +kernel
theorem dX9_putPart_53 : decode cX9_putPart 53 = .ok (.iload 5, 2) := by decide +kernel
theorem dX9_putPart_55 : decode cX9_putPart 55 = .ok (.iaload, 1) := by decide +kernel
theorem dX9_putPart_56 : decode cX9_putPart 56 = .ok (.iastore, 1) := by decide +kernel
theorem dX9_putPart_57 : decode cX9_putPart 57 = .ok (.aload_n 0, 1) := by decide +kernel
theorem dX9_putPart_58 : decode cX9_putPart 58 = .ok (.dup, 1) := by decide +kernel
theorem dX9_putPart_59 : decode cX9_putPart 59 = .ok (.getfield 21, 3) := by decide +kernel
theorem dX9_putPart_62 : decode cX9_putPart 62 = .ok (.iconst 1, 1) := by decide +kernel
theorem dX9_putPart_63 : decode cX9_putPart 63 = .ok (.iadd, 1) := by decide +kernel
theorem dX9_putPart_64 : decode cX9_putPart 64 = .ok (.putfield 21, 3) := by decide +kernel
theorem dX9_putPart_67 : decode cX9_putPart 67 = .ok (.iinc 5 1, 3) := by decide +kernel
theorem dX9_putPart_70 : decode cX9_putPart 70 = .ok (.goto (-59), 3) := by decide +kernel
theorem dX9_putPart_73 : decode cX9_putPart 73 = .ok (.return_, 1) := by decide +kernel
theorem dX9_putBytes_0 : decode cX9_putBytes 0 = .ok (.iconst 0, 1) := by decide +kernel
theorem dX9_putBytes_1 : decode cX9_putBytes 1 = .ok (.istore_n 2, 1) := by decide +kernel
theorem dX9_putBytes_2 : decode cX9_putBytes 2 = .ok (.iload_n 2, 1) := by decide +kernel
theorem dX9_putBytes_3 : decode cX9_putBytes 3 = .ok (.aload_n 1, 1) := by decide +kernel
theorem dX9_putBytes_4 : decode cX9_putBytes 4 = .ok (.arraylength, 1) := by decide +kernel
theorem dX9_putBytes_5 : decode cX9_putBytes 5 = .ok (.if_icmp .ge 43, 3) := by decide +kernel
theorem dX9_putBytes_8 : decode cX9_putBytes 8 = .ok (.aload_n 0, 1) := by decide +kernel
theorem dX9_putBytes_9 : decode cX9_putBytes 9 = .ok (.getfield 21, 3) := by decide +kernel
theorem dX9_putBytes_12 : decode cX9_putBytes 12 = .ok (.aload_n 0, 1) := by decide +kernel
theorem dX9_putBytes_13 : decode cX9_putBytes 13 = .ok (.getfield 15, 3) := by decide +kernel
theorem dX9_putBytes_16 : decode cX9_putBytes 16 = .ok (.arraylength, 1) := by decide +kernel
theorem dX9_putBytes_17 : decode cX9_putBytes 17 = .ok (.if_icmp .ge 31, 3) := by decide +kernel
theorem dX9_putBytes_20 : decode cX9_putBytes 20 = .ok (.aload_n 0, 1) := by decide +kernel
theorem dX9_putBytes_21 : decode cX9_putBytes 21 = .ok (.getfield 15, 3) := by decide +kernel
theorem dX9_putBytes_24 : decode cX9_putBytes 24 = .ok (.aload_n 0, 1) := by decide +kernel
theorem dX9_putBytes_25 : decode cX9_putBytes 25 = .ok (.getfield 21, 3) := by decide +kernel
theorem dX9_putBytes_28 : decode cX9_putBytes 28 = .ok (.aload_n 1, 1) := by decide +kernel
theorem dX9_putBytes_29 : decode cX9_putBytes 29 = .ok (.iload_n 2, 1) := by decide +kernel
theorem dX9_putBytes_30 : decode cX9_putBytes 30 = .ok (.iaload, 1) := by decide +kernel
theorem dX9_putBytes_31 : decode cX9_putBytes 31 = .ok (.iastore, 1) := by decide +kernel
theorem dX9_putBytes_32 : decode cX9_putBytes 32 = .ok (.aload_n 0, 1) := by decide +kernel
theorem dX9_putBytes_33 : decode cX9_putBytes 33 = .ok (.dup, 1) := by decide +kernel
theorem dX9_putBytes_34 : decode cX9_putBytes 34 = .ok (.getfield 21, 3) := by decide +kernel
theorem dX9_putBytes_37 : decode cX9_putBytes 37 = .ok (.iconst 1, 1) := by decide +kernel
theorem dX9_putBytes_38 : decode cX9_putBytes 38 = .ok (.iadd, 1) := by decide +kernel
theorem dX9_putBytes_39 : decode cX9_putBytes 39 = .ok (.putfield 21, 3) := by decide +kernel
theorem dX9_putBytes_42 : decode cX9_putBytes 42 = .ok (.iinc 2 1, 3) := by decide +kernel
theorem dX9_putBytes_45 : decode cX9_putBytes 45 = .ok (.goto (-43), 3) := by decide +kernel
theorem dX9_putBytes_48 : decode cX9_putBytes 48 = .ok (.return_, 1) := by decide +kernel
theorem dX9_become_0 : decode cX9_become 0 = .ok (.aload_n 0, 1) := by decide +kernel
theorem dX9_become_1 : decode cX9_become 1 = .ok (.iconst 0, 1) := by decide +kernel
theorem dX9_become_2 : decode cX9_become 2 = .ok (.putfield 21, 3) := by decide +kernel
theorem dX9_become_5 : decode cX9_become 5 = .ok (.aload_n 0, 1) := by decide +kernel
theorem dX9_become_6 : decode cX9_become 6 = .ok (.aload_n 1, 1) := by decide +kernel
theorem dX9_become_7 : decode cX9_become 7 = .ok (.iconst 0, 1) := by decide +kernel
theorem dX9_become_8 : decode cX9_become 8 = .ok (.aload_n 1, 1) := by decide +kernel
theorem dX9_become_9 : decode cX9_become 9 = .ok (.getfield 21, 3) := by decide +kernel
theorem dX9_become_12 : decode cX9_become 12 = .ok (.invokevirtual 27, 3) := by decide +kernel
theorem dX9_become_15 : decode cX9_become 15 = .ok (.return_, 1) := by decide +kernel
theorem dX9_write_0 : decode cX9_write 0 = .ok (.iload_n 1, 1) := by decide +kernel
theorem dX9_write_1 : decode cX9_write 1 = .ok (.aload_n 0, 1) := by decide +kernel
theorem dX9_write_2 : decode cX9_write 2 = .ok (.getfield 21, 3) := by decide +kernel
theorem dX9_write_5 : decode cX9_write 5 = .ok (.if_icmp .ne 11, 3) := by decide +kernel
theorem dX9_write_8 : decode cX9_write 8 = .ok (.aload_n 0, 1) := by decide +kernel
theorem dX9_write_9 : decode cX9_write 9 = .ok (.iload_n 2, 1) := by decide +kernel
theorem dX9_write_10 : decode cX9_write 10 = .ok (.invokevirtual 31, 3) := by decide +kernel
theorem dX9_write_13 : decode cX9_write 13 = .ok (.goto 26, 3) := by decide +kernel
theorem dX9_write_16 : decode cX9_write 16 = .ok (.iload_n 1, 1) := by decide +kernel
theorem dX9_write_17 : decode cX9_write 17 = .ok (.ifCond .lt 22, 3) := by decide +kernel
theorem dX9_write_20 : decode cX9_write 20 = .ok (.iload_n 1, 1) := by decide +kernel
theorem dX9_write_21 : decode cX9_write 21 = .ok (.aload_n 0, 1) := by decide +kernel
theorem dX9_write_22 : decode cX9_write 22 = .ok (.getfield 21, 3) := by decide +kernel
theorem dX9_write_25 : decode cX9_write 25 = .ok (.if_icmp .ge 14, 3) := by decide +kernel
theorem dX9_write_28 : decode cX9_write 28 = .ok (.aload_n 0, 1) := by decide +kernel
theorem dX9_write_29 : decode cX9_write 29 = .ok (.getfield 15, 3) := by decide +kernel
theorem dX9_write_32 : decode cX9_write 32 = .ok (.iload_n 1, 1) := by decide +kernel
theorem dX9_write_33 : decode cX9_write 33 = .ok (.iload_n 2, 1) := by decide +kernel
theorem dX9_write_34 : decode cX9_write 34 = .ok (.sipush 255, 3) := by decide +kernel
theorem dX9_write_37 : decode cX9_write 37 = .ok (.iand, 1) := by decide +kernel
theorem dX9_write_38 : decode cX9_write 38 = .ok (.iastore, 1) := by decide +kernel
theorem dX9_write_39 : decode cX9_write 39 = .ok (.return_, 1) := by decide +kernel
theorem dX9_turn_0 : decode cX9_turn 0 = .ok (.iload_n 1, 1) := by decide +kernel
theorem dX9_turn_1 : decode cX9_turn 1 = .ok (.ifCond .lt 25, 3) := by decide +kernel
theorem dX9_turn_4 : decode cX9_turn 4 = .ok (.iload_n 1, 1) := by decide +kernel
theorem dX9_turn_5 : decode cX9_turn 5 = .ok (.aload_n 0, 1) := by decide +kernel
theorem dX9_turn_6 : decode cX9_turn 6 = .ok (.getfield 21, 3) := by decide +kernel
theorem dX9_turn_9 : decode cX9_turn 9 = .ok (.if_icmp .ge 17, 3) := by decide +kernel
theorem dX9_turn_12 : decode cX9_turn 12 = .ok (.aload_n 0, 1) := by decide +kernel
theorem dX9_turn_13 : decode cX9_turn 13 = .ok (.getfield 15, 3) := by decide +kernel
theorem dX9_turn_16 : decode cX9_turn 16 = .ok (.iload_n 1, 1) := by decide +kernel
theorem dX9_turn_17 : decode cX9_turn 17 = .ok (.dup2, 1) := by decide +kernel
theorem dX9_turn_18 : decode cX9_turn 18 = .ok (.iaload, 1) := by decide +kernel
theorem dX9_turn_19 : decode cX9_turn 19 = .ok (.iload_n 2, 1) := by decide +kernel
theorem dX9_turn_20 : decode cX9_turn 20 = .ok (.sipush 255, 3) := by decide +kernel
theorem dX9_turn_23 : decode cX9_turn 23 = .ok (.iand, 1) := by decide +kernel
theorem dX9_turn_24 : decode cX9_turn 24 = .ok (.ixor, 1) := by decide +kernel
theorem dX9_turn_25 : decode cX9_turn 25 = .ok (.iastore, 1) := by decide +kernel
theorem dX9_turn_26 : decode cX9_turn 26 = .ok (.return_, 1) := by decide +kernel
theorem dX9_at_0 : decode cX9_at 0 = .ok (.iload_n 1, 1) := by decide +kernel
theorem dX9_at_1 : decode cX9_at 1 = .ok (.ifCond .lt 20, 3) := by decide +kernel
theorem dX9_at_4 : decode cX9_at 4 = .ok (.iload_n 1, 1) := by decide +kernel
theorem dX9_at_5 : decode cX9_at 5 = .ok (.aload_n 0, 1) := by decide +kernel
theorem dX9_at_6 : decode cX9_at 6 = .ok (.getfield 21, 3) := by decide +kernel
theorem dX9_at_9 : decode cX9_at 9 = .ok (.if_icmp .ge 12, 3) := by decide +kernel
theorem dX9_at_12 : decode cX9_at 12 = .ok (.aload_n 0, 1) := by decide +kernel
theorem dX9_at_13 : decode cX9_at 13 = .ok (.getfield 15, 3) := by decide +kernel
theorem dX9_at_16 : decode cX9_at 16 = .ok (.iload_n 1, 1) := by decide +kernel
theorem dX9_at_17 : decode cX9_at 17 = .ok (.iaload, 1) := by decide +kernel
theorem dX9_at_18 : decode cX9_at 18 = .ok (.goto 4, 3) := by decide +kernel
theorem dX9_at_21 : decode cX9_at 21 = .ok (.iconst (-1), 1) := by decide +kernel
theorem dX9_at_22 : decode cX9_at 22 = .ok (.ireturn, 1) := by decide +kernel
theorem dX9_two_0 : decode cX9_two 0 = .ok (.iload_n 1, 1) := by decide +kernel
theorem dX9_two_1 : decode cX9_two 1 = .ok (.ifCond .lt 34, 3) := by decide +kernel
theorem dX9_two_4 : decode cX9_two 4 = .ok (.iload_n 1, 1) := by decide +kernel
theorem dX9_two_5 : decode cX9_two 5 = .ok (.aload_n 0, 1) := by decide +kernel
theorem dX9_two_6 : decode cX9_two 6 = .ok (.getfield 21, 3) := by decide +kernel
theorem dX9_two_9 : decode cX9_two 9 = .ok (.iconst 1, 1) := by decide +kernel
theorem dX9_two_10 : decode cX9_two 10 = .ok (.isub, 1) := by decide +kernel
theorem dX9_two_11 : decode cX9_two 11 = .ok (.if_icmp .ge 24, 3) := by decide +kernel
theorem dX9_two_14 : decode cX9_two 14 = .ok (.aload_n 0, 1) := by decide +kernel
theorem dX9_two_15 : decode cX9_two 15 = .ok (.getfield 15, 3) := by decide +kernel
theorem dX9_two_18 : decode cX9_two 18 = .ok (.iload_n 1, 1) := by decide +kernel
theorem dX9_two_19 : decode cX9_two 19 = .ok (.iaload, 1) := by decide +kernel
theorem dX9_two_20 : decode cX9_two 20 = .ok (.aload_n 0, 1) := by decide +kernel
theorem dX9_two_21 : decode cX9_two 21 = .ok (.getfield 15, 3) := by decide +kernel
theorem dX9_two_24 : decode cX9_two 24 = .ok (.iload_n 1, 1) := by decide +kernel
theorem dX9_two_25 : decode cX9_two 25 = .ok (.iconst 1, 1) := by decide +kernel
theorem dX9_two_26 : decode cX9_two 26 = .ok (.iadd, 1) := by decide +kernel
theorem dX9_two_27 : decode cX9_two 27 = .ok (.iaload, 1) := by decide +kernel
theorem dX9_two_28 : decode cX9_two 28 = .ok (.bipush 8, 2) := by decide +kernel
theorem dX9_two_30 : decode cX9_two 30 = .ok (.ishl, 1) := by decide +kernel
theorem dX9_two_31 : decode cX9_two 31 = .ok (.ior, 1) := by decide +kernel
theorem dX9_two_32 : decode cX9_two 32 = .ok (.goto 4, 3) := by decide +kernel
theorem dX9_two_35 : decode cX9_two 35 = .ok (.iconst 0, 1) := by decide +kernel
theorem dX9_two_36 : decode cX9_two 36 = .ok (.ireturn, 1) := by decide +kernel
theorem dX9_numberAt_0 : decode cX9_numberAt 0 = .ok (.lconst 0, 1) := by decide +kernel
theorem dX9_numberAt_1 : decode cX9_numberAt 1 = .ok (.lstore_n 3, 1) := by decide +kernel
theorem dX9_numberAt_2 : decode cX9_numberAt 2 = .ok (.iconst 0, 1) := by decide +kernel
theorem dX9_numberAt_3 : decode cX9_numberAt 3 = .ok (.istore 5, 2) := by decide +kernel
theorem dX9_numberAt_5 : decode cX9_numberAt 5 = .ok (.iload 5, 2) := by decide +kernel
theorem dX9_numberAt_7 : decode cX9_numberAt 7 = .ok (.iload_n 2, 1) := by decide +kernel
theorem dX9_numberAt_8 : decode cX9_numberAt 8 = .ok (.if_icmp .ge 53, 3) := by decide +kernel
theorem dX9_numberAt_11 : decode cX9_numberAt 11 = .ok (.iload 5, 2) := by decide +kernel
theorem dX9_numberAt_13 : decode cX9_numberAt 13 = .ok (.bipush 8, 2) := by decide +kernel
theorem dX9_numberAt_15 : decode cX9_numberAt 15 = .ok (.if_icmp .ge 46, 3) := by decide +kernel
theorem dX9_numberAt_18 : decode cX9_numberAt 18 = .ok (.iload_n 1, 1) := by decide +kernel
theorem dX9_numberAt_19 : decode cX9_numberAt 19 = .ok (.iload 5, 2) := by decide +kernel
theorem dX9_numberAt_21 : decode cX9_numberAt 21 = .ok (.iadd, 1) := by decide +kernel
theorem dX9_numberAt_22 : decode cX9_numberAt 22 = .ok (.istore 6, 2) := by decide +kernel
theorem dX9_numberAt_24 : decode cX9_numberAt 24 = .ok (.iload 6, 2) := by decide +kernel
theorem dX9_numberAt_26 : decode cX9_numberAt 26 = .ok (.ifCond .lt 29, 3) := by decide +kernel
theorem dX9_numberAt_29 : decode cX9_numberAt 29 = .ok (.iload 6, 2) := by decide +kernel
theorem dX9_numberAt_31 : decode cX9_numberAt 31 = .ok (.aload_n 0, 1) := by decide +kernel
theorem dX9_numberAt_32 : decode cX9_numberAt 32 = .ok (.getfield 21, 3) := by decide +kernel
theorem dX9_numberAt_35 : decode cX9_numberAt 35 = .ok (.if_icmp .ge 20, 3) := by decide +kernel
theorem dX9_numberAt_38 : decode cX9_numberAt 38 = .ok (.lload_n 3, 1) := by decide +kernel
theorem dX9_numberAt_39 : decode cX9_numberAt 39 = .ok (.aload_n 0, 1) := by decide +kernel
theorem dX9_numberAt_40 : decode cX9_numberAt 40 = .ok (.getfield 15, 3) := by decide +kernel
theorem dX9_numberAt_43 : decode cX9_numberAt 43 = .ok (.iload 6, 2) := by decide +kernel
theorem dX9_numberAt_45 : decode cX9_numberAt 45 = .ok (.iaload, 1) := by decide +kernel
theorem dX9_numberAt_46 : decode cX9_numberAt 46 = .ok (.i2l, 1) := by decide +kernel
theorem dX9_numberAt_47 : decode cX9_numberAt 47 = .ok (.bipush 8, 2) := by decide +kernel
theorem dX9_numberAt_49 : decode cX9_numberAt 49 = .ok (.iload 5, 2) := by decide +kernel
theorem dX9_numberAt_51 : decode cX9_numberAt 51 = .ok (.imul, 1) := by decide +kernel
theorem dX9_numberAt_52 : decode cX9_numberAt 52 = .ok (.lshl, 1) := by decide +kernel
theorem dX9_numberAt_53 : decode cX9_numberAt 53 = .ok (.lor, 1) := by decide +kernel
theorem dX9_numberAt_54 : decode cX9_numberAt 54 = .ok (.lstore_n 3, 1) := by decide +kernel
theorem dX9_numberAt_55 : decode cX9_numberAt 55 = .ok (.iinc 5 1, 3) := by decide +kernel
theorem dX9_numberAt_58 : decode cX9_numberAt 58 = .ok (.goto (-53), 3) := by decide +kernel
theorem dX9_numberAt_61 : decode cX9_numberAt 61 = .ok (.lload_n 3, 1) := by decide +kernel
theorem dX9_numberAt_62 : decode cX9_numberAt 62 = .ok (.lreturn, 1) := by decide +kernel
theorem dX9_copyTo_0 : decode cX9_copyTo 0 = .ok (.iload_n 2, 1) := by decide +kernel
theorem dX9_copyTo_1 : decode cX9_copyTo 1 = .ok (.iconst 0, 1) := by decide +kernel
theorem dX9_copyTo_2 : decode cX9_copyTo 2 = .ok (.invokestatic 9, 3) := by decide +kernel
theorem dX9_copyTo_5 : decode cX9_copyTo 5 = .ok (.istore_n 3, 1) := by decide +kernel
theorem dX9_copyTo_6 : decode cX9_copyTo 6 = .ok (.iconst 0, 1) := by decide +kernel
theorem dX9_copyTo_7 : decode cX9_copyTo 7 = .ok (.istore 4, 2) := by decide +kernel
theorem dX9_copyTo_9 : decode cX9_copyTo 9 = .ok (.iload 4, 2) := by decide +kernel
theorem dX9_copyTo_11 : decode cX9_copyTo 11 = .ok (.aload_n 1, 1) := by decide +kernel
theorem dX9_copyTo_12 : decode cX9_copyTo 12 = .ok (.arraylength, 1) := by decide +kernel
theorem dX9_copyTo_13 : decode cX9_copyTo 13 = .ok (.if_icmp .ge 33, 3) := by decide +kernel
theorem dX9_copyTo_16 : decode cX9_copyTo 16 = .ok (.iload_n 3, 1) := by decide +kernel
theorem dX9_copyTo_17 : decode cX9_copyTo 17 = .ok (.iload 4, 2) := by decide +kernel
theorem dX9_copyTo_19 : decode cX9_copyTo 19 = .ok (.iadd, 1) := by decide +kernel
theorem dX9_copyTo_20 : decode cX9_copyTo 20 = .ok (.aload_n 0, 1) := by decide +kernel
theorem dX9_copyTo_21 : decode cX9_copyTo 21 = .ok (.getfield 21, 3) := by decide +kernel
theorem dX9_copyTo_24 : decode cX9_copyTo 24 = .ok (.if_icmp .ge 22, 3) := by decide +kernel
theorem dX9_copyTo_27 : decode cX9_copyTo 27 = .ok (.aload_n 1, 1) := by decide +kernel
theorem dX9_copyTo_28 : decode cX9_copyTo 28 = .ok (.iload 4, 2) := by decide +kernel
theorem dX9_copyTo_30 : decode cX9_copyTo 30 = .ok (.aload_n 0, 1) := by decide +kernel
theorem dX9_copyTo_31 : decode cX9_copyTo 31 = .ok (.getfield 15, 3) := by decide +kernel
theorem dX9_copyTo_34 : decode cX9_copyTo 34 = .ok (.iload_n 3, 1) := by decide +kernel
theorem dX9_copyTo_35 : decode cX9_copyTo 35 = .ok (.iload 4, 2) := by decide +kernel
theorem dX9_copyTo_37 : decode cX9_copyTo 37 = .ok (.iadd, 1) := by decide +kernel
theorem dX9_copyTo_38 : decode cX9_copyTo 38 = .ok (.iaload, 1) := by decide +kernel
theorem dX9_copyTo_39 : decode cX9_copyTo 39 = .ok (.iastore, 1) := by decide +kernel
theorem dX9_copyTo_40 : decode cX9_copyTo 40 = .ok (.iinc 4 1, 3) := by decide +kernel
theorem dX9_copyTo_43 : decode cX9_copyTo 43 = .ok (.goto (-34), 3) := by decide +kernel
theorem dX9_copyTo_46 : decode cX9_copyTo 46 = .ok (.return_, 1) := by decide +kernel
theorem dX9_isTailOf_0 : decode cX9_isTailOf 0 = .ok (.iload_n 2, 1) := by decide +kernel
theorem dX9_isTailOf_1 : decode cX9_isTailOf 1 = .ok (.ifCond .lt 16, 3) := by decide +kernel
theorem dX9_isTailOf_4 : decode cX9_isTailOf 4 = .ok (.aload_n 1, 1) := by decide +kernel
theorem dX9_isTailOf_5 : decode cX9_isTailOf 5 = .ok (.getfield 21, 3) := by decide +kernel
theorem dX9_isTailOf_8 : decode cX9_isTailOf 8 = .ok (.iload_n 2, 1) := by decide +kernel
theorem dX9_isTailOf_9 : decode cX9_isTailOf 9 = .ok (.isub, 1) := by decide +kernel
theorem dX9_isTailOf_10 : decode cX9_isTailOf 10 = .ok (.aload_n 0, 1) := by decide +kernel
theorem dX9_isTailOf_11 : decode cX9_isTailOf 11 = .ok (.getfield 21, 3) := by decide +kernel
theorem dX9_isTailOf_14 : decode cX9_isTailOf 14 = .ok (.if_icmp .eq 5, 3) := by decide +kernel
theorem dX9_isTailOf_17 : decode cX9_isTailOf 17 = .ok (.iconst 0, 1) := by decide +kernel
theorem dX9_isTailOf_18 : decode cX9_isTailOf 18 = .ok (.ireturn, 1) := by decide +kernel
theorem dX9_isTailOf_19 : decode cX9_isTailOf 19 = .ok (.iconst 0, 1) := by decide +kernel
theorem dX9_isTailOf_20 : decode cX9_isTailOf 20 = .ok (.istore_n 3, 1) := by decide +kernel
theorem dX9_isTailOf_21 : decode cX9_isTailOf 21 = .ok (.iload_n 3, 1) := by decide +kernel
theorem dX9_isTailOf_22 : decode cX9_isTailOf 22 = .ok (.aload_n 0, 1) := by decide +kernel
theorem dX9_isTailOf_23 : decode cX9_isTailOf 23 = .ok (.getfield 21, 3) := by decide +kernel
theorem dX9_isTailOf_26 : decode cX9_isTailOf 26 = .ok (.if_icmp .ge 28, 3) := by decide +kernel
theorem dX9_isTailOf_29 : decode cX9_isTailOf 29 = .ok (.aload_n 0, 1) := by decide +kernel
theorem dX9_isTailOf_30 : decode cX9_isTailOf 30 = .ok (.getfield 15, 3) := by decide +kernel
theorem dX9_isTailOf_33 : decode cX9_isTailOf 33 = .ok (.iload_n 3, 1) := by decide +kernel
theorem dX9_isTailOf_34 : decode cX9_isTailOf 34 = .ok (.iaload, 1) := by decide +kernel
theorem dX9_isTailOf_35 : decode cX9_isTailOf 35 = .ok (.aload_n 1, 1) := by decide +kernel
theorem dX9_isTailOf_36 : decode cX9_isTailOf 36 = .ok (.getfield 15, 3) := by decide +kernel
theorem dX9_isTailOf_39 : decode cX9_isTailOf 39 = .ok (.iload_n 2, 1) := by decide +kernel
theorem dX9_isTailOf_40 : decode cX9_isTailOf 40 = .ok (.iload_n 3, 1) := by decide +kernel
theorem dX9_isTailOf_41 : decode cX9_isTailOf 41 = .ok (.iadd, 1) := by decide +kernel
theorem dX9_isTailOf_42 : decode cX9_isTailOf 42 = .ok (.iaload, 1) := by decide +kernel
theorem dX9_isTailOf_43 : decode cX9_isTailOf 43 = .ok (.if_icmp .eq 5, 3) := by decide +kernel
theorem dX9_isTailOf_46 : decode cX9_isTailOf 46 = .ok (.iconst 0, 1) := by decide +kernel
theorem dX9_isTailOf_47 : decode cX9_isTailOf 47 = .ok (.ireturn, 1) := by decide +kernel
theorem dX9_isTailOf_48 : decode cX9_isTailOf 48 = .ok (.iinc 3 1, 3) := by decide +kernel
theorem dX9_isTailOf_51 : decode cX9_isTailOf 51 = .ok (.goto (-30), 3) := by decide +kernel
theorem dX9_isTailOf_54 : decode cX9_isTailOf 54 = .ok (.iconst 1, 1) := by decide +kernel
theorem dX9_isTailOf_55 : decode cX9_isTailOf 55 = .ok (.ireturn, 1) := by decide +kernel
theorem dX10_init_0 : decode cX10_init 0 = .ok (.aload_n 0, 1) := by decide +kernel
theorem dX10_init_1 : decode cX10_init 1 = .ok (.invokespecial 3, 3) := by decide +kernel
theorem dX10_init_4 : decode cX10_init 4 = .ok (.aload_n 0, 1) := by decide +kernel
theorem dX10_init_5 : decode cX10_init 5 = .ok (.bipush 20, 2) := by decide +kernel
theorem dX10_init_7 : decode cX10_init 7 = .ok (.newarray .int, 2) := by decide +kernel
theorem dX10_init_9 : decode cX10_init 9 = .ok (.putfield 11, 3) := by decide +kernel
theorem dX10_init_12 : decode cX10_init 12 = .ok (.aload_n 0, 1) := by decide +kernel
theorem dX10_init_13 : decode cX10_init 13 = .ok (.bipush 20, 2) := by decide +kernel
theorem dX10_init_15 : decode cX10_init 15 = .ok (.newarray .int, 2) := by decide +kernel
theorem dX10_init_17 : decode cX10_init 17 = .ok (.putfield 15, 3) := by decide +kernel
theorem dX10_init_20 : decode cX10_init 20 = .ok (.aload_n 0, 1) := by decide +kernel
theorem dX10_init_21 : decode cX10_init 21 = .ok (.bipush 20, 2) := by decide +kernel
theorem dX10_init_23 : decode cX10_init 23 = .ok (.anewarray 18, 3) := by decide +kernel
theorem dX10_init_26 : decode cX10_init 26 = .ok (.putfield 20, 3) := by decide +kernel
theorem dX10_init_29 : decode cX10_init 29 = .ok (.aload_n 0, 1) := by decide +kernel
theorem dX10_init_30 : decode cX10_init 30 = .ok (.bipush 23, 2) := by decide +kernel
theorem dX10_init_32 : decode cX10_init 32 = .ok (.putfield 24, 3) := by decide +kernel
theorem dX10_init_35 : decode cX10_init 35 = .ok (.aload_n 0, 1) := by decide +kernel
theorem dX10_init_36 : decode cX10_init 36 = .ok (.bipush 23, 2) := by decide +kernel
theorem dX10_init_38 : decode cX10_init 38 = .ok (.putfield 28, 3) := by decide +kernel
theorem dX10_init_41 : decode cX10_init 41 = .ok (.aload_n 0, 1) := by decide +kernel
theorem dX10_init_42 : decode cX10_init 42 = .ok (.bipush 6, 2) := by decide +kernel
theorem dX10_init_44 : decode cX10_init 44 = .ok (.anewarray 18, 3) := by decide +kernel
theorem dX10_init_47 : decode cX10_init 47 = .ok (.putfield 31, 3) := by decide +kernel
theorem dX10_init_50 : decode cX10_init 50 = .ok (.aload_n 0, 1) := by decide +kernel
theorem dX10_init_51 : decode cX10_init 51 = .ok (.bipush 20, 2) := by decide +kernel
theorem dX10_init_53 : decode cX10_init 53 = .ok (.newarray .int, 2) := by decide +kernel
theorem dX10_init_55 : decode cX10_init 55 = .ok (.putfield 34, 3) := by decide +kernel
theorem dX10_init_58 : decode cX10_init 58 = .ok (.iconst 0, 1) := by decide +kernel
theorem dX10_init_59 : decode cX10_init 59 = .ok (.istore_n 1, 1) := by decide +kernel
theorem dX10_init_60 : decode cX10_init 60 = .ok (.iload_n 1, 1) := by decide +kernel
theorem dX10_init_61 : decode cX10_init 61 = .ok (.aload_n 0, 1) := by decide +kernel
theorem dX10_init_62 : decode cX10_init 62 = .ok (.getfield 20, 3) := by decide +kernel
theorem dX10_init_65 : decode cX10_init 65 = .ok (.arraylength, 1) := by decide +kernel
theorem dX10_init_66 : decode cX10_init 66 = .ok (.if_icmp .ge 24, 3) := by decide +kernel
theorem dX10_init_69 : decode cX10_init 69 = .ok (.aload_n 0, 1) := by decide +kernel
theorem dX10_init_70 : decode cX10_init 70 = .ok (.getfield 20, 3) := by decide +kernel
theorem dX10_init_73 : decode cX10_init 73 = .ok (.iload_n 1, 1) := by decide +kernel
theorem dX10_init_74 : decode cX10_init 74 = .ok (.new 18, 3) := by decide +kernel
theorem dX10_init_77 : decode cX10_init 77 = .ok (.dup, 1) := by decide +kernel
theorem dX10_init_78 : decode cX10_init 78 = .ok (.bipush 40, 2) := by decide +kernel
theorem dX10_init_80 : decode cX10_init 80 = .ok (.invokespecial 37, 3) := by decide +kernel
theorem dX10_init_83 : decode cX10_init 83 = .ok (.aastore, 1) := by decide +kernel
theorem dX10_init_84 : decode cX10_init 84 = .ok (.iinc 1 1, 3) := by decide +kernel
theorem dX10_init_87 : decode cX10_init 87 = .ok (.goto (-27), 3) := by decide +kernel
theorem dX10_init_90 : decode cX10_init 90 = .ok (.iconst 0, 1) := by decide +kernel
theorem dX10_init_91 : decode cX10_init 91 = .ok (.istore_n 1, 1) := by decide +kernel
theorem dX10_init_92 : decode cX10_init 92 = .ok (.iload_n 1, 1) := by decide +kernel
theorem dX10_init_93 : decode cX10_init 93 = .ok (.aload_n 0, 1) := by decide +kernel
theorem dX10_init_94 : decode cX10_init 94 = .ok (.getfield 31, 3) := by decide +kernel
theorem dX10_init_97 : decode cX10_init 97 = .ok (.arraylength, 1) := by decide +kernel
theorem dX10_init_98 : decode cX10_init 98 = .ok (.if_icmp .ge 24, 3) := by decide +kernel
theorem dX10_init_101 : decode cX10_init 101 = .ok (.aload_n 0, 1) := by decide +kernel
theorem dX10_init_102 : decode cX10_init 102 = .ok (.getfield 31, 3) := by decide +kernel
theorem dX10_init_105 : decode cX10_init 105 = .ok (.iload_n 1, 1) := by decide +kernel
theorem dX10_init_106 : decode cX10_init 106 = .ok (.new 18, 3) := by decide +kernel
theorem dX10_init_109 : decode cX10_init 109 = .ok (.dup, 1) := by decide +kernel
theorem dX10_init_110 : decode cX10_init 110 = .ok (.bipush 64, 2) := by decide +kernel
theorem dX10_init_112 : decode cX10_init 112 = .ok (.invokespecial 37, 3) := by decide +kernel
theorem dX10_init_115 : decode cX10_init 115 = .ok (.aastore, 1) := by decide +kernel
theorem dX10_init_116 : decode cX10_init 116 = .ok (.iinc 1 1, 3) := by decide +kernel
theorem dX10_init_119 : decode cX10_init 119 = .ok (.goto (-27), 3) := by decide +kernel
theorem dX10_init_122 : decode cX10_init 122 = .ok (.return_, 1) := by decide +kernel
theorem dX10_leaveLink_0 : decode cX10_leaveLink 0 = .ok (.aload_n 0, 1) := by decide +kernel
theorem dX10_leaveLink_1 : decode cX10_leaveLink 1 = .ok (.bipush 23, 2) := by decide +kernel
theorem dX10_leaveLink_3 : decode cX10_leaveLink 3 = .ok (.putfield 28, 3) := by decide +kernel
theorem dX10_leaveLink_6 : decode cX10_leaveLink 6 = .ok (.aload_n 0, 1) := by decide +kernel
theorem dX10_leaveLink_7 : decode cX10_leaveLink 7 = .ok (.iconst 0, 1) := by decide +kernel
theorem dX10_leaveLink_8 : decode cX10_leaveLink 8 = .ok (.putfield 40, 3) := by decide +kernel
theorem dX10_leaveLink_11 : decode cX10_leaveLink 11 = .ok (.aload_n 0, 1) := by decide +kernel
theorem dX10_leaveLink_12 : decode cX10_leaveLink 12 = .ok (.iconst 0, 1) := by decide +kernel
theorem dX10_leaveLink_13 : decode cX10_leaveLink 13 = .ok (.putfield 43, 3) := by decide +kernel
theorem dX10_leaveLink_16 : decode cX10_leaveLink 16 = .ok (.return_, 1) := by decide +kernel
theorem dX10_agreeOnMtu_0 : decode cX10_agreeOnMtu 0 = .ok (.aload_n 0, 1) := by decide +kernel
theorem dX10_agreeOnMtu_1 : decode cX10_agreeOnMtu 1 = .ok (.bipush 23, 2) := by decide +kernel
theorem dX10_agreeOnMtu_3 : decode cX10_agreeOnMtu 3 = .ok (.aload_n 0, 1) := by decide +kernel
theorem dX10_agreeOnMtu_4 : decode cX10_agreeOnMtu 4 = .ok (.getfield 24, 3) := by decide +kernel
theorem dX10_agreeOnMtu_7 : decode cX10_agreeOnMtu 7 = .ok (.iload_n 1, 1) := by decide +kernel
theorem dX10_agreeOnMtu_8 : decode cX10_agreeOnMtu 8 = .ok (.invokestatic 47, 3) := by decide +kernel
theorem dX10_agreeOnMtu_11 : decode cX10_agreeOnMtu 11 = .ok (.invokestatic 53, 3) := by decide +kernel
theorem dX10_agreeOnMtu_14 : decode cX10_agreeOnMtu 14 = .ok (.putfield 28, 3) := by decide +kernel
theorem dX10_agreeOnMtu_17 : decode cX10_agreeOnMtu 17 = .ok (.return_, 1) := by decide +kernel
theorem dX10_addAttribute_0 : decode cX10_addAttribute 0 = .ok (.aload_n 0, 1) := by decide +kernel
theorem dX10_addAttribute_1 : decode cX10_addAttribute 1 = .ok (.getfield 56, 3) := by decide +kernel
theorem dX10_addAttribute_4 : decode cX10_addAttribute 4 = .ok (.bipush 20, 2) := by decide +kernel
theorem dX10_addAttribute_6 : decode cX10_addAttribute 6 = .ok (.if_icmp .lt 5, 3) := by decide +kernel
theorem dX10_addAttribute_9 : decode cX10_addAttribute 9 = .ok (.iconst (-1), 1) := by decide +kernel
theorem dX10_addAttribute_10 : decode cX10_addAttribute 10 = .ok (.ireturn, 1) := by decide +kernel
theorem dX10_addAttribute_11 : decode cX10_addAttribute 11 = .ok (.aload_n 0, 1) := by decide +kernel
theorem dX10_addAttribute_12 : decode cX10_addAttribute 12 = .ok (.getfield 11, 3) := by decide +kernel
theorem dX10_addAttribute_15 : decode cX10_addAttribute 15 = .ok (.aload_n 0, 1) := by decide +kernel
theorem dX10_addAttribute_16 : decode cX10_addAttribute 16 = .ok (.getfield 56, 3) := by decide +kernel
theorem dX10_addAttribute_19 : decode cX10_addAttribute 19 = .ok (.iload_n 1, 1) := by decide +kernel
theorem dX10_addAttribute_20 : decode cX10_addAttribute 20 = .ok (.iastore, 1) := by decide +kernel
theorem dX10_addAttribute_21 : decode cX10_addAttribute 21 = .ok (.aload_n 0, 1) := by decide +kernel
theorem dX10_addAttribute_22 : decode cX10_addAttribute 22 = .ok (.getfield 15, 3) := by decide +kernel
theorem dX10_addAttribute_25 : decode cX10_addAttribute 25 = .ok (.aload_n 0, 1) := by decide +kernel
theorem dX10_addAttribute_26 : decode cX10_addAttribute 26 = .ok (.getfield 56, 3) := by decide +kernel
theorem dX10_addAttribute_29 : decode cX10_addAttribute 29 = .ok (.iload_n 2, 1) := by decide +kernel
theorem dX10_addAttribute_30 : decode cX10_addAttribute 30 = .ok (.iastore, 1) := by decide +kernel
theorem dX10_addAttribute_31 : decode cX10_addAttribute 31 = .ok (.aload_n 0, 1) := by decide +kernel
theorem dX10_addAttribute_32 : decode cX10_addAttribute 32 = .ok (.getfield 20, 3) := by decide +kernel
theorem dX10_addAttribute_35 : decode cX10_addAttribute 35 = .ok (.aload_n 0, 1) := by decide +kernel
theorem dX10_addAttribute_36 : decode cX10_addAttribute 36 = .ok (.getfield 56, 3) := by decide +kernel
theorem dX10_addAttribute_39 : decode cX10_addAttribute 39 = .ok (.aaload, 1) := by decide +kernel
theorem dX10_addAttribute_40 : decode cX10_addAttribute 40 = .ok (.aload_n 3, 1) := by decide +kernel
theorem dX10_addAttribute_41 : decode cX10_addAttribute 41 = .ok (.invokevirtual 59, 3) := by decide +kernel
theorem dX10_addAttribute_44 : decode cX10_addAttribute 44 = .ok (.aload_n 0, 1) := by decide +kernel
theorem dX10_addAttribute_45 : decode cX10_addAttribute 45 = .ok (.dup, 1) := by decide +kernel
theorem dX10_addAttribute_46 : decode cX10_addAttribute 46 = .ok (.getfield 56, 3) := by decide +kernel
theorem dX10_addAttribute_49 : decode cX10_addAttribute 49 = .ok (.iconst 1, 1) := by decide +kernel
theorem dX10_addAttribute_50 : decode cX10_addAttribute 50 = .ok (.iadd, 1) := by decide +kernel
theorem dX10_addAttribute_51 : decode cX10_addAttribute 51 = .ok (.putfield 56, 3) := by decide +kernel
theorem dX10_addAttribute_54 : decode cX10_addAttribute 54 = .ok (.aload_n 0, 1) := by decide +kernel
theorem dX10_addAttribute_55 : decode cX10_addAttribute 55 = .ok (.getfield 56, 3) := by decide +kernel
theorem dX10_addAttribute_58 : decode cX10_addAttribute 58 = .ok (.ireturn, 1) := by decide +kernel
theorem dX10_valueOf_0 : decode cX10_valueOf 0 = .ok (.iload_n 1, 1) := by decide +kernel
theorem dX10_valueOf_1 : decode cX10_valueOf 1 = .ok (.iconst 1, 1) := by decide +kernel
theorem dX10_valueOf_2 : decode cX10_valueOf 2 = .ok (.if_icmp .lt 31, 3) := by decide +kernel
theorem dX10_valueOf_5 : decode cX10_valueOf 5 = .ok (.iload_n 1, 1) := by decide +kernel
theorem dX10_valueOf_6 : decode cX10_valueOf 6 = .ok (.aload_n 0, 1) := by decide +kernel
theorem dX10_valueOf_7 : decode cX10_valueOf 7 = .ok (.getfield 56, 3) := by decide +kernel
theorem dX10_valueOf_10 : decode cX10_valueOf 10 = .ok (.if_icmp .gt 23, 3) := by decide +kernel
theorem dX10_valueOf_13 : decode cX10_valueOf 13 = .ok (.iload_n 1, 1) := by decide +kernel
theorem dX10_valueOf_14 : decode cX10_valueOf 14 = .ok (.aload_n 0, 1) := by decide +kernel
theorem dX10_valueOf_15 : decode cX10_valueOf 15 = .ok (.getfield 20, 3) := by decide +kernel
theorem dX10_valueOf_18 : decode cX10_valueOf 18 = .ok (.arraylength, 1) := by decide +kernel
theorem dX10_valueOf_19 : decode cX10_valueOf 19 = .ok (.if_icmp .gt 14, 3) := by decide +kernel
theorem dX10_valueOf_22 : decode cX10_valueOf 22 = .ok (.aload_n 0, 1) := by decide +kernel
theorem dX10_valueOf_23 : decode cX10_valueOf 23 = .ok (.getfield 20, 3) := by decide +kernel
theorem dX10_valueOf_26 : decode cX10_valueOf 26 = .ok (.iload_n 1, 1) := by decide +kernel
theorem dX10_valueOf_27 : decode cX10_valueOf 27 = .ok (.iconst 1, 1) := by decide +kernel
theorem dX10_valueOf_28 : decode cX10_valueOf 28 = .ok (.isub, 1) := by decide +kernel
theorem dX10_valueOf_29 : decode cX10_valueOf 29 = .ok (.aaload, 1) := by decide +kernel
theorem dX10_valueOf_30 : decode cX10_valueOf 30 = .ok (.goto 4, 3) := by decide +kernel
theorem dX10_valueOf_33 : decode cX10_valueOf 33 = .ok (.aconst_null, 1) := by decide +kernel
theorem dX10_valueOf_34 : decode cX10_valueOf 34 = .ok (.areturn, 1) := by decide +kernel
theorem dX10_hearNotice_0 : decode cX10_hearNotice 0 = .ok (.aload_n 1, 1) := by decide +kernel
theorem dX10_hearNotice_1 : decode cX10_hearNotice 1 = .ok (.iconst 0, 1) := by decide +kernel
theorem dX10_hearNotice_2 : decode cX10_hearNotice 2 = .ok (.invokevirtual 63, 3) := by decide +kernel
theorem dX10_hearNotice_5 : decode cX10_hearNotice 5 = .ok (.istore 4, 2) := by decide +kernel
theorem dX10_hearNotice_7 : decode cX10_hearNotice 7 = .ok (.aload_n 1, 1) := by decide +kernel
theorem dX10_hearNotice_8 : decode cX10_hearNotice 8 = .ok (.getfield 67, 3) := by decide +kernel
theorem dX10_hearNotice_11 : decode cX10_hearNotice 11 = .ok (.aload_n 0, 1) := by decide +kernel
theorem dX10_hearNotice_12 : decode cX10_hearNotice 12 = .ok (.getfield 28, 3) := by decide +kernel
theorem dX10_hearNotice_15 : decode cX10_hearNotice 15 = .ok (.if_icmp .le 4, 3) := by decide +kernel
theorem dX10_hearNotice_18 : decode cX10_hearNotice 18 = .ok (.return_, 1) := by decide +kernel
theorem dX10_hearNotice_19 : decode cX10_hearNotice 19 = .ok (.iload 4, 2) := by decide +kernel
theorem dX10_hearNotice_21 : decode cX10_hearNotice 21 = .ok (.bipush 30, 2) := by decide +kernel
theorem dX10_hearNotice_23 : decode cX10_hearNotice 23 = .ok (.if_icmp .ne 35, 3) := by decide +kernel
theorem dX10_hearNotice_26 : decode cX10_hearNotice 26 = .ok (.aload_n 1, 1) := by decide +kernel
theorem dX10_hearNotice_27 : decode cX10_hearNotice 27 = .ok (.getfield 67, 3) := by decide +kernel
theorem dX10_hearNotice_30 : decode cX10_hearNotice 30 = .ok (.iconst 1, 1) := by decide +kernel
theorem dX10_hearNotice_31 : decode cX10_hearNotice 31 = .ok (.if_icmp .ne 78, 3) := by decide +kernel
theorem dX10_hearNotice_34 : decode cX10_hearNotice 34 = .ok (.aload_n 0, 1) := by decide +kernel
theorem dX10_hearNotice_35 : decode cX10_hearNotice 35 = .ok (.getfield 43, 3) := by decide +kernel
theorem dX10_hearNotice_38 : decode cX10_hearNotice 38 = .ok (.ifCond .eq 71, 3) := by decide +kernel
theorem dX10_hearNotice_41 : decode cX10_hearNotice 41 = .ok (.aload_n 0, 1) := by decide +kernel
theorem dX10_hearNotice_42 : decode cX10_hearNotice 42 = .ok (.iconst 0, 1) := by decide +kernel
theorem dX10_hearNotice_43 : decode cX10_hearNotice 43 = .ok (.putfield 43, 3) := by decide +kernel
theorem dX10_hearNotice_46 : decode cX10_hearNotice 46 = .ok (.aload_n 2, 1) := by decide +kernel
theorem dX10_hearNotice_47 : decode cX10_hearNotice 47 = .ok (.bipush 18, 2) := by decide +kernel
theorem dX10_hearNotice_49 : decode cX10_hearNotice 49 = .ok (.iconst 0, 1) := by decide +kernel
theorem dX10_hearNotice_50 : decode cX10_hearNotice 50 = .ok (.iconst 0, 1) := by decide +kernel
theorem dX10_hearNotice_51 : decode cX10_hearNotice 51 = .ok (.iconst 0, 1) := by decide +kernel
theorem dX10_hearNotice_52 : decode cX10_hearNotice 52 = .ok (.invokevirtual 70, 3) := by decide +kernel
theorem dX10_hearNotice_55 : decode cX10_hearNotice 55 = .ok (.goto 54, 3) := by decide +kernel
theorem dX10_hearNotice_58 : decode cX10_hearNotice 58 = .ok (.aload_n 1, 1) := by decide +kernel
theorem dX10_hearNotice_59 : decode cX10_hearNotice 59 = .ok (.getfield 67, 3) := by decide +kernel
theorem dX10_hearNotice_62 : decode cX10_hearNotice 62 = .ok (.iconst 3, 1) := by decide +kernel
theorem dX10_hearNotice_63 : decode cX10_hearNotice 63 = .ok (.if_icmp .lt 46, 3) := by decide +kernel
theorem dX10_hearNotice_66 : decode cX10_hearNotice 66 = .ok (.aload_n 2, 1) := by decide +kernel
theorem dX10_hearNotice_67 : decode cX10_hearNotice 67 = .ok (.iload 4, 2) := by decide +kernel
theorem dX10_hearNotice_69 : decode cX10_hearNotice 69 = .ok (.bipush 27, 2) := by decide +kernel
theorem dX10_hearNotice_71 : decode cX10_hearNotice 71 = .ok (.if_icmp .ne 8, 3) := by decide +kernel
theorem dX10_hearNotice_74 : decode cX10_hearNotice 74 = .ok (.bipush 16, 2) := by decide +kernel
theorem dX10_hearNotice_76 : decode cX10_hearNotice 76 = .ok (.goto 5, 3) := by decide +kernel
theorem dX10_hearNotice_79 : decode cX10_hearNotice 79 = .ok (.bipush 17, 2) := by decide +kernel
theorem dX10_hearNotice_81 : decode cX10_hearNotice 81 = .ok (.aload_n 1, 1) := by decide +kernel
theorem dX10_hearNotice_82 : decode cX10_hearNotice 82 = .ok (.iconst 1, 1) := by decide +kernel
theorem dX10_hearNotice_83 : decode cX10_hearNotice 83 = .ok (.invokevirtual 76, 3) := by decide +kernel
theorem dX10_hearNotice_86 : decode cX10_hearNotice 86 = .ok (.iconst 0, 1) := by decide +kernel
theorem dX10_hearNotice_87 : decode cX10_hearNotice 87 = .ok (.aload_n 1, 1) := by decide +kernel
theorem dX10_hearNotice_88 : decode cX10_hearNotice 88 = .ok (.iconst 3, 1) := by decide +kernel
theorem dX10_hearNotice_89 : decode cX10_hearNotice 89 = .ok (.aload_n 1, 1) := by decide +kernel
theorem dX10_hearNotice_90 : decode cX10_hearNotice 90 = .ok (.getfield 67, 3) := by decide +kernel
theorem dX10_hearNotice_93 : decode cX10_hearNotice 93 = .ok (.invokevirtual 79, 3) := by decide +kernel
theorem dX10_hearNotice_96 : decode cX10_hearNotice 96 = .ok (.iload 4, 2) := by decide +kernel
theorem dX10_hearNotice_98 : decode cX10_hearNotice 98 = .ok (.bipush 29, 2) := by decide +kernel
theorem dX10_hearNotice_100 : decode cX10_hearNotice 100 = .ok (.if_icmp .ne 9, 3) := by decide +kernel
theorem dX10_hearNotice_103 : decode cX10_hearNotice 103 = .ok (.aload_n 3, 1) := by decide +kernel
theorem dX10_hearNotice_104 : decode cX10_hearNotice 104 = .ok (.bipush 30, 2) := by decide +kernel
theorem dX10_hearNotice_106 : decode cX10_hearNotice 106 = .ok (.invokevirtual 83, 3) := by decide +kernel
theorem dX10_hearNotice_109 : decode cX10_hearNotice 109 = .ok (.return_, 1) := by decide +kernel
theorem dX10_serve_0 : decode cX10_serve 0 = .ok (.aload_n 1, 1) := by decide +kernel
theorem dX10_serve_1 : decode cX10_serve 1 = .ok (.iconst 0, 1) := by decide +kernel
theorem dX10_serve_2 : decode cX10_serve 2 = .ok (.invokevirtual 63, 3) := by decide +kernel
theorem dX10_serve_5 : decode cX10_serve 5 = .ok (.istore 4, 2) := by decide +kernel
theorem dX10_serve_7 : decode cX10_serve 7 = .ok (.iload 4, 2) := by decide +kernel
theorem dX10_serve_9 : decode cX10_serve 9 = .ok (.bipush 82, 2) := by decide +kernel
theorem dX10_serve_11 : decode cX10_serve 11 = .ok (.if_icmp .ne 37, 3) := by decide +kernel
theorem dX10_serve_14 : decode cX10_serve 14 = .ok (.aload_n 1, 1) := by decide +kernel
theorem dX10_serve_15 : decode cX10_serve 15 = .ok (.getfield 67, 3) := by decide +kernel
theorem dX10_serve_18 : decode cX10_serve 18 = .ok (.iconst 3, 1) := by decide +kernel
theorem dX10_serve_19 : decode cX10_serve 19 = .ok (.if_icmp .lt 28, 3) := by decide +kernel
theorem dX10_serve_22 : decode cX10_serve 22 = .ok (.aload_n 1, 1) := by decide +kernel
theorem dX10_serve_23 : decode cX10_serve 23 = .ok (.getfield 67, 3) := by decide +kernel
theorem dX10_serve_26 : decode cX10_serve 26 = .ok (.aload_n 0, 1) := by decide +kernel
theorem dX10_serve_27 : decode cX10_serve 27 = .ok (.getfield 28, 3) := by decide +kernel
theorem dX10_serve_30 : decode cX10_serve 30 = .ok (.if_icmp .gt 17, 3) := by decide +kernel
theorem dX10_serve_33 : decode cX10_serve 33 = .ok (.aload_n 0, 1) := by decide +kernel
theorem dX10_serve_34 : decode cX10_serve 34 = .ok (.aload_n 1, 1) := by decide +kernel
theorem dX10_serve_35 : decode cX10_serve 35 = .ok (.iload_n 2, 1) := by decide +kernel
theorem dX10_serve_36 : decode cX10_serve 36 = .ok (.invokevirtual 86, 3) := by decide +kernel
theorem dX10_serve_39 : decode cX10_serve 39 = .ok (.ifCond .ne 8, 3) := by decide +kernel
theorem dX10_serve_42 : decode cX10_serve 42 = .ok (.aload_n 0, 1) := by decide +kernel
theorem dX10_serve_43 : decode cX10_serve 43 = .ok (.aload_n 1, 1) := by decide +kernel
theorem dX10_serve_44 : decode cX10_serve 44 = .ok (.invokevirtual 90, 3) := by decide +kernel
theorem dX10_serve_47 : decode cX10_serve 47 = .ok (.return_, 1) := by decide +kernel
theorem dX10_serve_48 : decode cX10_serve 48 = .ok (.iload 4, 2) := by decide +kernel
theorem dX10_serve_50 : decode cX10_serve 50 = .ok (.invokestatic 93, 3) := by decide +kernel
theorem dX10_serve_53 : decode cX10_serve 53 = .ok (.ifCond .ne 21, 3) := by decide +kernel
theorem dX10_serve_56 : decode cX10_serve 56 = .ok (.iload 4, 2) := by decide +kernel
theorem dX10_serve_58 : decode cX10_serve 58 = .ok (.bipush 64, 2) := by decide +kernel
theorem dX10_serve_60 : decode cX10_serve 60 = .ok (.iand, 1) := by decide +kernel
theorem dX10_serve_61 : decode cX10_serve 61 = .ok (.ifCond .ne 12, 3) := by decide +kernel
theorem dX10_serve_64 : decode cX10_serve 64 = .ok (.iload 4, 2) := by decide +kernel
theorem dX10_serve_66 : decode cX10_serve 66 = .ok (.iconst 0, 1) := by decide +kernel
theorem dX10_serve_67 : decode cX10_serve 67 = .ok (.bipush 6, 2) := by decide +kernel
theorem dX10_serve_69 : decode cX10_serve 69 = .ok (.aload_n 3, 1) := by decide +kernel
theorem dX10_serve_70 : decode cX10_serve 70 = .ok (.invokestatic 97, 3) := by decide +kernel
theorem dX10_serve_73 : decode cX10_serve 73 = .ok (.return_, 1) := by decide +kernel
theorem dX10_serve_74 : decode cX10_serve 74 = .ok (.aload_n 1, 1) := by decide +kernel
theorem dX10_serve_75 : decode cX10_serve 75 = .ok (.getfield 67, 3) := by decide +kernel
theorem dX10_serve_78 : decode cX10_serve 78 = .ok (.aload_n 0, 1) := by decide +kernel
theorem dX10_serve_79 : decode cX10_serve 79 = .ok (.getfield 28, 3) := by decide +kernel
theorem dX10_serve_82 : decode cX10_serve 82 = .ok (.if_icmp .gt 31, 3) := by decide +kernel
theorem dX10_serve_85 : decode cX10_serve 85 = .ok (.iload 4, 2) := by decide +kernel
theorem dX10_serve_87 : decode cX10_serve 87 = .ok (.aload_n 1, 1) := by decide +kernel
theorem dX10_serve_88 : decode cX10_serve 88 = .ok (.getfield 67, 3) := by decide +kernel
theorem dX10_serve_91 : decode cX10_serve 91 = .ok (.invokestatic 101, 3) := by decide +kernel
theorem dX10_serve_94 : decode cX10_serve 94 = .ok (.ifCond .eq 19, 3) := by decide +kernel
theorem dX10_serve_97 : decode cX10_serve 97 = .ok (.iload 4, 2) := by decide +kernel
theorem dX10_serve_99 : decode cX10_serve 99 = .ok (.iconst 2, 1) := by decide +kernel
theorem dX10_serve_100 : decode cX10_serve 100 = .ok (.if_icmp .ne 22, 3) := by decide +kernel
theorem dX10_serve_103 : decode cX10_serve 103 = .ok (.aload_n 1, 1) := by decide +kernel
theorem dX10_serve_104 : decode cX10_serve 104 = .ok (.iconst 1, 1) := by decide +kernel
theorem dX10_serve_105 : decode cX10_serve 105 = .ok (.invokevirtual 76, 3) := by decide +kernel
theorem dX10_serve_108 : decode cX10_serve 108 = .ok (.bipush 23, 2) := by decide +kernel
theorem dX10_serve_110 : decode cX10_serve 110 = .ok (.if_icmp .ge 12, 3) := by decide +kernel
theorem dX10_serve_113 : decode cX10_serve 113 = .ok (.iload 4, 2) := by decide +kernel
theorem dX10_serve_115 : decode cX10_serve 115 = .ok (.iconst 0, 1) := by decide +kernel
theorem dX10_serve_116 : decode cX10_serve 116 = .ok (.iconst 4, 1) := by decide +kernel
theorem dX10_serve_117 : decode cX10_serve 117 = .ok (.aload_n 3, 1) := by decide +kernel
theorem dX10_serve_118 : decode cX10_serve 118 = .ok (.invokestatic 97, 3) := by decide +kernel
theorem dX10_serve_121 : decode cX10_serve 121 = .ok (.return_, 1) := by decide +kernel
theorem dX10_serve_122 : decode cX10_serve 122 = .ok (.iload 4, 2) := by decide +kernel
theorem dX10_serve_124 : decode cX10_serve 124 = .ok (.lookupswitch 120 #[(2, 60), (10, 87), (12, 87), (18, 97), (22, 97), (24, 107)], 60) := by decide +kernel
theorem dX10_serve_184 : decode cX10_serve 184 = .ok (.aload_n 0, 1) := by decide +kernel
theorem dX10_serve_185 : decode cX10_serve 185 = .ok (.aload_n 1, 1) := by decide +kernel
theorem dX10_serve_186 : decode cX10_serve 186 = .ok (.iconst 1, 1) := by decide +kernel
theorem dX10_serve_187 : decode cX10_serve 187 = .ok (.invokevirtual 76, 3) := by decide +kernel
theorem dX10_serve_190 : decode cX10_serve 190 = .ok (.invokevirtual 105, 3) := by decide +kernel
theorem dX10_serve_193 : decode cX10_serve 193 = .ok (.aload_n 3, 1) := by decide +kernel
theorem dX10_serve_194 : decode cX10_serve 194 = .ok (.iconst 3, 1) := by decide +kernel
theorem dX10_serve_195 : decode cX10_serve 195 = .ok (.invokevirtual 83, 3) := by decide +kernel
theorem dX10_serve_198 : decode cX10_serve 198 = .ok (.aload_n 3, 1) := by decide +kernel
theorem dX10_serve_199 : decode cX10_serve 199 = .ok (.aload_n 0, 1) := by decide +kernel
theorem dX10_serve_200 : decode cX10_serve 200 = .ok (.getfield 24, 3) := by decide +kernel
theorem dX10_serve_203 : decode cX10_serve 203 = .ok (.i2l, 1) := by decide +kernel
theorem dX10_serve_204 : decode cX10_serve 204 = .ok (.iconst 2, 1) := by decide +kernel
theorem dX10_serve_205 : decode cX10_serve 205 = .ok (.invokevirtual 108, 3) := by decide +kernel
theorem dX10_serve_208 : decode cX10_serve 208 = .ok (.goto 43, 3) := by decide +kernel
theorem dX10_serve_211 : decode cX10_serve 211 = .ok (.aload_n 0, 1) := by decide +kernel
theorem dX10_serve_212 : decode cX10_serve 212 = .ok (.aload_n 1, 1) := by decide +kernel
theorem dX10_serve_213 : decode cX10_serve 213 = .ok (.iload_n 2, 1) := by decide +kernel
theorem dX10_serve_214 : decode cX10_serve 214 = .ok (.aload_n 3, 1) := by decide +kernel
theorem dX10_serve_215 : decode cX10_serve 215 = .ok (.invokevirtual 112, 3) := by decide +kernel
theorem dX10_serve_218 : decode cX10_serve 218 = .ok (.goto 33, 3) := by decide +kernel
theorem dX10_serve_221 : decode cX10_serve 221 = .ok (.aload_n 0, 1) := by decide +kernel
theorem dX10_serve_222 : decode cX10_serve 222 = .ok (.aload_n 1, 1) := by decide +kernel
theorem dX10_serve_223 : decode cX10_serve 223 = .ok (.iload_n 2, 1) := by decide +kernel
theorem dX10_serve_224 : decode cX10_serve 224 = .ok (.aload_n 3, 1) := by decide +kernel
theorem dX10_serve_225 : decode cX10_serve 225 = .ok (.invokevirtual 116, 3) := by decide +kernel
theorem dX10_serve_228 : decode cX10_serve 228 = .ok (.goto 23, 3) := by decide +kernel
theorem dX10_serve_231 : decode cX10_serve 231 = .ok (.aload_n 0, 1) := by decide +kernel
theorem dX10_serve_232 : decode cX10_serve 232 = .ok (.aload_n 1, 1) := by decide +kernel
theorem dX10_serve_233 : decode cX10_serve 233 = .ok (.iconst 1, 1) := by decide +kernel
theorem dX10_serve_234 : decode cX10_serve 234 = .ok (.invokevirtual 63, 3) := by decide +kernel
theorem dX10_serve_237 : decode cX10_serve 237 = .ok (.aload_n 3, 1) := by decide +kernel
theorem dX10_serve_238 : decode cX10_serve 238 = .ok (.invokevirtual 119, 3) := by decide +kernel
theorem dX10_serve_241 : decode cX10_serve 241 = .ok (.goto 10, 3) := by decide +kernel
theorem dX10_serve_244 : decode cX10_serve 244 = .ok (.aload_n 0, 1) := by decide +kernel
theorem dX10_serve_245 : decode cX10_serve 245 = .ok (.aload_n 1, 1) := by decide +kernel
theorem dX10_serve_246 : decode cX10_serve 246 = .ok (.iload_n 2, 1) := by decide +kernel
theorem dX10_serve_247 : decode cX10_serve 247 = .ok (.aload_n 3, 1) := by decide +kernel
theorem dX10_serve_248 : decode cX10_serve 248 = .ok (.invokevirtual 123, 3) := by decide +kernel
theorem dX10_serve_251 : decode cX10_serve 251 = .ok (.return_, 1) := by decide +kernel
theorem dX10_isRequest_0 : decode cX10_isRequest 0 = .ok (.iload_n 0, 1) := by decide +kernel
theorem dX10_isRequest_1 : decode cX10_isRequest 1 = .ok (.tableswitch 109 2 24 #[107, 109, 107, 109, 107, 109, 107, 109, 107, 109, 107, 109, 109, 109, 107, 109, 107, 109, 109, 109, 107, 109, 107], 107) := by decide +kernel
theorem dX10_isRequest_108 : decode cX10_isRequest 108 = .ok (.iconst 1, 1) := by decide +kernel
theorem dX10_isRequest_109 : decode cX10_isRequest 109 = .ok (.ireturn, 1) := by decide +kernel
theorem dX10_isRequest_110 : decode cX10_isRequest 110 = .ok (.iconst 0, 1) := by decide +kernel
theorem dX10_isRequest_111 : decode cX10_isRequest 111 = .ok (.ireturn, 1) := by decide +kernel
theorem dX10_hasItsSize_0 : decode cX10_hasItsSize 0 = .ok (.iload_n 0, 1) := by decide +kernel
theorem dX10_hasItsSize_1 : decode cX10_hasItsSize 1 = .ok (.tableswitch 201 2 22 #[99, 201, 110, 201, 121, 201, 133, 201, 145, 201, 156, 201, 201, 201, 167, 201, 179, 201, 201, 201, 190], 99) := by decide +kernel
theorem dX10_hasItsSize_100 : decode cX10_hasItsSize 100 = .ok (.iload_n 1, 1) := by decide +kernel
theorem dX10_hasItsSize_101 : decode cX10_hasItsSize 101 = .ok (.iconst 3, 1) := by decide +kernel
theorem dX10_hasItsSize_102 : decode cX10_hasItsSize 102 = .ok (.if_icmp .ne 7, 3) := by decide +kernel
theorem dX10_hasItsSize_105 : decode cX10_hasItsSize 105 = .ok (.iconst 1, 1) := by decide +kernel
theorem dX10_hasItsSize_106 : decode cX10_hasItsSize 106 = .ok (.goto 4, 3) := by decide +kernel
theorem dX10_hasItsSize_109 : decode cX10_hasItsSize 109 = .ok (.iconst 0, 1) := by decide +kernel
theorem dX10_hasItsSize_110 : decode cX10_hasItsSize 110 = .ok (.ireturn, 1) := by decide +kernel
theorem dX10_hasItsSize_111 : decode cX10_hasItsSize 111 = .ok (.iload_n 1, 1) := by decide +kernel
theorem dX10_hasItsSize_112 : decode cX10_hasItsSize 112 = .ok (.iconst 5, 1) := by decide +kernel
theorem dX10_hasItsSize_113 : decode cX10_hasItsSize 113 = .ok (.if_icmp .ne 7, 3) := by decide +kernel
theorem dX10_hasItsSize_116 : decode cX10_hasItsSize 116 = .ok (.iconst 1, 1) := by decide +kernel
theorem dX10_hasItsSize_117 : decode cX10_hasItsSize 117 = .ok (.goto 4, 3) := by decide +kernel
theorem dX10_hasItsSize_120 : decode cX10_hasItsSize 120 = .ok (.iconst 0, 1) := by decide +kernel
theorem dX10_hasItsSize_121 : decode cX10_hasItsSize 121 = .ok (.ireturn, 1) := by decide +kernel
theorem dX10_hasItsSize_122 : decode cX10_hasItsSize 122 = .ok (.iload_n 1, 1) := by decide +kernel
theorem dX10_hasItsSize_123 : decode cX10_hasItsSize 123 = .ok (.bipush 7, 2) := by decide +kernel
theorem dX10_hasItsSize_125 : decode cX10_hasItsSize 125 = .ok (.if_icmp .lt 7, 3) := by decide +kernel
theorem dX10_hasItsSize_128 : decode cX10_hasItsSize 128 = .ok (.iconst 1, 1) := by decide +kernel
theorem dX10_hasItsSize_129 : decode cX10_hasItsSize 129 = .ok (.goto 4, 3) := by decide +kernel
theorem dX10_hasItsSize_132 : decode cX10_hasItsSize 132 = .ok (.iconst 0, 1) := by decide +kernel
theorem dX10_hasItsSize_133 : decode cX10_hasItsSize 133 = .ok (.ireturn, 1) := by decide +kernel
theorem dX10_hasItsSize_134 : decode cX10_hasItsSize 134 = .ok (.iload_n 1, 1) := by decide +kernel
theorem dX10_hasItsSize_135 : decode cX10_hasItsSize 135 = .ok (.bipush 7, 2) := by decide +kernel
theorem dX10_hasItsSize_137 : decode cX10_hasItsSize 137 = .ok (.if_icmp .ne 7, 3) := by decide +kernel
theorem dX10_hasItsSize_140 : decode cX10_hasItsSize 140 = .ok (.iconst 1, 1) := by decide +kernel
theorem dX10_hasItsSize_141 : decode cX10_hasItsSize 141 = .ok (.goto 4, 3) := by decide +kernel
theorem dX10_hasItsSize_144 : decode cX10_hasItsSize 144 = .ok (.iconst 0, 1) := by decide +kernel
theorem dX10_hasItsSize_145 : decode cX10_hasItsSize 145 = .ok (.ireturn, 1) := by decide +kernel
theorem dX10_hasItsSize_146 : decode cX10_hasItsSize 146 = .ok (.iload_n 1, 1) := by decide +kernel
theorem dX10_hasItsSize_147 : decode cX10_hasItsSize 147 = .ok (.iconst 3, 1) := by decide +kernel
theorem dX10_hasItsSize_148 : decode cX10_hasItsSize 148 = .ok (.if_icmp .ne 7, 3) := by decide +kernel
theorem dX10_hasItsSize_151 : decode cX10_hasItsSize 151 = .ok (.iconst 1, 1) := by decide +kernel
theorem dX10_hasItsSize_152 : decode cX10_hasItsSize 152 = .ok (.goto 4, 3) := by decide +kernel
theorem dX10_hasItsSize_155 : decode cX10_hasItsSize 155 = .ok (.iconst 0, 1) := by decide +kernel
theorem dX10_hasItsSize_156 : decode cX10_hasItsSize 156 = .ok (.ireturn, 1) := by decide +kernel
theorem dX10_hasItsSize_157 : decode cX10_hasItsSize 157 = .ok (.iload_n 1, 1) := by decide +kernel
theorem dX10_hasItsSize_158 : decode cX10_hasItsSize 158 = .ok (.iconst 5, 1) := by decide +kernel
theorem dX10_hasItsSize_159 : decode cX10_hasItsSize 159 = .ok (.if_icmp .ne 7, 3) := by decide +kernel
theorem dX10_hasItsSize_162 : decode cX10_hasItsSize 162 = .ok (.iconst 1, 1) := by decide +kernel
theorem dX10_hasItsSize_163 : decode cX10_hasItsSize 163 = .ok (.goto 4, 3) := by decide +kernel
theorem dX10_hasItsSize_166 : decode cX10_hasItsSize 166 = .ok (.iconst 0, 1) := by decide +kernel
theorem dX10_hasItsSize_167 : decode cX10_hasItsSize 167 = .ok (.ireturn, 1) := by decide +kernel
theorem dX10_hasItsSize_168 : decode cX10_hasItsSize 168 = .ok (.iload_n 1, 1) := by decide +kernel
theorem dX10_hasItsSize_169 : decode cX10_hasItsSize 169 = .ok (.bipush 7, 2) := by decide +kernel
theorem dX10_hasItsSize_171 : decode cX10_hasItsSize 171 = .ok (.if_icmp .ne 7, 3) := by decide +kernel
theorem dX10_hasItsSize_174 : decode cX10_hasItsSize 174 = .ok (.iconst 1, 1) := by decide +kernel
theorem dX10_hasItsSize_175 : decode cX10_hasItsSize 175 = .ok (.goto 4, 3) := by decide +kernel
theorem dX10_hasItsSize_178 : decode cX10_hasItsSize 178 = .ok (.iconst 0, 1) := by decide +kernel
theorem dX10_hasItsSize_179 : decode cX10_hasItsSize 179 = .ok (.ireturn, 1) := by decide +kernel
theorem dX10_hasItsSize_180 : decode cX10_hasItsSize 180 = .ok (.iload_n 1, 1) := by decide +kernel
theorem dX10_hasItsSize_181 : decode cX10_hasItsSize 181 = .ok (.iconst 3, 1) := by decide +kernel
theorem dX10_hasItsSize_182 : decode cX10_hasItsSize 182 = .ok (.if_icmp .lt 7, 3) := by decide +kernel
theorem dX10_hasItsSize_185 : decode cX10_hasItsSize 185 = .ok (.iconst 1, 1) := by decide +kernel
theorem dX10_hasItsSize_186 : decode cX10_hasItsSize 186 = .ok (.goto 4, 3) := by decide +kernel
theorem dX10_hasItsSize_189 : decode cX10_hasItsSize 189 = .ok (.iconst 0, 1) := by decide +kernel
theorem dX10_hasItsSize_190 : decode cX10_hasItsSize 190 = .ok (.ireturn, 1) := by decide +kernel
theorem dX10_hasItsSize_191 : decode cX10_hasItsSize 191 = .ok (.iload_n 1, 1) := by decide +kernel
theorem dX10_hasItsSize_192 : decode cX10_hasItsSize 192 = .ok (.iconst 5, 1) := by decide +kernel
theorem dX10_hasItsSize_193 : decode cX10_hasItsSize 193 = .ok (.if_icmp .lt 7, 3) := by decide +kernel
theorem dX10_hasItsSize_196 : decode cX10_hasItsSize 196 = .ok (.iconst 1, 1) := by decide +kernel
theorem dX10_hasItsSize_197 : decode cX10_hasItsSize 197 = .ok (.goto 4, 3) := by decide +kernel
theorem dX10_hasItsSize_200 : decode cX10_hasItsSize 200 = .ok (.iconst 0, 1) := by decide +kernel
theorem dX10_hasItsSize_201 : decode cX10_hasItsSize 201 = .ok (.ireturn, 1) := by decide +kernel
theorem dX10_hasItsSize_202 : decode cX10_hasItsSize 202 = .ok (.iload_n 1, 1) := by decide +kernel
theorem dX10_hasItsSize_203 : decode cX10_hasItsSize 203 = .ok (.iconst 2, 1) := by decide +kernel
theorem dX10_hasItsSize_204 : decode cX10_hasItsSize 204 = .ok (.if_icmp .ne 7, 3) := by decide +kernel
theorem dX10_hasItsSize_207 : decode cX10_hasItsSize 207 = .ok (.iconst 1, 1) := by decide +kernel
theorem dX10_hasItsSize_208 : decode cX10_hasItsSize 208 = .ok (.goto 4, 3) := by decide +kernel
theorem dX10_hasItsSize_211 : decode cX10_hasItsSize 211 = .ok (.iconst 0, 1) := by decide +kernel
theorem dX10_hasItsSize_212 : decode cX10_hasItsSize 212 = .ok (.ireturn, 1) := by decide +kernel
theorem dX10_refuse_0 : decode cX10_refuse 0 = .ok (.aload_n 3, 1) := by decide +kernel
theorem dX10_refuse_1 : decode cX10_refuse 1 = .ok (.iconst 1, 1) := by decide +kernel
theorem dX10_refuse_2 : decode cX10_refuse 2 = .ok (.invokevirtual 83, 3) := by decide +kernel
theorem dX10_refuse_5 : decode cX10_refuse 5 = .ok (.aload_n 3, 1) := by decide +kernel
theorem dX10_refuse_6 : decode cX10_refuse 6 = .ok (.iload_n 0, 1) := by decide +kernel
theorem dX10_refuse_7 : decode cX10_refuse 7 = .ok (.invokevirtual 83, 3) := by decide +kernel
theorem dX10_refuse_10 : decode cX10_refuse 10 = .ok (.aload_n 3, 1) := by decide +kernel
theorem dX10_refuse_11 : decode cX10_refuse 11 = .ok (.iload_n 1, 1) := by decide +kernel
theorem dX10_refuse_12 : decode cX10_refuse 12 = .ok (.i2l, 1) := by decide +kernel
theorem dX10_refuse_13 : decode cX10_refuse 13 = .ok (.iconst 2, 1) := by decide +kernel
theorem dX10_refuse_14 : decode cX10_refuse 14 = .ok (.invokevirtual 108, 3) := by decide +kernel
theorem dX10_refuse_17 : decode cX10_refuse 17 = .ok (.aload_n 3, 1) := by decide +kernel
theorem dX10_refuse_18 : decode cX10_refuse 18 = .ok (.iload_n 2, 1) := by decide +kernel
theorem dX10_refuse_19 : decode cX10_refuse 19 = .ok (.invokevirtual 83, 3) := by decide +kernel
theorem dX10_refuse_22 : decode cX10_refuse 22 = .ok (.return_, 1) := by decide +kernel
theorem dX10_faultOfRead_0 : decode cX10_faultOfRead 0 = .ok (.iload_n 1, 1) := by decide +kernel
theorem dX10_faultOfRead_1 : decode cX10_faultOfRead 1 = .ok (.iconst 1, 1) := by decide +kernel
theorem dX10_faultOfRead_2 : decode cX10_faultOfRead 2 = .ok (.if_icmp .lt 20, 3) := by decide +kernel
theorem dX10_faultOfRead_5 : decode cX10_faultOfRead 5 = .ok (.iload_n 1, 1) := by decide +kernel
theorem dX10_faultOfRead_6 : decode cX10_faultOfRead 6 = .ok (.aload_n 0, 1) := by decide +kernel
theorem dX10_faultOfRead_7 : decode cX10_faultOfRead 7 = .ok (.getfield 56, 3) := by decide +kernel
theorem dX10_faultOfRead_10 : decode cX10_faultOfRead 10 = .ok (.if_icmp .gt 12, 3) := by decide +kernel
theorem dX10_faultOfRead_13 : decode cX10_faultOfRead 13 = .ok (.iload_n 1, 1) := by decide +kernel
theorem dX10_faultOfRead_14 : decode cX10_faultOfRead 14 = .ok (.aload_n 0, 1) := by decide +kernel
theorem dX10_faultOfRead_15 : decode cX10_faultOfRead 15 = .ok (.getfield 15, 3) := by decide +kernel
theorem dX10_faultOfRead_18 : decode cX10_faultOfRead 18 = .ok (.arraylength, 1) := by decide +kernel
theorem dX10_faultOfRead_19 : decode cX10_faultOfRead 19 = .ok (.if_icmp .le 5, 3) := by decide +kernel
theorem dX10_faultOfRead_22 : decode cX10_faultOfRead 22 = .ok (.iconst 1, 1) := by decide +kernel
theorem dX10_faultOfRead_23 : decode cX10_faultOfRead 23 = .ok (.ireturn, 1) := by decide +kernel
theorem dX10_faultOfRead_24 : decode cX10_faultOfRead 24 = .ok (.aload_n 0, 1) := by decide +kernel
theorem dX10_faultOfRead_25 : decode cX10_faultOfRead 25 = .ok (.getfield 15, 3) := by decide +kernel
theorem dX10_faultOfRead_28 : decode cX10_faultOfRead 28 = .ok (.iload_n 1, 1) := by decide +kernel
theorem dX10_faultOfRead_29 : decode cX10_faultOfRead 29 = .ok (.iconst 1, 1) := by decide +kernel
theorem dX10_faultOfRead_30 : decode cX10_faultOfRead 30 = .ok (.isub, 1) := by decide +kernel
theorem dX10_faultOfRead_31 : decode cX10_faultOfRead 31 = .ok (.iaload, 1) := by decide +kernel
theorem dX10_faultOfRead_32 : decode cX10_faultOfRead 32 = .ok (.istore_n 3, 1) := by decide +kernel
theorem dX10_faultOfRead_33 : decode cX10_faultOfRead 33 = .ok (.iload_n 3, 1) := by decide +kernel
theorem dX10_faultOfRead_34 : decode cX10_faultOfRead 34 = .ok (.iconst 1, 1) := by decide +kernel
theorem dX10_faultOfRead_35 : decode cX10_faultOfRead 35 = .ok (.iand, 1) := by decide +kernel
theorem dX10_faultOfRead_36 : decode cX10_faultOfRead 36 = .ok (.ifCond .ne 5, 3) := by decide +kernel
theorem dX10_faultOfRead_39 : decode cX10_faultOfRead 39 = .ok (.iconst 2, 1) := by decide +kernel
theorem dX10_faultOfRead_40 : decode cX10_faultOfRead 40 = .ok (.ireturn, 1) := by decide +kernel
theorem dX10_faultOfRead_41 : decode cX10_faultOfRead 41 = .ok (.iload_n 3, 1) := by decide +kernel
theorem dX10_faultOfRead_42 : decode cX10_faultOfRead 42 = .ok (.iconst 4, 1) := by decide +kernel
theorem dX10_faultOfRead_43 : decode cX10_faultOfRead 43 = .ok (.iand, 1) := by decide +kernel
theorem dX10_faultOfRead_44 : decode cX10_faultOfRead 44 = .ok (.ifCond .eq 11, 3) := by decide +kernel
theorem dX10_faultOfRead_47 : decode cX10_faultOfRead 47 = .ok (.iload_n 2, 1) := by decide +kernel
theorem dX10_faultOfRead_48 : decode cX10_faultOfRead 48 = .ok (.ifCond .ne 7, 3) := by decide +kernel
theorem dX10_faultOfRead_51 : decode cX10_faultOfRead 51 = .ok (.iconst 5, 1) := by decide +kernel
theorem dX10_faultOfRead_52 : decode cX10_faultOfRead 52 = .ok (.goto 4, 3) := by decide +kernel
theorem dX10_faultOfRead_55 : decode cX10_faultOfRead 55 = .ok (.iconst 0, 1) := by decide +kernel
theorem dX10_faultOfRead_56 : decode cX10_faultOfRead 56 = .ok (.ireturn, 1) := by decide +kernel
theorem dX10_faultOfWrite_0 : decode cX10_faultOfWrite 0 = .ok (.aload_n 1, 1) := by decide +kernel
theorem dX10_faultOfWrite_1 : decode cX10_faultOfWrite 1 = .ok (.iconst 1, 1) := by decide +kernel
theorem dX10_faultOfWrite_2 : decode cX10_faultOfWrite 2 = .ok (.invokevirtual 76, 3) := by decide +kernel
theorem dX10_faultOfWrite_5 : decode cX10_faultOfWrite 5 = .ok (.istore_n 3, 1) := by decide +kernel
theorem dX10_faultOfWrite_6 : decode cX10_faultOfWrite 6 = .ok (.iload_n 3, 1) := by decide +kernel
theorem dX10_faultOfWrite_7 : decode cX10_faultOfWrite 7 = .ok (.iconst 1, 1) := by decide +kernel
theorem dX10_faultOfWrite_8 : decode cX10_faultOfWrite 8 = .ok (.if_icmp .lt 20, 3) := by decide +kernel
theorem dX10_faultOfWrite_11 : decode cX10_faultOfWrite 11 = .ok (.iload_n 3, 1) := by decide +kernel
theorem dX10_faultOfWrite_12 : decode cX10_faultOfWrite 12 = .ok (.aload_n 0, 1) := by decide +kernel
theorem dX10_faultOfWrite_13 : decode cX10_faultOfWrite 13 = .ok (.getfield 56, 3) := by decide +kernel
theorem dX10_faultOfWrite_16 : decode cX10_faultOfWrite 16 = .ok (.if_icmp .gt 12, 3) := by decide +kernel
theorem dX10_faultOfWrite_19 : decode cX10_faultOfWrite 19 = .ok (.iload_n 3, 1) := by decide +kernel
theorem dX10_faultOfWrite_20 : decode cX10_faultOfWrite 20 = .ok (.aload_n 0, 1) := by decide +kernel
theorem dX10_faultOfWrite_21 : decode cX10_faultOfWrite 21 = .ok (.getfield 15, 3) := by decide +kernel
theorem dX10_faultOfWrite_24 : decode cX10_faultOfWrite 24 = .ok (.arraylength, 1) := by decide +kernel
theorem dX10_faultOfWrite_25 : decode cX10_faultOfWrite 25 = .ok (.if_icmp .le 5, 3) := by decide +kernel
theorem dX10_faultOfWrite_28 : decode cX10_faultOfWrite 28 = .ok (.iconst 1, 1) := by decide +kernel
theorem dX10_faultOfWrite_29 : decode cX10_faultOfWrite 29 = .ok (.ireturn, 1) := by decide +kernel
theorem dX10_faultOfWrite_30 : decode cX10_faultOfWrite 30 = .ok (.aload_n 0, 1) := by decide +kernel
theorem dX10_faultOfWrite_31 : decode cX10_faultOfWrite 31 = .ok (.getfield 15, 3) := by decide +kernel
theorem dX10_faultOfWrite_34 : decode cX10_faultOfWrite 34 = .ok (.iload_n 3, 1) := by decide +kernel
theorem dX10_faultOfWrite_35 : decode cX10_faultOfWrite 35 = .ok (.iconst 1, 1) := by decide +kernel
theorem dX10_faultOfWrite_36 : decode cX10_faultOfWrite 36 = .ok (.isub, 1) := by decide +kernel
theorem dX10_faultOfWrite_37 : decode cX10_faultOfWrite 37 = .ok (.iaload, 1) := by decide +kernel
theorem dX10_faultOfWrite_38 : decode cX10_faultOfWrite 38 = .ok (.istore 4, 2) := by decide +kernel
theorem dX10_faultOfWrite_40 : decode cX10_faultOfWrite 40 = .ok (.iload 4, 2) := by decide +kernel
theorem dX10_faultOfWrite_42 : decode cX10_faultOfWrite 42 = .ok (.iconst 2, 1) := by decide +kernel
theorem dX10_faultOfWrite_43 : decode cX10_faultOfWrite 43 = .ok (.iand, 1) := by decide +kernel
theorem dX10_faultOfWrite_44 : decode cX10_faultOfWrite 44 = .ok (.ifCond .ne 5, 3) := by decide +kernel
theorem dX10_faultOfWrite_47 : decode cX10_faultOfWrite 47 = .ok (.iconst 3, 1) := by decide +kernel
theorem dX10_faultOfWrite_48 : decode cX10_faultOfWrite 48 = .ok (.ireturn, 1) := by decide +kernel
theorem dX10_faultOfWrite_49 : decode cX10_faultOfWrite 49 = .ok (.iload 4, 2) := by decide +kernel
theorem dX10_faultOfWrite_51 : decode cX10_faultOfWrite 51 = .ok (.iconst 4, 1) := by decide +kernel
theorem dX10_faultOfWrite_52 : decode cX10_faultOfWrite 52 = .ok (.iand, 1) := by decide +kernel
theorem dX10_faultOfWrite_53 : decode cX10_faultOfWrite 53 = .ok (.ifCond .eq 9, 3) := by decide +kernel
theorem dX10_faultOfWrite_56 : decode cX10_faultOfWrite 56 = .ok (.iload_n 2, 1) := by decide +kernel
theorem dX10_faultOfWrite_57 : decode cX10_faultOfWrite 57 = .ok (.ifCond .ne 5, 3) := by decide +kernel
theorem dX10_faultOfWrite_60 : decode cX10_faultOfWrite 60 = .ok (.iconst 5, 1) := by decide +kernel
theorem dX10_faultOfWrite_61 : decode cX10_faultOfWrite 61 = .ok (.ireturn, 1) := by decide +kernel
theorem dX10_faultOfWrite_62 : decode cX10_faultOfWrite 62 = .ok (.aload_n 1, 1) := by decide +kernel
theorem dX10_faultOfWrite_63 : decode cX10_faultOfWrite 63 = .ok (.iconst 0, 1) := by decide +kernel
theorem dX10_faultOfWrite_64 : decode cX10_faultOfWrite 64 = .ok (.invokevirtual 63, 3) := by decide +kernel
theorem dX10_faultOfWrite_67 : decode cX10_faultOfWrite 67 = .ok (.bipush 22, 2) := by decide +kernel
theorem dX10_faultOfWrite_69 : decode cX10_faultOfWrite 69 = .ok (.if_icmp .ne 19, 3) := by decide +kernel
theorem dX10_faultOfWrite_72 : decode cX10_faultOfWrite 72 = .ok (.aload_n 0, 1) := by decide +kernel
theorem dX10_faultOfWrite_73 : decode cX10_faultOfWrite 73 = .ok (.getfield 40, 3) := by decide +kernel
theorem dX10_faultOfWrite_76 : decode cX10_faultOfWrite 76 = .ok (.bipush 6, 2) := by decide +kernel
theorem dX10_faultOfWrite_78 : decode cX10_faultOfWrite 78 = .ok (.if_icmp .lt 8, 3) := by decide +kernel
theorem dX10_faultOfWrite_81 : decode cX10_faultOfWrite 81 = .ok (.bipush 9, 2) := by decide +kernel
theorem dX10_faultOfWrite_83 : decode cX10_faultOfWrite 83 = .ok (.goto 4, 3) := by decide +kernel
theorem dX10_faultOfWrite_86 : decode cX10_faultOfWrite 86 = .ok (.iconst 0, 1) := by decide +kernel
theorem dX10_faultOfWrite_87 : decode cX10_faultOfWrite 87 = .ok (.ireturn, 1) := by decide +kernel
theorem dX10_faultOfWrite_88 : decode cX10_faultOfWrite 88 = .ok (.aload_n 1, 1) := by decide +kernel
theorem dX10_faultOfWrite_89 : decode cX10_faultOfWrite 89 = .ok (.getfield 67, 3) := by decide +kernel
theorem dX10_faultOfWrite_92 : decode cX10_faultOfWrite 92 = .ok (.iconst 3, 1) := by decide +kernel
theorem dX10_faultOfWrite_93 : decode cX10_faultOfWrite 93 = .ok (.isub, 1) := by decide +kernel
theorem dX10_faultOfWrite_94 : decode cX10_faultOfWrite 94 = .ok (.bipush 40, 2) := by decide +kernel
theorem dX10_faultOfWrite_96 : decode cX10_faultOfWrite 96 = .ok (.if_icmp .le 8, 3) := by decide +kernel
theorem dX10_faultOfWrite_99 : decode cX10_faultOfWrite 99 = .ok (.bipush 13, 2) := by decide +kernel
theorem dX10_faultOfWrite_101 : decode cX10_faultOfWrite 101 = .ok (.goto 4, 3) := by decide +kernel
theorem dX10_faultOfWrite_104 : decode cX10_faultOfWrite 104 = .ok (.iconst 0, 1) := by decide +kernel
theorem dX10_faultOfWrite_105 : decode cX10_faultOfWrite 105 = .ok (.ireturn, 1) := by decide +kernel
theorem dX10_overwrite_0 : decode cX10_overwrite 0 = .ok (.aload_n 0, 1) := by decide +kernel
theorem dX10_overwrite_1 : decode cX10_overwrite 1 = .ok (.aload_n 1, 1) := by decide +kernel
theorem dX10_overwrite_2 : decode cX10_overwrite 2 = .ok (.iconst 1, 1) := by decide +kernel
theorem dX10_overwrite_3 : decode cX10_overwrite 3 = .ok (.invokevirtual 76, 3) := by decide +kernel
theorem dX10_overwrite_6 : decode cX10_overwrite 6 = .ok (.invokevirtual 126, 3) := by decide +kernel
theorem dX10_overwrite_9 : decode cX10_overwrite 9 = .ok (.astore_n 2, 1) := by decide +kernel
theorem dX10_overwrite_10 : decode cX10_overwrite 10 = .ok (.aload_n 2, 1) := by decide +kernel
theorem dX10_overwrite_11 : decode cX10_overwrite 11 = .ok (.ifnull 17, 3) := by decide +kernel
theorem dX10_overwrite_14 : decode cX10_overwrite 14 = .ok (.aload_n 2, 1) := by decide +kernel
theorem dX10_overwrite_15 : decode cX10_overwrite 15 = .ok (.invokevirtual 130, 3) := by decide +kernel
theorem dX10_overwrite_18 : decode cX10_overwrite 18 = .ok (.aload_n 2, 1) := by decide +kernel
theorem dX10_overwrite_19 : decode cX10_overwrite 19 = .ok (.aload_n 1, 1) := by decide +kernel
theorem dX10_overwrite_20 : decode cX10_overwrite 20 = .ok (.iconst 3, 1) := by decide +kernel
theorem dX10_overwrite_21 : decode cX10_overwrite 21 = .ok (.aload_n 1, 1) := by decide +kernel
theorem dX10_overwrite_22 : decode cX10_overwrite 22 = .ok (.getfield 67, 3) := by decide +kernel
theorem dX10_overwrite_25 : decode cX10_overwrite 25 = .ok (.invokevirtual 133, 3) := by decide +kernel
theorem dX10_overwrite_28 : decode cX10_overwrite 28 = .ok (.return_, 1) := by decide +kernel
theorem dX10_answerRead_0 : decode cX10_answerRead 0 = .ok (.aload_n 1, 1) := by decide +kernel
theorem dX10_answerRead_1 : decode cX10_answerRead 1 = .ok (.iconst 0, 1) := by decide +kernel
theorem dX10_answerRead_2 : decode cX10_answerRead 2 = .ok (.invokevirtual 63, 3) := by decide +kernel
theorem dX10_answerRead_5 : decode cX10_answerRead 5 = .ok (.istore 4, 2) := by decide +kernel
theorem dX10_answerRead_7 : decode cX10_answerRead 7 = .ok (.aload_n 1, 1) := by decide +kernel
theorem dX10_answerRead_8 : decode cX10_answerRead 8 = .ok (.iconst 1, 1) := by decide +kernel
theorem dX10_answerRead_9 : decode cX10_answerRead 9 = .ok (.invokevirtual 76, 3) := by decide +kernel
theorem dX10_answerRead_12 : decode cX10_answerRead 12 = .ok (.istore 5, 2) := by decide +kernel
theorem dX10_answerRead_14 : decode cX10_answerRead 14 = .ok (.iload 4, 2) := by decide +kernel
theorem dX10_answerRead_16 : decode cX10_answerRead 16 = .ok (.bipush 12, 2) := by decide +kernel
theorem dX10_answerRead_18 : decode cX10_answerRead 18 = .ok (.if_icmp .ne 11, 3) := by decide +kernel
theorem dX10_answerRead_21 : decode cX10_answerRead 21 = .ok (.aload_n 1, 1) := by decide +kernel
theorem dX10_answerRead_22 : decode cX10_answerRead 22 = .ok (.iconst 3, 1) := by decide +kernel
theorem dX10_answerRead_23 : decode cX10_answerRead 23 = .ok (.invokevirtual 76, 3) := by decide +kernel
theorem dX10_answerRead_26 : decode cX10_answerRead 26 = .ok (.goto 4, 3) := by decide +kernel
theorem dX10_answerRead_29 : decode cX10_answerRead 29 = .ok (.iconst 0, 1) := by decide +kernel
theorem dX10_answerRead_30 : decode cX10_answerRead 30 = .ok (.istore 6, 2) := by decide +kernel
theorem dX10_answerRead_32 : decode cX10_answerRead 32 = .ok (.aload_n 0, 1) := by decide +kernel
theorem dX10_answerRead_33 : decode cX10_answerRead 33 = .ok (.iload 5, 2) := by decide +kernel
theorem dX10_answerRead_35 : decode cX10_answerRead 35 = .ok (.iload_n 2, 1) := by decide +kernel
theorem dX10_answerRead_36 : decode cX10_answerRead 36 = .ok (.invokevirtual 137, 3) := by decide +kernel
theorem dX10_answerRead_39 : decode cX10_answerRead 39 = .ok (.istore 7, 2) := by decide +kernel
theorem dX10_answerRead_41 : decode cX10_answerRead 41 = .ok (.aload_n 0, 1) := by decide +kernel
theorem dX10_answerRead_42 : decode cX10_answerRead 42 = .ok (.iload 5, 2) := by decide +kernel
theorem dX10_answerRead_44 : decode cX10_answerRead 44 = .ok (.invokevirtual 126, 3) := by decide +kernel
theorem dX10_answerRead_47 : decode cX10_answerRead 47 = .ok (.astore 8, 2) := by decide +kernel
theorem dX10_answerRead_49 : decode cX10_answerRead 49 = .ok (.iload 7, 2) := by decide +kernel
theorem dX10_answerRead_51 : decode cX10_answerRead 51 = .ok (.ifCond .ne 22, 3) := by decide +kernel
theorem dX10_answerRead_54 : decode cX10_answerRead 54 = .ok (.aload 8, 2) := by decide +kernel
theorem dX10_answerRead_56 : decode cX10_answerRead 56 = .ok (.ifnull 17, 3) := by decide +kernel
theorem dX10_answerRead_59 : decode cX10_answerRead 59 = .ok (.iload 6, 2) := by decide +kernel
theorem dX10_answerRead_61 : decode cX10_answerRead 61 = .ok (.aload 8, 2) := by decide +kernel
theorem dX10_answerRead_63 : decode cX10_answerRead 63 = .ok (.getfield 67, 3) := by decide +kernel
theorem dX10_answerRead_66 : decode cX10_answerRead 66 = .ok (.if_icmp .le 7, 3) := by decide +kernel
theorem dX10_answerRead_69 : decode cX10_answerRead 69 = .ok (.bipush 7, 2) := by decide +kernel
theorem dX10_answerRead_71 : decode cX10_answerRead 71 = .ok (.istore 7, 2) := by decide +kernel
theorem dX10_answerRead_73 : decode cX10_answerRead 73 = .ok (.iload 7, 2) := by decide +kernel
theorem dX10_answerRead_75 : decode cX10_answerRead 75 = .ok (.ifCond .ne 8, 3) := by decide +kernel
theorem dX10_answerRead_78 : decode cX10_answerRead 78 = .ok (.aload 8, 2) := by decide +kernel
theorem dX10_answerRead_80 : decode cX10_answerRead 80 = .ok (.ifnonnull 14, 3) := by decide +kernel
theorem dX10_answerRead_83 : decode cX10_answerRead 83 = .ok (.iload 4, 2) := by decide +kernel
theorem dX10_answerRead_85 : decode cX10_answerRead 85 = .ok (.iload 5, 2) := by decide +kernel
theorem dX10_answerRead_87 : decode cX10_answerRead 87 = .ok (.iload 7, 2) := by decide +kernel
theorem dX10_answerRead_89 : decode cX10_answerRead 89 = .ok (.aload_n 3, 1) := by decide +kernel
theorem dX10_answerRead_90 : decode cX10_answerRead 90 = .ok (.invokestatic 97, 3) := by decide +kernel
theorem dX10_answerRead_93 : decode cX10_answerRead 93 = .ok (.return_, 1) := by decide +kernel
theorem dX10_answerRead_94 : decode cX10_answerRead 94 = .ok (.aload_n 3, 1) := by decide +kernel
theorem dX10_answerRead_95 : decode cX10_answerRead 95 = .ok (.iload 4, 2) := by decide +kernel
theorem dX10_answerRead_97 : decode cX10_answerRead 97 = .ok (.iconst 1, 1) := by decide +kernel
theorem dX10_answerRead_98 : decode cX10_answerRead 98 = .ok (.iadd, 1) := by decide +kernel
theorem dX10_answerRead_99 : decode cX10_answerRead 99 = .ok (.invokevirtual 83, 3) := by decide +kernel
theorem dX10_answerRead_102 : decode cX10_answerRead 102 = .ok (.aload_n 3, 1) := by decide +kernel
theorem dX10_answerRead_103 : decode cX10_answerRead 103 = .ok (.aload 8, 2) := by decide +kernel
theorem dX10_answerRead_105 : decode cX10_answerRead 105 = .ok (.iload 6, 2) := by decide +kernel
theorem dX10_answerRead_107 : decode cX10_answerRead 107 = .ok (.aload_n 0, 1) := by decide +kernel
theorem dX10_answerRead_108 : decode cX10_answerRead 108 = .ok (.getfield 28, 3) := by decide +kernel
theorem dX10_answerRead_111 : decode cX10_answerRead 111 = .ok (.iconst 1, 1) := by decide +kernel
theorem dX10_answerRead_112 : decode cX10_answerRead 112 = .ok (.isub, 1) := by decide +kernel
theorem dX10_answerRead_113 : decode cX10_answerRead 113 = .ok (.invokevirtual 133, 3) := by decide +kernel
theorem dX10_answerRead_116 : decode cX10_answerRead 116 = .ok (.return_, 1) := by decide +kernel
theorem dX10_answerWrite_0 : decode cX10_answerWrite 0 = .ok (.aload_n 1, 1) := by decide +kernel
theorem dX10_answerWrite_1 : decode cX10_answerWrite 1 = .ok (.iconst 0, 1) := by decide +kernel
theorem dX10_answerWrite_2 : decode cX10_answerWrite 2 = .ok (.invokevirtual 63, 3) := by decide +kernel
theorem dX10_answerWrite_5 : decode cX10_answerWrite 5 = .ok (.istore 4, 2) := by decide +kernel
theorem dX10_answerWrite_7 : decode cX10_answerWrite 7 = .ok (.aload_n 0, 1) := by decide +kernel
theorem dX10_answerWrite_8 : decode cX10_answerWrite 8 = .ok (.aload_n 1, 1) := by decide +kernel
theorem dX10_answerWrite_9 : decode cX10_answerWrite 9 = .ok (.iload_n 2, 1) := by decide +kernel
theorem dX10_answerWrite_10 : decode cX10_answerWrite 10 = .ok (.invokevirtual 86, 3) := by decide +kernel
theorem dX10_answerWrite_13 : decode cX10_answerWrite 13 = .ok (.istore 5, 2) := by decide +kernel
theorem dX10_answerWrite_15 : decode cX10_answerWrite 15 = .ok (.iload 5, 2) := by decide +kernel
theorem dX10_answerWrite_17 : decode cX10_answerWrite 17 = .ok (.ifCond .eq 17, 3) := by decide +kernel
theorem dX10_answerWrite_20 : decode cX10_answerWrite 20 = .ok (.iload 4, 2) := by decide +kernel
theorem dX10_answerWrite_22 : decode cX10_answerWrite 22 = .ok (.aload_n 1, 1) := by decide +kernel
theorem dX10_answerWrite_23 : decode cX10_answerWrite 23 = .ok (.iconst 1, 1) := by decide +kernel
theorem dX10_answerWrite_24 : decode cX10_answerWrite 24 = .ok (.invokevirtual 76, 3) := by decide +kernel
theorem dX10_answerWrite_27 : decode cX10_answerWrite 27 = .ok (.iload 5, 2) := by decide +kernel
theorem dX10_answerWrite_29 : decode cX10_answerWrite 29 = .ok (.aload_n 3, 1) := by decide +kernel
theorem dX10_answerWrite_30 : decode cX10_answerWrite 30 = .ok (.invokestatic 97, 3) := by decide +kernel
theorem dX10_answerWrite_33 : decode cX10_answerWrite 33 = .ok (.return_, 1) := by decide +kernel
theorem dX10_answerWrite_34 : decode cX10_answerWrite 34 = .ok (.aload_n 3, 1) := by decide +kernel
theorem dX10_answerWrite_35 : decode cX10_answerWrite 35 = .ok (.iload 4, 2) := by decide +kernel
theorem dX10_answerWrite_37 : decode cX10_answerWrite 37 = .ok (.iconst 1, 1) := by decide +kernel
theorem dX10_answerWrite_38 : decode cX10_answerWrite 38 = .ok (.iadd, 1) := by decide +kernel
theorem dX10_answerWrite_39 : decode cX10_answerWrite 39 = .ok (.invokevirtual 83, 3) := by decide +kernel
theorem dX10_answerWrite_42 : decode cX10_answerWrite 42 = .ok (.iload 4, 2) := by decide +kernel
theorem dX10_answerWrite_44 : decode cX10_answerWrite 44 = .ok (.bipush 18, 2) := by decide +kernel
theorem dX10_answerWrite_46 : decode cX10_answerWrite 46 = .ok (.if_icmp .ne 9, 3) := by decide +kernel
theorem dX10_answerWrite_49 : decode cX10_answerWrite 49 = .ok (.aload_n 0, 1) := by decide +kernel
theorem dX10_answerWrite_50 : decode cX10_answerWrite 50 = .ok (.aload_n 1, 1) := by decide +kernel
theorem dX10_answerWrite_51 : decode cX10_answerWrite 51 = .ok (.invokevirtual 90, 3) := by decide +kernel
theorem dX10_answerWrite_54 : decode cX10_answerWrite 54 = .ok (.return_, 1) := by decide +kernel
theorem dX10_answerWrite_55 : decode cX10_answerWrite 55 = .ok (.aload_n 3, 1) := by decide +kernel
theorem dX10_answerWrite_56 : decode cX10_answerWrite 56 = .ok (.aload_n 1, 1) := by decide +kernel
theorem dX10_answerWrite_57 : decode cX10_answerWrite 57 = .ok (.iconst 1, 1) := by decide +kernel
theorem dX10_answerWrite_58 : decode cX10_answerWrite 58 = .ok (.aload_n 1, 1) := by decide +kernel
theorem dX10_answerWrite_59 : decode cX10_answerWrite 59 = .ok (.getfield 67, 3) := by decide +kernel
theorem dX10_answerWrite_62 : decode cX10_answerWrite 62 = .ok (.invokevirtual 133, 3) := by decide +kernel
theorem dX10_answerWrite_65 : decode cX10_answerWrite 65 = .ok (.aload_n 0, 1) := by decide +kernel
theorem dX10_answerWrite_66 : decode cX10_answerWrite 66 = .ok (.getfield 40, 3) := by decide +kernel
theorem dX10_answerWrite_69 : decode cX10_answerWrite 69 = .ok (.aload_n 0, 1) := by decide +kernel
theorem dX10_answerWrite_70 : decode cX10_answerWrite 70 = .ok (.getfield 31, 3) := by decide +kernel
theorem dX10_answerWrite_73 : decode cX10_answerWrite 73 = .ok (.arraylength, 1) := by decide +kernel
theorem dX10_answerWrite_74 : decode cX10_answerWrite 74 = .ok (.if_icmp .ge 43, 3) := by decide +kernel
theorem dX10_answerWrite_77 : decode cX10_answerWrite 77 = .ok (.aload_n 0, 1) := by decide +kernel
theorem dX10_answerWrite_78 : decode cX10_answerWrite 78 = .ok (.getfield 31, 3) := by decide +kernel
theorem dX10_answerWrite_81 : decode cX10_answerWrite 81 = .ok (.aload_n 0, 1) := by decide +kernel
theorem dX10_answerWrite_82 : decode cX10_answerWrite 82 = .ok (.getfield 40, 3) := by decide +kernel
theorem dX10_answerWrite_85 : decode cX10_answerWrite 85 = .ok (.aaload, 1) := by decide +kernel
theorem dX10_answerWrite_86 : decode cX10_answerWrite 86 = .ok (.invokevirtual 130, 3) := by decide +kernel
theorem dX10_answerWrite_89 : decode cX10_answerWrite 89 = .ok (.aload_n 0, 1) := by decide +kernel
theorem dX10_answerWrite_90 : decode cX10_answerWrite 90 = .ok (.getfield 31, 3) := by decide +kernel
theorem dX10_answerWrite_93 : decode cX10_answerWrite 93 = .ok (.aload_n 0, 1) := by decide +kernel
theorem dX10_answerWrite_94 : decode cX10_answerWrite 94 = .ok (.getfield 40, 3) := by decide +kernel
theorem dX10_answerWrite_97 : decode cX10_answerWrite 97 = .ok (.aaload, 1) := by decide +kernel
theorem dX10_answerWrite_98 : decode cX10_answerWrite 98 = .ok (.aload_n 1, 1) := by decide +kernel
theorem dX10_answerWrite_99 : decode cX10_answerWrite 99 = .ok (.iconst 1, 1) := by decide +kernel
theorem dX10_answerWrite_100 : decode cX10_answerWrite 100 = .ok (.aload_n 1, 1) := by decide +kernel
theorem dX10_answerWrite_101 : decode cX10_answerWrite 101 = .ok (.getfield 67, 3) := by decide +kernel
theorem dX10_answerWrite_104 : decode cX10_answerWrite 104 = .ok (.invokevirtual 133, 3) := by decide +kernel
theorem dX10_answerWrite_107 : decode cX10_answerWrite 107 = .ok (.aload_n 0, 1) := by decide +kernel
theorem dX10_answerWrite_108 : decode cX10_answerWrite 108 = .ok (.dup, 1) := by decide +kernel
theorem dX10_answerWrite_109 : decode cX10_answerWrite 109 = .ok (.getfield 40, 3) := by decide +kernel
theorem dX10_answerWrite_112 : decode cX10_answerWrite 112 = .ok (.iconst 1, 1) := by decide +kernel
theorem dX10_answerWrite_113 : decode cX10_answerWrite 113 = .ok (.iadd, 1) := by decide +kernel
theorem dX10_answerWrite_114 : decode cX10_answerWrite 114 = .ok (.putfield 40, 3) := by decide +kernel
theorem dX10_answerWrite_117 : decode cX10_answerWrite 117 = .ok (.return_, 1) := by decide +kernel
theorem dX10_answerExecute_0 : decode cX10_answerExecute 0 = .ok (.aload_n 0, 1) := by decide +kernel
theorem dX10_answerExecute_1 : decode cX10_answerExecute 1 = .ok (.getfield 40, 3) := by decide +kernel
theorem dX10_answerExecute_4 : decode cX10_answerExecute 4 = .ok (.aload_n 0, 1) := by decide +kernel
theorem dX10_answerExecute_5 : decode cX10_answerExecute 5 = .ok (.getfield 31, 3) := by decide +kernel
theorem dX10_answerExecute_8 : decode cX10_answerExecute 8 = .ok (.arraylength, 1) := by decide +kernel
theorem dX10_answerExecute_9 : decode cX10_answerExecute 9 = .ok (.invokestatic 47, 3) := by decide +kernel
theorem dX10_answerExecute_12 : decode cX10_answerExecute 12 = .ok (.istore_n 3, 1) := by decide +kernel
theorem dX10_answerExecute_13 : decode cX10_answerExecute 13 = .ok (.aload_n 0, 1) := by decide +kernel
theorem dX10_answerExecute_14 : decode cX10_answerExecute 14 = .ok (.iconst 0, 1) := by decide +kernel
theorem dX10_answerExecute_15 : decode cX10_answerExecute 15 = .ok (.putfield 40, 3) := by decide +kernel
theorem dX10_answerExecute_18 : decode cX10_answerExecute 18 = .ok (.iload_n 1, 1) := by decide +kernel
theorem dX10_answerExecute_19 : decode cX10_answerExecute 19 = .ok (.ifCond .eq 127, 3) := by decide +kernel
theorem dX10_answerExecute_22 : decode cX10_answerExecute 22 = .ok (.iconst 0, 1) := by decide +kernel
theorem dX10_answerExecute_23 : decode cX10_answerExecute 23 = .ok (.istore 4, 2) := by decide +kernel
theorem dX10_answerExecute_25 : decode cX10_answerExecute 25 = .ok (.iload 4, 2) := by decide +kernel
theorem dX10_answerExecute_27 : decode cX10_answerExecute 27 = .ok (.aload_n 0, 1) := by decide +kernel
theorem dX10_answerExecute_28 : decode cX10_answerExecute 28 = .ok (.getfield 56, 3) := by decide +kernel
theorem dX10_answerExecute_31 : decode cX10_answerExecute 31 = .ok (.if_icmp .ge 36, 3) := by decide +kernel
theorem dX10_answerExecute_34 : decode cX10_answerExecute 34 = .ok (.iload 4, 2) := by decide +kernel
theorem dX10_answerExecute_36 : decode cX10_answerExecute 36 = .ok (.aload_n 0, 1) := by decide +kernel
theorem dX10_answerExecute_37 : decode cX10_answerExecute 37 = .ok (.getfield 34, 3) := by decide +kernel
theorem dX10_answerExecute_40 : decode cX10_answerExecute 40 = .ok (.arraylength, 1) := by decide +kernel
theorem dX10_answerExecute_41 : decode cX10_answerExecute 41 = .ok (.if_icmp .ge 26, 3) := by decide +kernel
theorem dX10_answerExecute_44 : decode cX10_answerExecute 44 = .ok (.aload_n 0, 1) := by decide +kernel
theorem dX10_answerExecute_45 : decode cX10_answerExecute 45 = .ok (.getfield 34, 3) := by decide +kernel
theorem dX10_answerExecute_48 : decode cX10_answerExecute 48 = .ok (.iload 4, 2) := by decide +kernel
theorem dX10_answerExecute_50 : decode cX10_answerExecute 50 = .ok (.aload_n 0, 1) := by decide +kernel
theorem dX10_answerExecute_51 : decode cX10_answerExecute 51 = .ok (.getfield 20, 3) := by decide +kernel
theorem dX10_answerExecute_54 : decode cX10_answerExecute 54 = .ok (.iload 4, 2) := by decide +kernel
theorem dX10_answerExecute_56 : decode cX10_answerExecute 56 = .ok (.aaload, 1) := by decide +kernel
theorem dX10_answerExecute_57 : decode cX10_answerExecute 57 = .ok (.getfield 67, 3) := by decide +kernel
theorem dX10_answerExecute_60 : decode cX10_answerExecute 60 = .ok (.iastore, 1) := by decide +kernel
theorem dX10_answerExecute_61 : decode cX10_answerExecute 61 = .ok (.iinc 4 1, 3) := by decide +kernel
theorem dX10_answerExecute_64 : decode cX10_answerExecute 64 = .ok (.goto (-39), 3) := by decide +kernel
theorem dX10_answerExecute_67 : decode cX10_answerExecute 67 = .ok (.iconst 0, 1) := by decide +kernel
theorem dX10_answerExecute_68 : decode cX10_answerExecute 68 = .ok (.istore 4, 2) := by decide +kernel
theorem dX10_answerExecute_70 : decode cX10_answerExecute 70 = .ok (.iload 4, 2) := by decide +kernel
theorem dX10_answerExecute_72 : decode cX10_answerExecute 72 = .ok (.iload_n 3, 1) := by decide +kernel
theorem dX10_answerExecute_73 : decode cX10_answerExecute 73 = .ok (.if_icmp .ge 47, 3) := by decide +kernel
theorem dX10_answerExecute_76 : decode cX10_answerExecute 76 = .ok (.aload_n 0, 1) := by decide +kernel
theorem dX10_answerExecute_77 : decode cX10_answerExecute 77 = .ok (.aload_n 0, 1) := by decide +kernel
theorem dX10_answerExecute_78 : decode cX10_answerExecute 78 = .ok (.getfield 31, 3) := by decide +kernel
theorem dX10_answerExecute_81 : decode cX10_answerExecute 81 = .ok (.iload 4, 2) := by decide +kernel
theorem dX10_answerExecute_83 : decode cX10_answerExecute 83 = .ok (.aaload, 1) := by decide +kernel
theorem dX10_answerExecute_84 : decode cX10_answerExecute 84 = .ok (.invokevirtual 141, 3) := by decide +kernel
theorem dX10_answerExecute_87 : decode cX10_answerExecute 87 = .ok (.istore 5, 2) := by decide +kernel
theorem dX10_answerExecute_89 : decode cX10_answerExecute 89 = .ok (.iload 5, 2) := by decide +kernel
theorem dX10_answerExecute_91 : decode cX10_answerExecute 91 = .ok (.ifCond .eq 23, 3) := by decide +kernel
theorem dX10_answerExecute_94 : decode cX10_answerExecute 94 = .ok (.bipush 24, 2) := by decide +kernel
theorem dX10_answerExecute_96 : decode cX10_answerExecute 96 = .ok (.aload_n 0, 1) := by decide +kernel
theorem dX10_answerExecute_97 : decode cX10_answerExecute 97 = .ok (.getfield 31, 3) := by decide +kernel
theorem dX10_answerExecute_100 : decode cX10_answerExecute 100 = .ok (.iload 4, 2) := by decide +kernel
theorem dX10_answerExecute_102 : decode cX10_answerExecute 102 = .ok (.aaload, 1) := by decide +kernel
theorem dX10_answerExecute_103 : decode cX10_answerExecute 103 = .ok (.iconst 0, 1) := by decide +kernel
theorem dX10_answerExecute_104 : decode cX10_answerExecute 104 = .ok (.invokevirtual 76, 3) := by decide +kernel
theorem dX10_answerExecute_107 : decode cX10_answerExecute 107 = .ok (.iload 5, 2) := by decide +kernel
theorem dX10_answerExecute_109 : decode cX10_answerExecute 109 = .ok (.aload_n 2, 1) := by decide +kernel
theorem dX10_answerExecute_110 : decode cX10_answerExecute 110 = .ok (.invokestatic 97, 3) := by decide +kernel
theorem dX10_answerExecute_113 : decode cX10_answerExecute 113 = .ok (.return_, 1) := by decide +kernel
theorem dX10_answerExecute_114 : decode cX10_answerExecute 114 = .ok (.iinc 4 1, 3) := by decide +kernel
theorem dX10_answerExecute_117 : decode cX10_answerExecute 117 = .ok (.goto (-47), 3) := by decide +kernel
theorem dX10_answerExecute_120 : decode cX10_answerExecute 120 = .ok (.iconst 0, 1) := by decide +kernel
theorem dX10_answerExecute_121 : decode cX10_answerExecute 121 = .ok (.istore 4, 2) := by decide +kernel
theorem dX10_answerExecute_123 : decode cX10_answerExecute 123 = .ok (.iload 4, 2) := by decide +kernel
theorem dX10_answerExecute_125 : decode cX10_answerExecute 125 = .ok (.iload_n 3, 1) := by decide +kernel
theorem dX10_answerExecute_126 : decode cX10_answerExecute 126 = .ok (.if_icmp .ge 20, 3) := by decide +kernel
theorem dX10_answerExecute_129 : decode cX10_answerExecute 129 = .ok (.aload_n 0, 1) := by decide +kernel
theorem dX10_answerExecute_130 : decode cX10_answerExecute 130 = .ok (.aload_n 0, 1) := by decide +kernel
theorem dX10_answerExecute_131 : decode cX10_answerExecute 131 = .ok (.getfield 31, 3) := by decide +kernel
theorem dX10_answerExecute_134 : decode cX10_answerExecute 134 = .ok (.iload 4, 2) := by decide +kernel
theorem dX10_answerExecute_136 : decode cX10_answerExecute 136 = .ok (.aaload, 1) := by decide +kernel
theorem dX10_answerExecute_137 : decode cX10_answerExecute 137 = .ok (.invokevirtual 145, 3) := by decide +kernel
theorem dX10_answerExecute_140 : decode cX10_answerExecute 140 = .ok (.iinc 4 1, 3) := by decide +kernel
theorem dX10_answerExecute_143 : decode cX10_answerExecute 143 = .ok (.goto (-20), 3) := by decide +kernel
theorem dX10_answerExecute_146 : decode cX10_answerExecute 146 = .ok (.aload_n 2, 1) := by decide +kernel
theorem dX10_answerExecute_147 : decode cX10_answerExecute 147 = .ok (.bipush 25, 2) := by decide +kernel
theorem dX10_answerExecute_149 : decode cX10_answerExecute 149 = .ok (.invokevirtual 83, 3) := by decide +kernel
theorem dX10_answerExecute_152 : decode cX10_answerExecute 152 = .ok (.return_, 1) := by decide +kernel
theorem dX10_faultOfPart_0 : decode cX10_faultOfPart 0 = .ok (.aload_n 1, 1) := by decide +kernel
theorem dX10_faultOfPart_1 : decode cX10_faultOfPart 1 = .ok (.iconst 0, 1) := by decide +kernel
theorem dX10_faultOfPart_2 : decode cX10_faultOfPart 2 = .ok (.invokevirtual 76, 3) := by decide +kernel
theorem dX10_faultOfPart_5 : decode cX10_faultOfPart 5 = .ok (.istore_n 2, 1) := by decide +kernel
theorem dX10_faultOfPart_6 : decode cX10_faultOfPart 6 = .ok (.iload_n 2, 1) := by decide +kernel
theorem dX10_faultOfPart_7 : decode cX10_faultOfPart 7 = .ok (.iconst 1, 1) := by decide +kernel
theorem dX10_faultOfPart_8 : decode cX10_faultOfPart 8 = .ok (.if_icmp .lt 20, 3) := by decide +kernel
theorem dX10_faultOfPart_11 : decode cX10_faultOfPart 11 = .ok (.iload_n 2, 1) := by decide +kernel
theorem dX10_faultOfPart_12 : decode cX10_faultOfPart 12 = .ok (.aload_n 0, 1) := by decide +kernel
theorem dX10_faultOfPart_13 : decode cX10_faultOfPart 13 = .ok (.getfield 56, 3) := by decide +kernel
theorem dX10_faultOfPart_16 : decode cX10_faultOfPart 16 = .ok (.if_icmp .gt 12, 3) := by decide +kernel
theorem dX10_faultOfPart_19 : decode cX10_faultOfPart 19 = .ok (.iload_n 2, 1) := by decide +kernel
theorem dX10_faultOfPart_20 : decode cX10_faultOfPart 20 = .ok (.aload_n 0, 1) := by decide +kernel
theorem dX10_faultOfPart_21 : decode cX10_faultOfPart 21 = .ok (.getfield 34, 3) := by decide +kernel
theorem dX10_faultOfPart_24 : decode cX10_faultOfPart 24 = .ok (.arraylength, 1) := by decide +kernel
theorem dX10_faultOfPart_25 : decode cX10_faultOfPart 25 = .ok (.if_icmp .le 5, 3) := by decide +kernel
theorem dX10_faultOfPart_28 : decode cX10_faultOfPart 28 = .ok (.iconst 1, 1) := by decide +kernel
theorem dX10_faultOfPart_29 : decode cX10_faultOfPart 29 = .ok (.ireturn, 1) := by decide +kernel
theorem dX10_faultOfPart_30 : decode cX10_faultOfPart 30 = .ok (.aload_n 1, 1) := by decide +kernel
theorem dX10_faultOfPart_31 : decode cX10_faultOfPart 31 = .ok (.iconst 2, 1) := by decide +kernel
theorem dX10_faultOfPart_32 : decode cX10_faultOfPart 32 = .ok (.invokevirtual 76, 3) := by decide +kernel
theorem dX10_faultOfPart_35 : decode cX10_faultOfPart 35 = .ok (.istore_n 3, 1) := by decide +kernel
theorem dX10_faultOfPart_36 : decode cX10_faultOfPart 36 = .ok (.iload_n 3, 1) := by decide +kernel
theorem dX10_faultOfPart_37 : decode cX10_faultOfPart 37 = .ok (.aload_n 1, 1) := by decide +kernel
theorem dX10_faultOfPart_38 : decode cX10_faultOfPart 38 = .ok (.getfield 67, 3) := by decide +kernel
theorem dX10_faultOfPart_41 : decode cX10_faultOfPart 41 = .ok (.iadd, 1) := by decide +kernel
theorem dX10_faultOfPart_42 : decode cX10_faultOfPart 42 = .ok (.iconst 4, 1) := by decide +kernel
theorem dX10_faultOfPart_43 : decode cX10_faultOfPart 43 = .ok (.isub, 1) := by decide +kernel
theorem dX10_faultOfPart_44 : decode cX10_faultOfPart 44 = .ok (.istore 4, 2) := by decide +kernel
theorem dX10_faultOfPart_46 : decode cX10_faultOfPart 46 = .ok (.iload_n 3, 1) := by decide +kernel
theorem dX10_faultOfPart_47 : decode cX10_faultOfPart 47 = .ok (.aload_n 0, 1) := by decide +kernel
theorem dX10_faultOfPart_48 : decode cX10_faultOfPart 48 = .ok (.getfield 34, 3) := by decide +kernel
theorem dX10_faultOfPart_51 : decode cX10_faultOfPart 51 = .ok (.iload_n 2, 1) := by decide +kernel
theorem dX10_faultOfPart_52 : decode cX10_faultOfPart 52 = .ok (.iconst 1, 1) := by decide +kernel
theorem dX10_faultOfPart_53 : decode cX10_faultOfPart 53 = .ok (.isub, 1) := by decide +kernel
theorem dX10_faultOfPart_54 : decode cX10_faultOfPart 54 = .ok (.iaload, 1) := by decide +kernel
theorem dX10_faultOfPart_55 : decode cX10_faultOfPart 55 = .ok (.if_icmp .le 6, 3) := by decide +kernel
theorem dX10_faultOfPart_58 : decode cX10_faultOfPart 58 = .ok (.bipush 7, 2) := by decide +kernel
theorem dX10_faultOfPart_60 : decode cX10_faultOfPart 60 = .ok (.ireturn, 1) := by decide +kernel
theorem dX10_faultOfPart_61 : decode cX10_faultOfPart 61 = .ok (.iload 4, 2) := by decide +kernel
theorem dX10_faultOfPart_63 : decode cX10_faultOfPart 63 = .ok (.bipush 40, 2) := by decide +kernel
theorem dX10_faultOfPart_65 : decode cX10_faultOfPart 65 = .ok (.if_icmp .le 6, 3) := by decide +kernel
theorem dX10_faultOfPart_68 : decode cX10_faultOfPart 68 = .ok (.bipush 13, 2) := by decide +kernel
theorem dX10_faultOfPart_70 : decode cX10_faultOfPart 70 = .ok (.ireturn, 1) := by decide +kernel
theorem dX10_faultOfPart_71 : decode cX10_faultOfPart 71 = .ok (.aload_n 0, 1) := by decide +kernel
theorem dX10_faultOfPart_72 : decode cX10_faultOfPart 72 = .ok (.getfield 34, 3) := by decide +kernel
theorem dX10_faultOfPart_75 : decode cX10_faultOfPart 75 = .ok (.iload_n 2, 1) := by decide +kernel
theorem dX10_faultOfPart_76 : decode cX10_faultOfPart 76 = .ok (.iconst 1, 1) := by decide +kernel
theorem dX10_faultOfPart_77 : decode cX10_faultOfPart 77 = .ok (.isub, 1) := by decide +kernel
theorem dX10_faultOfPart_78 : decode cX10_faultOfPart 78 = .ok (.aload_n 0, 1) := by decide +kernel
theorem dX10_faultOfPart_79 : decode cX10_faultOfPart 79 = .ok (.getfield 34, 3) := by decide +kernel
theorem dX10_faultOfPart_82 : decode cX10_faultOfPart 82 = .ok (.iload_n 2, 1) := by decide +kernel
theorem dX10_faultOfPart_83 : decode cX10_faultOfPart 83 = .ok (.iconst 1, 1) := by decide +kernel
theorem dX10_faultOfPart_84 : decode cX10_faultOfPart 84 = .ok (.isub, 1) := by decide +kernel
theorem dX10_faultOfPart_85 : decode cX10_faultOfPart 85 = .ok (.iaload, 1) := by decide +kernel
theorem dX10_faultOfPart_86 : decode cX10_faultOfPart 86 = .ok (.iload 4, 2) := by decide +kernel
theorem dX10_faultOfPart_88 : decode cX10_faultOfPart 88 = .ok (.invokestatic 53, 3) := by decide +kernel
theorem dX10_faultOfPart_91 : decode cX10_faultOfPart 91 = .ok (.iastore, 1) := by decide +kernel
theorem dX10_faultOfPart_92 : decode cX10_faultOfPart 92 = .ok (.iconst 0, 1) := by decide +kernel
theorem dX10_faultOfPart_93 : decode cX10_faultOfPart 93 = .ok (.ireturn, 1) := by decide +kernel
theorem dX10_writePart_0 : decode cX10_writePart 0 = .ok (.aload_n 0, 1) := by decide +kernel
theorem dX10_writePart_1 : decode cX10_writePart 1 = .ok (.aload_n 1, 1) := by decide +kernel
theorem dX10_writePart_2 : decode cX10_writePart 2 = .ok (.iconst 0, 1) := by decide +kernel
theorem dX10_writePart_3 : decode cX10_writePart 3 = .ok (.invokevirtual 76, 3) := by decide +kernel
theorem dX10_writePart_6 : decode cX10_writePart 6 = .ok (.invokevirtual 126, 3) := by decide +kernel
theorem dX10_writePart_9 : decode cX10_writePart 9 = .ok (.astore_n 2, 1) := by decide +kernel
theorem dX10_writePart_10 : decode cX10_writePart 10 = .ok (.aload_n 1, 1) := by decide +kernel
theorem dX10_writePart_11 : decode cX10_writePart 11 = .ok (.iconst 2, 1) := by decide +kernel
theorem dX10_writePart_12 : decode cX10_writePart 12 = .ok (.invokevirtual 76, 3) := by decide +kernel
theorem dX10_writePart_15 : decode cX10_writePart 15 = .ok (.istore_n 3, 1) := by decide +kernel
theorem dX10_writePart_16 : decode cX10_writePart 16 = .ok (.iconst 4, 1) := by decide +kernel
theorem dX10_writePart_17 : decode cX10_writePart 17 = .ok (.istore 4, 2) := by decide +kernel
theorem dX10_writePart_19 : decode cX10_writePart 19 = .ok (.aload_n 2, 1) := by decide +kernel
theorem dX10_writePart_20 : decode cX10_writePart 20 = .ok (.ifnull 34, 3) := by decide +kernel
theorem dX10_writePart_23 : decode cX10_writePart 23 = .ok (.iload 4, 2) := by decide +kernel
theorem dX10_writePart_25 : decode cX10_writePart 25 = .ok (.aload_n 1, 1) := by decide +kernel
theorem dX10_writePart_26 : decode cX10_writePart 26 = .ok (.getfield 67, 3) := by decide +kernel
theorem dX10_writePart_29 : decode cX10_writePart 29 = .ok (.if_icmp .ge 25, 3) := by decide +kernel
theorem dX10_writePart_32 : decode cX10_writePart 32 = .ok (.aload_n 2, 1) := by decide +kernel
theorem dX10_writePart_33 : decode cX10_writePart 33 = .ok (.iload_n 3, 1) := by decide +kernel
theorem dX10_writePart_34 : decode cX10_writePart 34 = .ok (.iload 4, 2) := by decide +kernel
theorem dX10_writePart_36 : decode cX10_writePart 36 = .ok (.iadd, 1) := by decide +kernel
theorem dX10_writePart_37 : decode cX10_writePart 37 = .ok (.iconst 4, 1) := by decide +kernel
theorem dX10_writePart_38 : decode cX10_writePart 38 = .ok (.isub, 1) := by decide +kernel
theorem dX10_writePart_39 : decode cX10_writePart 39 = .ok (.aload_n 1, 1) := by decide +kernel
theorem dX10_writePart_40 : decode cX10_writePart 40 = .ok (.iload 4, 2) := by decide +kernel
theorem dX10_writePart_42 : decode cX10_writePart 42 = .ok (.invokevirtual 63, 3) := by decide +kernel
theorem dX10_writePart_45 : decode cX10_writePart 45 = .ok (.invokevirtual 148, 3) := by decide +kernel
theorem dX10_writePart_48 : decode cX10_writePart 48 = .ok (.iinc 4 1, 3) := by decide +kernel
theorem dX10_writePart_51 : decode cX10_writePart 51 = .ok (.goto (-32), 3) := by decide +kernel
theorem dX10_writePart_54 : decode cX10_writePart 54 = .ok (.return_, 1) := by decide +kernel
theorem dX10_answerSearch_0 : decode cX10_answerSearch 0 = .ok (.aload_n 1, 1) := by decide +kernel
theorem dX10_answerSearch_1 : decode cX10_answerSearch 1 = .ok (.iconst 0, 1) := by decide +kernel
theorem dX10_answerSearch_2 : decode cX10_answerSearch 2 = .ok (.invokevirtual 63, 3) := by decide +kernel
theorem dX10_answerSearch_5 : decode cX10_answerSearch 5 = .ok (.istore 4, 2) := by decide +kernel
theorem dX10_answerSearch_7 : decode cX10_answerSearch 7 = .ok (.aload_n 1, 1) := by decide +kernel
theorem dX10_answerSearch_8 : decode cX10_answerSearch 8 = .ok (.iconst 1, 1) := by decide +kernel
theorem dX10_answerSearch_9 : decode cX10_answerSearch 9 = .ok (.invokevirtual 76, 3) := by decide +kernel
theorem dX10_answerSearch_12 : decode cX10_answerSearch 12 = .ok (.istore 5, 2) := by decide +kernel
theorem dX10_answerSearch_14 : decode cX10_answerSearch 14 = .ok (.aload_n 1, 1) := by decide +kernel
theorem dX10_answerSearch_15 : decode cX10_answerSearch 15 = .ok (.iconst 5, 1) := by decide +kernel
theorem dX10_answerSearch_16 : decode cX10_answerSearch 16 = .ok (.invokevirtual 76, 3) := by decide +kernel
theorem dX10_answerSearch_19 : decode cX10_answerSearch 19 = .ok (.istore 6, 2) := by decide +kernel
theorem dX10_answerSearch_21 : decode cX10_answerSearch 21 = .ok (.aload_n 1, 1) := by decide +kernel
theorem dX10_answerSearch_22 : decode cX10_answerSearch 22 = .ok (.iconst 3, 1) := by decide +kernel
theorem dX10_answerSearch_23 : decode cX10_answerSearch 23 = .ok (.invokevirtual 76, 3) := by decide +kernel
theorem dX10_answerSearch_26 : decode cX10_answerSearch 26 = .ok (.aload_n 0, 1) := by decide +kernel
theorem dX10_answerSearch_27 : decode cX10_answerSearch 27 = .ok (.getfield 56, 3) := by decide +kernel
theorem dX10_answerSearch_30 : decode cX10_answerSearch 30 = .ok (.invokestatic 47, 3) := by decide +kernel
theorem dX10_answerSearch_33 : decode cX10_answerSearch 33 = .ok (.istore 7, 2) := by decide +kernel
theorem dX10_answerSearch_35 : decode cX10_answerSearch 35 = .ok (.iload 5, 2) := by decide +kernel
theorem dX10_answerSearch_37 : decode cX10_answerSearch 37 = .ok (.ifCond .eq 13, 3) := by decide +kernel
theorem dX10_answerSearch_40 : decode cX10_answerSearch 40 = .ok (.iload 5, 2) := by decide +kernel
theorem dX10_answerSearch_42 : decode cX10_answerSearch 42 = .ok (.aload_n 1, 1) := by decide +kernel
theorem dX10_answerSearch_43 : decode cX10_answerSearch 43 = .ok (.iconst 3, 1) := by decide +kernel
theorem dX10_answerSearch_44 : decode cX10_answerSearch 44 = .ok (.invokevirtual 76, 3) := by decide +kernel
theorem dX10_answerSearch_47 : decode cX10_answerSearch 47 = .ok (.if_icmp .le 13, 3) := by decide +kernel
theorem dX10_answerSearch_50 : decode cX10_answerSearch 50 = .ok (.iload 4, 2) := by decide +kernel
theorem dX10_answerSearch_52 : decode cX10_answerSearch 52 = .ok (.iload 5, 2) := by decide +kernel
theorem dX10_answerSearch_54 : decode cX10_answerSearch 54 = .ok (.iconst 1, 1) := by decide +kernel
theorem dX10_answerSearch_55 : decode cX10_answerSearch 55 = .ok (.aload_n 3, 1) := by decide +kernel
theorem dX10_answerSearch_56 : decode cX10_answerSearch 56 = .ok (.invokestatic 97, 3) := by decide +kernel
theorem dX10_answerSearch_59 : decode cX10_answerSearch 59 = .ok (.return_, 1) := by decide +kernel
theorem dX10_answerSearch_60 : decode cX10_answerSearch 60 = .ok (.iload 4, 2) := by decide +kernel
theorem dX10_answerSearch_62 : decode cX10_answerSearch 62 = .ok (.bipush 16, 2) := by decide +kernel
theorem dX10_answerSearch_64 : decode cX10_answerSearch 64 = .ok (.if_icmp .ne 22, 3) := by decide +kernel
theorem dX10_answerSearch_67 : decode cX10_answerSearch 67 = .ok (.iload 6, 2) := by decide +kernel
theorem dX10_answerSearch_69 : decode cX10_answerSearch 69 = .ok (.invokestatic 152, 3) := by decide +kernel
theorem dX10_answerSearch_72 : decode cX10_answerSearch 72 = .ok (.ifCond .ne 14, 3) := by decide +kernel
theorem dX10_answerSearch_75 : decode cX10_answerSearch 75 = .ok (.iload 4, 2) := by decide +kernel
theorem dX10_answerSearch_77 : decode cX10_answerSearch 77 = .ok (.iload 5, 2) := by decide +kernel
theorem dX10_answerSearch_79 : decode cX10_answerSearch 79 = .ok (.bipush 16, 2) := by decide +kernel
theorem dX10_answerSearch_81 : decode cX10_answerSearch 81 = .ok (.aload_n 3, 1) := by decide +kernel
theorem dX10_answerSearch_82 : decode cX10_answerSearch 82 = .ok (.invokestatic 97, 3) := by decide +kernel
theorem dX10_answerSearch_85 : decode cX10_answerSearch 85 = .ok (.return_, 1) := by decide +kernel
theorem dX10_answerSearch_86 : decode cX10_answerSearch 86 = .ok (.iload 4, 2) := by decide +kernel
theorem dX10_answerSearch_88 : decode cX10_answerSearch 88 = .ok (.iconst 4, 1) := by decide +kernel
theorem dX10_answerSearch_89 : decode cX10_answerSearch 89 = .ok (.if_icmp .ne 15, 3) := by decide +kernel
theorem dX10_answerSearch_92 : decode cX10_answerSearch 92 = .ok (.aload_n 0, 1) := by decide +kernel
theorem dX10_answerSearch_93 : decode cX10_answerSearch 93 = .ok (.iload 5, 2) := by decide +kernel
theorem dX10_answerSearch_95 : decode cX10_answerSearch 95 = .ok (.iload 7, 2) := by decide +kernel
theorem dX10_answerSearch_97 : decode cX10_answerSearch 97 = .ok (.aload_n 3, 1) := by decide +kernel
theorem dX10_answerSearch_98 : decode cX10_answerSearch 98 = .ok (.invokevirtual 155, 3) := by decide +kernel
theorem dX10_answerSearch_101 : decode cX10_answerSearch 101 = .ok (.goto 31, 3) := by decide +kernel
theorem dX10_answerSearch_104 : decode cX10_answerSearch 104 = .ok (.iload 4, 2) := by decide +kernel
theorem dX10_answerSearch_106 : decode cX10_answerSearch 106 = .ok (.bipush 6, 2) := by decide +kernel
theorem dX10_answerSearch_108 : decode cX10_answerSearch 108 = .ok (.if_icmp .ne 15, 3) := by decide +kernel
theorem dX10_answerSearch_111 : decode cX10_answerSearch 111 = .ok (.aload_n 0, 1) := by decide +kernel
theorem dX10_answerSearch_112 : decode cX10_answerSearch 112 = .ok (.aload_n 1, 1) := by decide +kernel
theorem dX10_answerSearch_113 : decode cX10_answerSearch 113 = .ok (.iload 7, 2) := by decide +kernel
theorem dX10_answerSearch_115 : decode cX10_answerSearch 115 = .ok (.iload_n 2, 1) := by decide +kernel
theorem dX10_answerSearch_116 : decode cX10_answerSearch 116 = .ok (.aload_n 3, 1) := by decide +kernel
theorem dX10_answerSearch_117 : decode cX10_answerSearch 117 = .ok (.invokevirtual 159, 3) := by decide +kernel
theorem dX10_answerSearch_120 : decode cX10_answerSearch 120 = .ok (.goto 12, 3) := by decide +kernel
theorem dX10_answerSearch_123 : decode cX10_answerSearch 123 = .ok (.aload_n 0, 1) := by decide +kernel
theorem dX10_answerSearch_124 : decode cX10_answerSearch 124 = .ok (.aload_n 1, 1) := by decide +kernel
theorem dX10_answerSearch_125 : decode cX10_answerSearch 125 = .ok (.iload 7, 2) := by decide +kernel
theorem dX10_answerSearch_127 : decode cX10_answerSearch 127 = .ok (.iload_n 2, 1) := by decide +kernel
theorem dX10_answerSearch_128 : decode cX10_answerSearch 128 = .ok (.aload_n 3, 1) := by decide +kernel
theorem dX10_answerSearch_129 : decode cX10_answerSearch 129 = .ok (.invokevirtual 163, 3) := by decide +kernel
theorem dX10_answerSearch_132 : decode cX10_answerSearch 132 = .ok (.aload_n 3, 1) := by decide +kernel
theorem dX10_answerSearch_133 : decode cX10_answerSearch 133 = .ok (.getfield 67, 3) := by decide +kernel
theorem dX10_answerSearch_136 : decode cX10_answerSearch 136 = .ok (.ifCond .ne 13, 3) := by decide +kernel
theorem dX10_answerSearch_139 : decode cX10_answerSearch 139 = .ok (.iload 4, 2) := by decide +kernel
theorem dX10_answerSearch_141 : decode cX10_answerSearch 141 = .ok (.iload 5, 2) := by decide +kernel
theorem dX10_answerSearch_143 : decode cX10_answerSearch 143 = .ok (.bipush 10, 2) := by decide +kernel
theorem dX10_answerSearch_145 : decode cX10_answerSearch 145 = .ok (.aload_n 3, 1) := by decide +kernel
theorem dX10_answerSearch_146 : decode cX10_answerSearch 146 = .ok (.invokestatic 97, 3) := by decide +kernel
theorem dX10_answerSearch_149 : decode cX10_answerSearch 149 = .ok (.return_, 1) := by decide +kernel
theorem dX10_listTypes_0 : decode cX10_listTypes 0 = .ok (.iload_n 1, 1) := by decide +kernel
theorem dX10_listTypes_1 : decode cX10_listTypes 1 = .ok (.istore 4, 2) := by decide +kernel
theorem dX10_listTypes_3 : decode cX10_listTypes 3 = .ok (.iload 4, 2) := by decide +kernel
theorem dX10_listTypes_5 : decode cX10_listTypes 5 = .ok (.iload_n 2, 1) := by decide +kernel
theorem dX10_listTypes_6 : decode cX10_listTypes 6 = .ok (.if_icmp .gt 72, 3) := by decide +kernel
theorem dX10_listTypes_9 : decode cX10_listTypes 9 = .ok (.iload 4, 2) := by decide +kernel
theorem dX10_listTypes_11 : decode cX10_listTypes 11 = .ok (.aload_n 0, 1) := by decide +kernel
theorem dX10_listTypes_12 : decode cX10_listTypes 12 = .ok (.getfield 11, 3) := by decide +kernel
theorem dX10_listTypes_15 : decode cX10_listTypes 15 = .ok (.arraylength, 1) := by decide +kernel
theorem dX10_listTypes_16 : decode cX10_listTypes 16 = .ok (.if_icmp .gt 62, 3) := by decide +kernel
theorem dX10_listTypes_19 : decode cX10_listTypes 19 = .ok (.aload_n 3, 1) := by decide +kernel
theorem dX10_listTypes_20 : decode cX10_listTypes 20 = .ok (.getfield 67, 3) := by decide +kernel
theorem dX10_listTypes_23 : decode cX10_listTypes 23 = .ok (.iconst 4, 1) := by decide +kernel
theorem dX10_listTypes_24 : decode cX10_listTypes 24 = .ok (.iadd, 1) := by decide +kernel
theorem dX10_listTypes_25 : decode cX10_listTypes 25 = .ok (.aload_n 0, 1) := by decide +kernel
theorem dX10_listTypes_26 : decode cX10_listTypes 26 = .ok (.getfield 28, 3) := by decide +kernel
theorem dX10_listTypes_29 : decode cX10_listTypes 29 = .ok (.if_icmp .gt 49, 3) := by decide +kernel
theorem dX10_listTypes_32 : decode cX10_listTypes 32 = .ok (.aload_n 3, 1) := by decide +kernel
theorem dX10_listTypes_33 : decode cX10_listTypes 33 = .ok (.getfield 67, 3) := by decide +kernel
theorem dX10_listTypes_36 : decode cX10_listTypes 36 = .ok (.ifCond .ne 13, 3) := by decide +kernel
theorem dX10_listTypes_39 : decode cX10_listTypes 39 = .ok (.aload_n 3, 1) := by decide +kernel
theorem dX10_listTypes_40 : decode cX10_listTypes 40 = .ok (.iconst 5, 1) := by decide +kernel
theorem dX10_listTypes_41 : decode cX10_listTypes 41 = .ok (.invokevirtual 83, 3) := by decide +kernel
theorem dX10_listTypes_44 : decode cX10_listTypes 44 = .ok (.aload_n 3, 1) := by decide +kernel
theorem dX10_listTypes_45 : decode cX10_listTypes 45 = .ok (.iconst 1, 1) := by decide +kernel
theorem dX10_listTypes_46 : decode cX10_listTypes 46 = .ok (.invokevirtual 83, 3) := by decide +kernel
theorem dX10_listTypes_49 : decode cX10_listTypes 49 = .ok (.aload_n 3, 1) := by decide +kernel
theorem dX10_listTypes_50 : decode cX10_listTypes 50 = .ok (.iload 4, 2) := by decide +kernel
theorem dX10_listTypes_52 : decode cX10_listTypes 52 = .ok (.i2l, 1) := by decide +kernel
theorem dX10_listTypes_53 : decode cX10_listTypes 53 = .ok (.iconst 2, 1) := by decide +kernel
theorem dX10_listTypes_54 : decode cX10_listTypes 54 = .ok (.invokevirtual 108, 3) := by decide +kernel
theorem dX10_listTypes_57 : decode cX10_listTypes 57 = .ok (.aload_n 3, 1) := by decide +kernel
theorem dX10_listTypes_58 : decode cX10_listTypes 58 = .ok (.aload_n 0, 1) := by decide +kernel
theorem dX10_listTypes_59 : decode cX10_listTypes 59 = .ok (.getfield 11, 3) := by decide +kernel
theorem dX10_listTypes_62 : decode cX10_listTypes 62 = .ok (.iload 4, 2) := by decide +kernel
theorem dX10_listTypes_64 : decode cX10_listTypes 64 = .ok (.iconst 1, 1) := by decide +kernel
theorem dX10_listTypes_65 : decode cX10_listTypes 65 = .ok (.isub, 1) := by decide +kernel
theorem dX10_listTypes_66 : decode cX10_listTypes 66 = .ok (.iaload, 1) := by decide +kernel
theorem dX10_listTypes_67 : decode cX10_listTypes 67 = .ok (.i2l, 1) := by decide +kernel
theorem dX10_listTypes_68 : decode cX10_listTypes 68 = .ok (.iconst 2, 1) := by decide +kernel
theorem dX10_listTypes_69 : decode cX10_listTypes 69 = .ok (.invokevirtual 108, 3) := by decide +kernel
theorem dX10_listTypes_72 : decode cX10_listTypes 72 = .ok (.iinc 4 1, 3) := by decide +kernel
theorem dX10_listTypes_75 : decode cX10_listTypes 75 = .ok (.goto (-72), 3) := by decide +kernel
theorem dX10_listTypes_78 : decode cX10_listTypes 78 = .ok (.return_, 1) := by decide +kernel
theorem dX10_listEqual_0 : decode cX10_listEqual 0 = .ok (.aload_n 1, 1) := by decide +kernel
theorem dX10_listEqual_1 : decode cX10_listEqual 1 = .ok (.iconst 5, 1) := by decide +kernel
theorem dX10_listEqual_2 : decode cX10_listEqual 2 = .ok (.invokevirtual 76, 3) := by decide +kernel
theorem dX10_listEqual_5 : decode cX10_listEqual 5 = .ok (.istore 5, 2) := by decide +kernel
theorem dX10_listEqual_7 : decode cX10_listEqual 7 = .ok (.aload_n 1, 1) := by decide +kernel
theorem dX10_listEqual_8 : decode cX10_listEqual 8 = .ok (.iconst 1, 1) := by decide +kernel
theorem dX10_listEqual_9 : decode cX10_listEqual 9 = .ok (.invokevirtual 76, 3) := by decide +kernel
theorem dX10_listEqual_12 : decode cX10_listEqual 12 = .ok (.istore 6, 2) := by decide +kernel
theorem dX10_listEqual_14 : decode cX10_listEqual 14 = .ok (.iload 6, 2) := by decide +kernel
theorem dX10_listEqual_16 : decode cX10_listEqual 16 = .ok (.iload_n 2, 1) := by decide +kernel
theorem dX10_listEqual_17 : decode cX10_listEqual 17 = .ok (.if_icmp .gt 112, 3) := by decide +kernel
theorem dX10_listEqual_20 : decode cX10_listEqual 20 = .ok (.iload 6, 2) := by decide +kernel
theorem dX10_listEqual_22 : decode cX10_listEqual 22 = .ok (.aload_n 0, 1) := by decide +kernel
theorem dX10_listEqual_23 : decode cX10_listEqual 23 = .ok (.getfield 11, 3) := by decide +kernel
theorem dX10_listEqual_26 : decode cX10_listEqual 26 = .ok (.arraylength, 1) := by decide +kernel
theorem dX10_listEqual_27 : decode cX10_listEqual 27 = .ok (.if_icmp .gt 102, 3) := by decide +kernel
theorem dX10_listEqual_30 : decode cX10_listEqual 30 = .ok (.aload 4, 2) := by decide +kernel
theorem dX10_listEqual_32 : decode cX10_listEqual 32 = .ok (.getfield 67, 3) := by decide +kernel
theorem dX10_listEqual_35 : decode cX10_listEqual 35 = .ok (.iconst 4, 1) := by decide +kernel
theorem dX10_listEqual_36 : decode cX10_listEqual 36 = .ok (.iadd, 1) := by decide +kernel
theorem dX10_listEqual_37 : decode cX10_listEqual 37 = .ok (.aload_n 0, 1) := by decide +kernel
theorem dX10_listEqual_38 : decode cX10_listEqual 38 = .ok (.getfield 28, 3) := by decide +kernel
theorem dX10_listEqual_41 : decode cX10_listEqual 41 = .ok (.if_icmp .gt 88, 3) := by decide +kernel
theorem dX10_listEqual_44 : decode cX10_listEqual 44 = .ok (.aload_n 0, 1) := by decide +kernel
theorem dX10_listEqual_45 : decode cX10_listEqual 45 = .ok (.getfield 11, 3) := by decide +kernel
theorem dX10_listEqual_48 : decode cX10_listEqual 48 = .ok (.iload 6, 2) := by decide +kernel
theorem dX10_listEqual_50 : decode cX10_listEqual 50 = .ok (.iconst 1, 1) := by decide +kernel
theorem dX10_listEqual_51 : decode cX10_listEqual 51 = .ok (.isub, 1) := by decide +kernel
theorem dX10_listEqual_52 : decode cX10_listEqual 52 = .ok (.iaload, 1) := by decide +kernel
theorem dX10_listEqual_53 : decode cX10_listEqual 53 = .ok (.iload 5, 2) := by decide +kernel
theorem dX10_listEqual_55 : decode cX10_listEqual 55 = .ok (.if_icmp .ne 68, 3) := by decide +kernel
theorem dX10_listEqual_58 : decode cX10_listEqual 58 = .ok (.aload_n 0, 1) := by decide +kernel
theorem dX10_listEqual_59 : decode cX10_listEqual 59 = .ok (.getfield 20, 3) := by decide +kernel
theorem dX10_listEqual_62 : decode cX10_listEqual 62 = .ok (.iload 6, 2) := by decide +kernel
theorem dX10_listEqual_64 : decode cX10_listEqual 64 = .ok (.iconst 1, 1) := by decide +kernel
theorem dX10_listEqual_65 : decode cX10_listEqual 65 = .ok (.isub, 1) := by decide +kernel
theorem dX10_listEqual_66 : decode cX10_listEqual 66 = .ok (.aaload, 1) := by decide +kernel
theorem dX10_listEqual_67 : decode cX10_listEqual 67 = .ok (.aload_n 1, 1) := by decide +kernel
theorem dX10_listEqual_68 : decode cX10_listEqual 68 = .ok (.bipush 7, 2) := by decide +kernel
theorem dX10_listEqual_70 : decode cX10_listEqual 70 = .ok (.invokevirtual 166, 3) := by decide +kernel
theorem dX10_listEqual_73 : decode cX10_listEqual 73 = .ok (.ifCond .eq 50, 3) := by decide +kernel
theorem dX10_listEqual_76 : decode cX10_listEqual 76 = .ok (.aload_n 0, 1) := by decide +kernel
theorem dX10_listEqual_77 : decode cX10_listEqual 77 = .ok (.iload 6, 2) := by decide +kernel
theorem dX10_listEqual_79 : decode cX10_listEqual 79 = .ok (.iload_n 3, 1) := by decide +kernel
theorem dX10_listEqual_80 : decode cX10_listEqual 80 = .ok (.invokevirtual 137, 3) := by decide +kernel
theorem dX10_listEqual_83 : decode cX10_listEqual 83 = .ok (.ifCond .ne 40, 3) := by decide +kernel
theorem dX10_listEqual_86 : decode cX10_listEqual 86 = .ok (.aload 4, 2) := by decide +kernel
theorem dX10_listEqual_88 : decode cX10_listEqual 88 = .ok (.getfield 67, 3) := by decide +kernel
theorem dX10_listEqual_91 : decode cX10_listEqual 91 = .ok (.ifCond .ne 10, 3) := by decide +kernel
theorem dX10_listEqual_94 : decode cX10_listEqual 94 = .ok (.aload 4, 2) := by decide +kernel
theorem dX10_listEqual_96 : decode cX10_listEqual 96 = .ok (.bipush 7, 2) := by decide +kernel
theorem dX10_listEqual_98 : decode cX10_listEqual 98 = .ok (.invokevirtual 83, 3) := by decide +kernel
theorem dX10_listEqual_101 : decode cX10_listEqual 101 = .ok (.aload 4, 2) := by decide +kernel
theorem dX10_listEqual_103 : decode cX10_listEqual 103 = .ok (.iload 6, 2) := by decide +kernel
theorem dX10_listEqual_105 : decode cX10_listEqual 105 = .ok (.i2l, 1) := by decide +kernel
theorem dX10_listEqual_106 : decode cX10_listEqual 106 = .ok (.iconst 2, 1) := by decide +kernel
theorem dX10_listEqual_107 : decode cX10_listEqual 107 = .ok (.invokevirtual 108, 3) := by decide +kernel
theorem dX10_listEqual_110 : decode cX10_listEqual 110 = .ok (.aload 4, 2) := by decide +kernel
theorem dX10_listEqual_112 : decode cX10_listEqual 112 = .ok (.aload_n 0, 1) := by decide +kernel
theorem dX10_listEqual_113 : decode cX10_listEqual 113 = .ok (.iload 6, 2) := by decide +kernel
theorem dX10_listEqual_115 : decode cX10_listEqual 115 = .ok (.invokevirtual 170, 3) := by decide +kernel
theorem dX10_listEqual_118 : decode cX10_listEqual 118 = .ok (.i2l, 1) := by decide +kernel
theorem dX10_listEqual_119 : decode cX10_listEqual 119 = .ok (.iconst 2, 1) := by decide +kernel
theorem dX10_listEqual_120 : decode cX10_listEqual 120 = .ok (.invokevirtual 108, 3) := by decide +kernel
theorem dX10_listEqual_123 : decode cX10_listEqual 123 = .ok (.iinc 6 1, 3) := by decide +kernel
theorem dX10_listEqual_126 : decode cX10_listEqual 126 = .ok (.goto (-112), 3) := by decide +kernel
theorem dX10_listEqual_129 : decode cX10_listEqual 129 = .ok (.return_, 1) := by decide +kernel
theorem dX10_listRows_0 : decode cX10_listRows 0 = .ok (.aload_n 1, 1) := by decide +kernel
theorem dX10_listRows_1 : decode cX10_listRows 1 = .ok (.iconst 0, 1) := by decide +kernel
theorem dX10_listRows_2 : decode cX10_listRows 2 = .ok (.invokevirtual 63, 3) := by decide +kernel
theorem dX10_listRows_5 : decode cX10_listRows 5 = .ok (.istore 5, 2) := by decide +kernel
theorem dX10_listRows_7 : decode cX10_listRows 7 = .ok (.aload_n 1, 1) := by decide +kernel
theorem dX10_listRows_8 : decode cX10_listRows 8 = .ok (.iconst 5, 1) := by decide +kernel
theorem dX10_listRows_9 : decode cX10_listRows 9 = .ok (.invokevirtual 76, 3) := by decide +kernel
theorem dX10_listRows_12 : decode cX10_listRows 12 = .ok (.istore 6, 2) := by decide +kernel
theorem dX10_listRows_14 : decode cX10_listRows 14 = .ok (.iload 5, 2) := by decide +kernel
theorem dX10_listRows_16 : decode cX10_listRows 16 = .ok (.bipush 8, 2) := by decide +kernel
theorem dX10_listRows_18 : decode cX10_listRows 18 = .ok (.if_icmp .ne 7, 3) := by decide +kernel
theorem dX10_listRows_21 : decode cX10_listRows 21 = .ok (.iconst 2, 1) := by decide +kernel
theorem dX10_listRows_22 : decode cX10_listRows 22 = .ok (.goto 4, 3) := by decide +kernel
theorem dX10_listRows_25 : decode cX10_listRows 25 = .ok (.iconst 4, 1) := by decide +kernel
theorem dX10_listRows_26 : decode cX10_listRows 26 = .ok (.istore 7, 2) := by decide +kernel
theorem dX10_listRows_28 : decode cX10_listRows 28 = .ok (.aload_n 0, 1) := by decide +kernel
theorem dX10_listRows_29 : decode cX10_listRows 29 = .ok (.getfield 28, 3) := by decide +kernel
theorem dX10_listRows_32 : decode cX10_listRows 32 = .ok (.iconst 2, 1) := by decide +kernel
theorem dX10_listRows_33 : decode cX10_listRows 33 = .ok (.isub, 1) := by decide +kernel
theorem dX10_listRows_34 : decode cX10_listRows 34 = .ok (.iload 7, 2) := by decide +kernel
theorem dX10_listRows_36 : decode cX10_listRows 36 = .ok (.isub, 1) := by decide +kernel
theorem dX10_listRows_37 : decode cX10_listRows 37 = .ok (.istore 8, 2) := by decide +kernel
theorem dX10_listRows_39 : decode cX10_listRows 39 = .ok (.iconst 0, 1) := by decide +kernel
theorem dX10_listRows_40 : decode cX10_listRows 40 = .ok (.istore 9, 2) := by decide +kernel
theorem dX10_listRows_42 : decode cX10_listRows 42 = .ok (.aload_n 1, 1) := by decide +kernel
theorem dX10_listRows_43 : decode cX10_listRows 43 = .ok (.iconst 1, 1) := by decide +kernel
theorem dX10_listRows_44 : decode cX10_listRows 44 = .ok (.invokevirtual 76, 3) := by decide +kernel
theorem dX10_listRows_47 : decode cX10_listRows 47 = .ok (.istore 10, 2) := by decide +kernel
theorem dX10_listRows_49 : decode cX10_listRows 49 = .ok (.iload 10, 2) := by decide +kernel
theorem dX10_listRows_51 : decode cX10_listRows 51 = .ok (.iload_n 2, 1) := by decide +kernel
theorem dX10_listRows_52 : decode cX10_listRows 52 = .ok (.if_icmp .gt 183, 3) := by decide +kernel
theorem dX10_listRows_55 : decode cX10_listRows 55 = .ok (.iload 10, 2) := by decide +kernel
theorem dX10_listRows_57 : decode cX10_listRows 57 = .ok (.aload_n 0, 1) := by decide +kernel
theorem dX10_listRows_58 : decode cX10_listRows 58 = .ok (.getfield 11, 3) := by decide +kernel
theorem dX10_listRows_61 : decode cX10_listRows 61 = .ok (.arraylength, 1) := by decide +kernel
theorem dX10_listRows_62 : decode cX10_listRows 62 = .ok (.if_icmp .gt 173, 3) := by decide +kernel
theorem dX10_listRows_65 : decode cX10_listRows 65 = .ok (.aload_n 0, 1) := by decide +kernel
theorem dX10_listRows_66 : decode cX10_listRows 66 = .ok (.getfield 11, 3) := by decide +kernel
theorem dX10_listRows_69 : decode cX10_listRows 69 = .ok (.iload 10, 2) := by decide +kernel
theorem dX10_listRows_71 : decode cX10_listRows 71 = .ok (.iconst 1, 1) := by decide +kernel
theorem dX10_listRows_72 : decode cX10_listRows 72 = .ok (.isub, 1) := by decide +kernel
theorem dX10_listRows_73 : decode cX10_listRows 73 = .ok (.iaload, 1) := by decide +kernel
theorem dX10_listRows_74 : decode cX10_listRows 74 = .ok (.iload 6, 2) := by decide +kernel
theorem dX10_listRows_76 : decode cX10_listRows 76 = .ok (.if_icmp .eq 6, 3) := by decide +kernel
theorem dX10_listRows_79 : decode cX10_listRows 79 = .ok (.goto 150, 3) := by decide +kernel
theorem dX10_listRows_82 : decode cX10_listRows 82 = .ok (.aload_n 0, 1) := by decide +kernel
theorem dX10_listRows_83 : decode cX10_listRows 83 = .ok (.iload 10, 2) := by decide +kernel
theorem dX10_listRows_85 : decode cX10_listRows 85 = .ok (.iload_n 3, 1) := by decide +kernel
theorem dX10_listRows_86 : decode cX10_listRows 86 = .ok (.invokevirtual 137, 3) := by decide +kernel
theorem dX10_listRows_89 : decode cX10_listRows 89 = .ok (.istore 11, 2) := by decide +kernel
theorem dX10_listRows_91 : decode cX10_listRows 91 = .ok (.iload 7, 2) := by decide +kernel
theorem dX10_listRows_93 : decode cX10_listRows 93 = .ok (.aload_n 0, 1) := by decide +kernel
theorem dX10_listRows_94 : decode cX10_listRows 94 = .ok (.getfield 20, 3) := by decide +kernel
theorem dX10_listRows_97 : decode cX10_listRows 97 = .ok (.iload 10, 2) := by decide +kernel
theorem dX10_listRows_99 : decode cX10_listRows 99 = .ok (.iconst 1, 1) := by decide +kernel
theorem dX10_listRows_100 : decode cX10_listRows 100 = .ok (.isub, 1) := by decide +kernel
theorem dX10_listRows_101 : decode cX10_listRows 101 = .ok (.aaload, 1) := by decide +kernel
theorem dX10_listRows_102 : decode cX10_listRows 102 = .ok (.getfield 67, 3) := by decide +kernel
theorem dX10_listRows_105 : decode cX10_listRows 105 = .ok (.iload 8, 2) := by decide +kernel
theorem dX10_listRows_107 : decode cX10_listRows 107 = .ok (.invokestatic 47, 3) := by decide +kernel
theorem dX10_listRows_110 : decode cX10_listRows 110 = .ok (.iadd, 1) := by decide +kernel
theorem dX10_listRows_111 : decode cX10_listRows 111 = .ok (.istore 12, 2) := by decide +kernel
theorem dX10_listRows_113 : decode cX10_listRows 113 = .ok (.iload 9, 2) := by decide +kernel
theorem dX10_listRows_115 : decode cX10_listRows 115 = .ok (.ifCond .ne 40, 3) := by decide +kernel
theorem dX10_listRows_118 : decode cX10_listRows 118 = .ok (.iload 11, 2) := by decide +kernel
theorem dX10_listRows_120 : decode cX10_listRows 120 = .ok (.ifCond .eq 15, 3) := by decide +kernel
theorem dX10_listRows_123 : decode cX10_listRows 123 = .ok (.iload 5, 2) := by decide +kernel
theorem dX10_listRows_125 : decode cX10_listRows 125 = .ok (.iload 10, 2) := by decide +kernel
theorem dX10_listRows_127 : decode cX10_listRows 127 = .ok (.iload 11, 2) := by decide +kernel
theorem dX10_listRows_129 : decode cX10_listRows 129 = .ok (.aload 4, 2) := by decide +kernel
theorem dX10_listRows_131 : decode cX10_listRows 131 = .ok (.invokestatic 97, 3) := by decide +kernel
theorem dX10_listRows_134 : decode cX10_listRows 134 = .ok (.return_, 1) := by decide +kernel
theorem dX10_listRows_135 : decode cX10_listRows 135 = .ok (.iload 12, 2) := by decide +kernel
theorem dX10_listRows_137 : decode cX10_listRows 137 = .ok (.istore 9, 2) := by decide +kernel
theorem dX10_listRows_139 : decode cX10_listRows 139 = .ok (.aload 4, 2) := by decide +kernel
theorem dX10_listRows_141 : decode cX10_listRows 141 = .ok (.iload 5, 2) := by decide +kernel
theorem dX10_listRows_143 : decode cX10_listRows 143 = .ok (.iconst 1, 1) := by decide +kernel
theorem dX10_listRows_144 : decode cX10_listRows 144 = .ok (.iadd, 1) := by decide +kernel
theorem dX10_listRows_145 : decode cX10_listRows 145 = .ok (.invokevirtual 83, 3) := by decide +kernel
theorem dX10_listRows_148 : decode cX10_listRows 148 = .ok (.aload 4, 2) := by decide +kernel
theorem dX10_listRows_150 : decode cX10_listRows 150 = .ok (.iload 9, 2) := by decide +kernel
theorem dX10_listRows_152 : decode cX10_listRows 152 = .ok (.invokevirtual 83, 3) := by decide +kernel
theorem dX10_listRows_155 : decode cX10_listRows 155 = .ok (.iload 11, 2) := by decide +kernel
theorem dX10_listRows_157 : decode cX10_listRows 157 = .ok (.ifCond .ne 25, 3) := by decide +kernel
theorem dX10_listRows_160 : decode cX10_listRows 160 = .ok (.iload 12, 2) := by decide +kernel
theorem dX10_listRows_162 : decode cX10_listRows 162 = .ok (.iload 9, 2) := by decide +kernel
theorem dX10_listRows_164 : decode cX10_listRows 164 = .ok (.if_icmp .ne 18, 3) := by decide +kernel
theorem dX10_listRows_167 : decode cX10_listRows 167 = .ok (.aload 4, 2) := by decide +kernel
theorem dX10_listRows_169 : decode cX10_listRows 169 = .ok (.getfield 67, 3) := by decide +kernel
theorem dX10_listRows_172 : decode cX10_listRows 172 = .ok (.iload 9, 2) := by decide +kernel
theorem dX10_listRows_174 : decode cX10_listRows 174 = .ok (.iadd, 1) := by decide +kernel
theorem dX10_listRows_175 : decode cX10_listRows 175 = .ok (.aload_n 0, 1) := by decide +kernel
theorem dX10_listRows_176 : decode cX10_listRows 176 = .ok (.getfield 28, 3) := by decide +kernel
theorem dX10_listRows_179 : decode cX10_listRows 179 = .ok (.if_icmp .le 4, 3) := by decide +kernel
theorem dX10_listRows_182 : decode cX10_listRows 182 = .ok (.return_, 1) := by decide +kernel
theorem dX10_listRows_183 : decode cX10_listRows 183 = .ok (.aload 4, 2) := by decide +kernel
theorem dX10_listRows_185 : decode cX10_listRows 185 = .ok (.iload 10, 2) := by decide +kernel
theorem dX10_listRows_187 : decode cX10_listRows 187 = .ok (.i2l, 1) := by decide +kernel
theorem dX10_listRows_188 : decode cX10_listRows 188 = .ok (.iconst 2, 1) := by decide +kernel
theorem dX10_listRows_189 : decode cX10_listRows 189 = .ok (.invokevirtual 108, 3) := by decide +kernel
theorem dX10_listRows_192 : decode cX10_listRows 192 = .ok (.iload 5, 2) := by decide +kernel
theorem dX10_listRows_194 : decode cX10_listRows 194 = .ok (.bipush 16, 2) := by decide +kernel
theorem dX10_listRows_196 : decode cX10_listRows 196 = .ok (.if_icmp .ne 16, 3) := by decide +kernel
theorem dX10_listRows_199 : decode cX10_listRows 199 = .ok (.aload 4, 2) := by decide +kernel
theorem dX10_listRows_201 : decode cX10_listRows 201 = .ok (.aload_n 0, 1) := by decide +kernel
theorem dX10_listRows_202 : decode cX10_listRows 202 = .ok (.iload 10, 2) := by decide +kernel
theorem dX10_listRows_204 : decode cX10_listRows 204 = .ok (.invokevirtual 170, 3) := by decide +kernel
theorem dX10_listRows_207 : decode cX10_listRows 207 = .ok (.i2l, 1) := by decide +kernel
theorem dX10_listRows_208 : decode cX10_listRows 208 = .ok (.iconst 2, 1) := by decide +kernel
theorem dX10_listRows_209 : decode cX10_listRows 209 = .ok (.invokevirtual 108, 3) := by decide +kernel
theorem dX10_listRows_212 : decode cX10_listRows 212 = .ok (.aload 4, 2) := by decide +kernel
theorem dX10_listRows_214 : decode cX10_listRows 214 = .ok (.aload_n 0, 1) := by decide +kernel
theorem dX10_listRows_215 : decode cX10_listRows 215 = .ok (.getfield 20, 3) := by decide +kernel
theorem dX10_listRows_218 : decode cX10_listRows 218 = .ok (.iload 10, 2) := by decide +kernel
theorem dX10_listRows_220 : decode cX10_listRows 220 = .ok (.iconst 1, 1) := by decide +kernel
theorem dX10_listRows_221 : decode cX10_listRows 221 = .ok (.isub, 1) := by decide +kernel
theorem dX10_listRows_222 : decode cX10_listRows 222 = .ok (.aaload, 1) := by decide +kernel
theorem dX10_listRows_223 : decode cX10_listRows 223 = .ok (.iconst 0, 1) := by decide +kernel
theorem dX10_listRows_224 : decode cX10_listRows 224 = .ok (.iload 8, 2) := by decide +kernel
theorem dX10_listRows_226 : decode cX10_listRows 226 = .ok (.invokevirtual 133, 3) := by decide +kernel
theorem dX10_listRows_229 : decode cX10_listRows 229 = .ok (.iinc 10 1, 3) := by decide +kernel
theorem dX10_listRows_232 : decode cX10_listRows 232 = .ok (.goto (-183), 3) := by decide +kernel
theorem dX10_listRows_235 : decode cX10_listRows 235 = .ok (.return_, 1) := by decide +kernel
theorem dX10_isGroup_0 : decode cX10_isGroup 0 = .ok (.iload_n 0, 1) := by decide +kernel
theorem dX10_isGroup_1 : decode cX10_isGroup 1 = .ok (.sipush 10240, 3) := by decide +kernel
theorem dX10_isGroup_4 : decode cX10_isGroup 4 = .ok (.if_icmp .eq 10, 3) := by decide +kernel
theorem dX10_isGroup_7 : decode cX10_isGroup 7 = .ok (.iload_n 0, 1) := by decide +kernel
theorem dX10_isGroup_8 : decode cX10_isGroup 8 = .ok (.sipush 10241, 3) := by decide +kernel
theorem dX10_isGroup_11 : decode cX10_isGroup 11 = .ok (.if_icmp .ne 7, 3) := by decide +kernel
theorem dX10_isGroup_14 : decode cX10_isGroup 14 = .ok (.iconst 1, 1) := by decide +kernel
theorem dX10_isGroup_15 : decode cX10_isGroup 15 = .ok (.goto 4, 3) := by decide +kernel
theorem dX10_isGroup_18 : decode cX10_isGroup 18 = .ok (.iconst 0, 1) := by decide +kernel
theorem dX10_isGroup_19 : decode cX10_isGroup 19 = .ok (.ireturn, 1) := by decide +kernel
theorem dX10_endOf_0 : decode cX10_endOf 0 = .ok (.iload_n 1, 1) := by decide +kernel
theorem dX10_endOf_1 : decode cX10_endOf 1 = .ok (.iconst 0, 1) := by decide +kernel
theorem dX10_endOf_2 : decode cX10_endOf 2 = .ok (.invokestatic 53, 3) := by decide +kernel
theorem dX10_endOf_5 : decode cX10_endOf 5 = .ok (.iconst 1, 1) := by decide +kernel
theorem dX10_endOf_6 : decode cX10_endOf 6 = .ok (.iadd, 1) := by decide +kernel
theorem dX10_endOf_7 : decode cX10_endOf 7 = .ok (.istore_n 2, 1) := by decide +kernel
theorem dX10_endOf_8 : decode cX10_endOf 8 = .ok (.iload_n 2, 1) := by decide +kernel
theorem dX10_endOf_9 : decode cX10_endOf 9 = .ok (.aload_n 0, 1) := by decide +kernel
theorem dX10_endOf_10 : decode cX10_endOf 10 = .ok (.getfield 56, 3) := by decide +kernel
theorem dX10_endOf_13 : decode cX10_endOf 13 = .ok (.if_icmp .gt 36, 3) := by decide +kernel
theorem dX10_endOf_16 : decode cX10_endOf 16 = .ok (.iload_n 2, 1) := by decide +kernel
theorem dX10_endOf_17 : decode cX10_endOf 17 = .ok (.aload_n 0, 1) := by decide +kernel
theorem dX10_endOf_18 : decode cX10_endOf 18 = .ok (.getfield 11, 3) := by decide +kernel
theorem dX10_endOf_21 : decode cX10_endOf 21 = .ok (.arraylength, 1) := by decide +kernel
theorem dX10_endOf_22 : decode cX10_endOf 22 = .ok (.if_icmp .gt 27, 3) := by decide +kernel
theorem dX10_endOf_25 : decode cX10_endOf 25 = .ok (.aload_n 0, 1) := by decide +kernel
theorem dX10_endOf_26 : decode cX10_endOf 26 = .ok (.getfield 11, 3) := by decide +kernel
theorem dX10_endOf_29 : decode cX10_endOf 29 = .ok (.iload_n 2, 1) := by decide +kernel
theorem dX10_endOf_30 : decode cX10_endOf 30 = .ok (.iconst 1, 1) := by decide +kernel
theorem dX10_endOf_31 : decode cX10_endOf 31 = .ok (.isub, 1) := by decide +kernel
theorem dX10_endOf_32 : decode cX10_endOf 32 = .ok (.iaload, 1) := by decide +kernel
theorem dX10_endOf_33 : decode cX10_endOf 33 = .ok (.invokestatic 152, 3) := by decide +kernel
theorem dX10_endOf_36 : decode cX10_endOf 36 = .ok (.ifCond .eq 7, 3) := by decide +kernel
theorem dX10_endOf_39 : decode cX10_endOf 39 = .ok (.iload_n 2, 1) := by decide +kernel
theorem dX10_endOf_40 : decode cX10_endOf 40 = .ok (.iconst 1, 1) := by decide +kernel
theorem dX10_endOf_41 : decode cX10_endOf 41 = .ok (.isub, 1) := by decide +kernel
theorem dX10_endOf_42 : decode cX10_endOf 42 = .ok (.ireturn, 1) := by decide +kernel
theorem dX10_endOf_43 : decode cX10_endOf 43 = .ok (.iinc 2 1, 3) := by decide +kernel
theorem dX10_endOf_46 : decode cX10_endOf 46 = .ok (.goto (-38), 3) := by decide +kernel
theorem dX10_endOf_49 : decode cX10_endOf 49 = .ok (.aload_n 0, 1) := by decide +kernel
theorem dX10_endOf_50 : decode cX10_endOf 50 = .ok (.getfield 56, 3) := by decide +kernel
