theorem dX12_thrown_0 : decode cX12_thrown 0 = .ok (.aload_n 0, 1) := by decide +kernel
theorem dX12_thrown_1 : decode cX12_thrown 1 = .ok (.getfield 1, 3) := by decide +kernel
theorem dX12_thrown_4 : decode cX12_thrown 4 = .ok (.ireturn, 1) := by decide +kernel
theorem dX12_in_0 : decode cX12_in 0 = .ok (.iload_n 0, 1) := by decide +kernel
theorem dX12_in_1 : decode cX12_in 1 = .ok (.ifCond .lt 12, 3) := by decide +kernel
theorem dX12_in_4 : decode cX12_in 4 = .ok (.iload_n 0, 1) := by decide +kernel
theorem dX12_in_5 : decode cX12_in 5 = .ok (.iload_n 1, 1) := by decide +kernel
theorem dX12_in_6 : decode cX12_in 6 = .ok (.if_icmp .ge 7, 3) := by decide +kernel
theorem dX12_in_9 : decode cX12_in 9 = .ok (.iconst 1, 1) := by decide +kernel
theorem dX12_in_10 : decode cX12_in 10 = .ok (.goto 4, 3) := by decide +kernel
theorem dX12_in_13 : decode cX12_in 13 = .ok (.iconst 0, 1) := by decide +kernel
theorem dX12_in_14 : decode cX12_in 14 = .ok (.ireturn, 1) := by decide +kernel
theorem dX12_copy_0 : decode cX12_copy 0 = .ok (.iconst 0, 1) := by decide +kernel
theorem dX12_copy_1 : decode cX12_copy 1 = .ok (.istore 5, 2) := by decide +kernel
theorem dX12_copy_3 : decode cX12_copy 3 = .ok (.iload 5, 2) := by decide +kernel
theorem dX12_copy_5 : decode cX12_copy 5 = .ok (.iload 4, 2) := by decide +kernel
theorem dX12_copy_7 : decode cX12_copy 7 = .ok (.if_icmp .ge 21, 3) := by decide +kernel
theorem dX12_copy_10 : decode cX12_copy 10 = .ok (.aload_n 2, 1) := by decide +kernel
theorem dX12_copy_11 : decode cX12_copy 11 = .ok (.iload_n 3, 1) := by decide +kernel
theorem dX12_copy_12 : decode cX12_copy 12 = .ok (.iload 5, 2) := by decide +kernel
theorem dX12_copy_14 : decode cX12_copy 14 = .ok (.iadd, 1) := by decide +kernel
theorem dX12_copy_15 : decode cX12_copy 15 = .ok (.aload_n 0, 1) := by decide +kernel
theorem dX12_copy_16 : decode cX12_copy 16 = .ok (.iload_n 1, 1) := by decide +kernel
theorem dX12_copy_17 : decode cX12_copy 17 = .ok (.iload 5, 2) := by decide +kernel
theorem dX12_copy_19 : decode cX12_copy 19 = .ok (.iadd, 1) := by decide +kernel
theorem dX12_copy_20 : decode cX12_copy 20 = .ok (.baload, 1) := by decide +kernel
theorem dX12_copy_21 : decode cX12_copy 21 = .ok (.bastore, 1) := by decide +kernel
theorem dX12_copy_22 : decode cX12_copy 22 = .ok (.iinc 5 1, 3) := by decide +kernel
theorem dX12_copy_25 : decode cX12_copy 25 = .ok (.goto (-22), 3) := by decide +kernel
theorem dX12_copy_28 : decode cX12_copy 28 = .ok (.return_, 1) := by decide +kernel
theorem dX12_feed_0 : decode cX12_feed 0 = .ok (.aload_n 0, 1) := by decide +kernel
theorem dX12_feed_1 : decode cX12_feed 1 = .ok (.iconst 0, 1) := by decide +kernel
theorem dX12_feed_2 : decode cX12_feed 2 = .ok (.putfield 1, 3) := by decide +kernel
theorem dX12_feed_5 : decode cX12_feed 5 = .ok (.aload_n 0, 1) := by decide +kernel
theorem dX12_feed_6 : decode cX12_feed 6 = .ok (.getfield 7, 3) := by decide +kernel
theorem dX12_feed_9 : decode cX12_feed 9 = .ok (.bipush 20, 2) := by decide +kernel
theorem dX12_feed_11 : decode cX12_feed 11 = .ok (.iadd, 1) := by decide +kernel
theorem dX12_feed_12 : decode cX12_feed 12 = .ok (.bipush 100, 2) := by decide +kernel
theorem dX12_feed_14 : decode cX12_feed 14 = .ok (.if_icmp .le 5, 3) := by decide +kernel
theorem dX12_feed_17 : decode cX12_feed 17 = .ok (.iconst (-1), 1) := by decide +kernel
theorem dX12_feed_18 : decode cX12_feed 18 = .ok (.ireturn, 1) := by decide +kernel
theorem dX12_feed_19 : decode cX12_feed 19 = .ok (.iconst 0, 1) := by decide +kernel
theorem dX12_feed_20 : decode cX12_feed 20 = .ok (.istore 6, 2) := by decide +kernel
theorem dX12_feed_22 : decode cX12_feed 22 = .ok (.iload 6, 2) := by decide +kernel
theorem dX12_feed_24 : decode cX12_feed 24 = .ok (.bipush 20, 2) := by decide +kernel
theorem dX12_feed_26 : decode cX12_feed 26 = .ok (.if_icmp .ge 83, 3) := by decide +kernel
theorem dX12_feed_29 : decode cX12_feed 29 = .ok (.iload 6, 2) := by decide +kernel
theorem dX12_feed_31 : decode cX12_feed 31 = .ok (.iconst 4, 1) := by decide +kernel
theorem dX12_feed_32 : decode cX12_feed 32 = .ok (.if_icmp .ge 7, 3) := by decide +kernel
theorem dX12_feed_35 : decode cX12_feed 35 = .ok (.iload_n 1, 1) := by decide +kernel
theorem dX12_feed_36 : decode cX12_feed 36 = .ok (.goto 39, 3) := by decide +kernel
theorem dX12_feed_39 : decode cX12_feed 39 = .ok (.iload 6, 2) := by decide +kernel
theorem dX12_feed_41 : decode cX12_feed 41 = .ok (.bipush 8, 2) := by decide +kernel
theorem dX12_feed_43 : decode cX12_feed 43 = .ok (.if_icmp .ge 7, 3) := by decide +kernel
theorem dX12_feed_46 : decode cX12_feed 46 = .ok (.iload_n 2, 1) := by decide +kernel
theorem dX12_feed_47 : decode cX12_feed 47 = .ok (.goto 28, 3) := by decide +kernel
theorem dX12_feed_50 : decode cX12_feed 50 = .ok (.iload 6, 2) := by decide +kernel
theorem dX12_feed_52 : decode cX12_feed 52 = .ok (.bipush 12, 2) := by decide +kernel
theorem dX12_feed_54 : decode cX12_feed 54 = .ok (.if_icmp .ge 7, 3) := by decide +kernel
theorem dX12_feed_57 : decode cX12_feed 57 = .ok (.iload_n 3, 1) := by decide +kernel
theorem dX12_feed_58 : decode cX12_feed 58 = .ok (.goto 17, 3) := by decide +kernel
theorem dX12_feed_61 : decode cX12_feed 61 = .ok (.iload 6, 2) := by decide +kernel
theorem dX12_feed_63 : decode cX12_feed 63 = .ok (.bipush 16, 2) := by decide +kernel
theorem dX12_feed_65 : decode cX12_feed 65 = .ok (.if_icmp .ge 8, 3) := by decide +kernel
theorem dX12_feed_68 : decode cX12_feed 68 = .ok (.iload 4, 2) := by decide +kernel
theorem dX12_feed_70 : decode cX12_feed 70 = .ok (.goto 5, 3) := by decide +kernel
theorem dX12_feed_73 : decode cX12_feed 73 = .ok (.iload 5, 2) := by decide +kernel
theorem dX12_feed_75 : decode cX12_feed 75 = .ok (.istore 7, 2) := by decide +kernel
theorem dX12_feed_77 : decode cX12_feed 77 = .ok (.aload_n 0, 1) := by decide +kernel
theorem dX12_feed_78 : decode cX12_feed 78 = .ok (.getfield 10, 3) := by decide +kernel
theorem dX12_feed_81 : decode cX12_feed 81 = .ok (.aload_n 0, 1) := by decide +kernel
theorem dX12_feed_82 : decode cX12_feed 82 = .ok (.getfield 7, 3) := by decide +kernel
theorem dX12_feed_85 : decode cX12_feed 85 = .ok (.iload 6, 2) := by decide +kernel
theorem dX12_feed_87 : decode cX12_feed 87 = .ok (.iadd, 1) := by decide +kernel
theorem dX12_feed_88 : decode cX12_feed 88 = .ok (.iload 7, 2) := by decide +kernel
theorem dX12_feed_90 : decode cX12_feed 90 = .ok (.bipush 24, 2) := by decide +kernel
theorem dX12_feed_92 : decode cX12_feed 92 = .ok (.bipush 8, 2) := by decide +kernel
theorem dX12_feed_94 : decode cX12_feed 94 = .ok (.iload 6, 2) := by decide +kernel
theorem dX12_feed_96 : decode cX12_feed 96 = .ok (.iconst 3, 1) := by decide +kernel
theorem dX12_feed_97 : decode cX12_feed 97 = .ok (.iand, 1) := by decide +kernel
theorem dX12_feed_98 : decode cX12_feed 98 = .ok (.imul, 1) := by decide +kernel
theorem dX12_feed_99 : decode cX12_feed 99 = .ok (.isub, 1) := by decide +kernel
theorem dX12_feed_100 : decode cX12_feed 100 = .ok (.ishr, 1) := by decide +kernel
theorem dX12_feed_101 : decode cX12_feed 101 = .ok (.i2b, 1) := by decide +kernel
theorem dX12_feed_102 : decode cX12_feed 102 = .ok (.bastore, 1) := by decide +kernel
theorem dX12_feed_103 : decode cX12_feed 103 = .ok (.iinc 6 1, 3) := by decide +kernel
theorem dX12_feed_106 : decode cX12_feed 106 = .ok (.goto (-84), 3) := by decide +kernel
theorem dX12_feed_109 : decode cX12_feed 109 = .ok (.aload_n 0, 1) := by decide +kernel
theorem dX12_feed_110 : decode cX12_feed 110 = .ok (.dup, 1) := by decide +kernel
theorem dX12_feed_111 : decode cX12_feed 111 = .ok (.getfield 7, 3) := by decide +kernel
theorem dX12_feed_114 : decode cX12_feed 114 = .ok (.bipush 20, 2) := by decide +kernel
theorem dX12_feed_116 : decode cX12_feed 116 = .ok (.iadd, 1) := by decide +kernel
theorem dX12_feed_117 : decode cX12_feed 117 = .ok (.putfield 7, 3) := by decide +kernel
theorem dX12_feed_120 : decode cX12_feed 120 = .ok (.aload_n 0, 1) := by decide +kernel
theorem dX12_feed_121 : decode cX12_feed 121 = .ok (.getfield 7, 3) := by decide +kernel
theorem dX12_feed_124 : decode cX12_feed 124 = .ok (.ireturn, 1) := by decide +kernel
theorem dX12_end_0 : decode cX12_end 0 = .ok (.aload_n 0, 1) := by decide +kernel
theorem dX12_end_1 : decode cX12_end 1 = .ok (.iconst 0, 1) := by decide +kernel
theorem dX12_end_2 : decode cX12_end 2 = .ok (.putfield 1, 3) := by decide +kernel
theorem dX12_end_5 : decode cX12_end 5 = .ok (.iload_n 1, 1) := by decide +kernel
theorem dX12_end_6 : decode cX12_end 6 = .ok (.ifCond .lt 11, 3) := by decide +kernel
theorem dX12_end_9 : decode cX12_end 9 = .ok (.iload_n 1, 1) := by decide +kernel
theorem dX12_end_10 : decode cX12_end 10 = .ok (.aload_n 0, 1) := by decide +kernel
theorem dX12_end_11 : decode cX12_end 11 = .ok (.getfield 7, 3) := by decide +kernel
theorem dX12_end_14 : decode cX12_end 14 = .ok (.if_icmp .le 5, 3) := by decide +kernel
theorem dX12_end_17 : decode cX12_end 17 = .ok (.iconst (-1), 1) := by decide +kernel
theorem dX12_end_18 : decode cX12_end 18 = .ok (.ireturn, 1) := by decide +kernel
theorem dX12_end_19 : decode cX12_end 19 = .ok (.aload_n 0, 1) := by decide +kernel
theorem dX12_end_20 : decode cX12_end 20 = .ok (.iload_n 1, 1) := by decide +kernel
theorem dX12_end_21 : decode cX12_end 21 = .ok (.putfield 7, 3) := by decide +kernel
theorem dX12_end_24 : decode cX12_end 24 = .ok (.iload_n 1, 1) := by decide +kernel
theorem dX12_end_25 : decode cX12_end 25 = .ok (.ireturn, 1) := by decide +kernel
theorem dX12_twice_0 : decode cX12_twice 0 = .ok (.iload_n 0, 1) := by decide +kernel
theorem dX12_twice_1 : decode cX12_twice 1 = .ok (.iconst 1, 1) := by decide +kernel
theorem dX12_twice_2 : decode cX12_twice 2 = .ok (.ishl, 1) := by decide +kernel
theorem dX12_twice_3 : decode cX12_twice 3 = .ok (.iload_n 0, 1) := by decide +kernel
theorem dX12_twice_4 : decode cX12_twice 4 = .ok (.bipush 7, 2) := by decide +kernel
theorem dX12_twice_6 : decode cX12_twice 6 = .ok (.ishr, 1) := by decide +kernel
theorem dX12_twice_7 : decode cX12_twice 7 = .ok (.sipush 283, 3) := by decide +kernel
theorem dX12_twice_10 : decode cX12_twice 10 = .ok (.imul, 1) := by decide +kernel
theorem dX12_twice_11 : decode cX12_twice 11 = .ok (.ixor, 1) := by decide +kernel
theorem dX12_twice_12 : decode cX12_twice 12 = .ok (.sipush 255, 3) := by decide +kernel
theorem dX12_twice_15 : decode cX12_twice 15 = .ok (.iand, 1) := by decide +kernel
theorem dX12_twice_16 : decode cX12_twice 16 = .ok (.ireturn, 1) := by decide +kernel
theorem dX12_times_0 : decode cX12_times 0 = .ok (.iconst 0, 1) := by decide +kernel
theorem dX12_times_1 : decode cX12_times 1 = .ok (.istore_n 2, 1) := by decide +kernel
theorem dX12_times_2 : decode cX12_times 2 = .ok (.iload_n 0, 1) := by decide +kernel
theorem dX12_times_3 : decode cX12_times 3 = .ok (.istore_n 3, 1) := by decide +kernel
theorem dX12_times_4 : decode cX12_times 4 = .ok (.iconst 0, 1) := by decide +kernel
theorem dX12_times_5 : decode cX12_times 5 = .ok (.istore 4, 2) := by decide +kernel
theorem dX12_times_7 : decode cX12_times 7 = .ok (.iload 4, 2) := by decide +kernel
theorem dX12_times_9 : decode cX12_times 9 = .ok (.bipush 8, 2) := by decide +kernel
theorem dX12_times_11 : decode cX12_times 11 = .ok (.if_icmp .ge 28, 3) := by decide +kernel
theorem dX12_times_14 : decode cX12_times 14 = .ok (.iload_n 1, 1) := by decide +kernel
theorem dX12_times_15 : decode cX12_times 15 = .ok (.iload 4, 2) := by decide +kernel
theorem dX12_times_17 : decode cX12_times 17 = .ok (.ishr, 1) := by decide +kernel
theorem dX12_times_18 : decode cX12_times 18 = .ok (.iconst 1, 1) := by decide +kernel
theorem dX12_times_19 : decode cX12_times 19 = .ok (.iand, 1) := by decide +kernel
theorem dX12_times_20 : decode cX12_times 20 = .ok (.iconst 1, 1) := by decide +kernel
theorem dX12_times_21 : decode cX12_times 21 = .ok (.if_icmp .ne 7, 3) := by decide +kernel
theorem dX12_times_24 : decode cX12_times 24 = .ok (.iload_n 2, 1) := by decide +kernel
theorem dX12_times_25 : decode cX12_times 25 = .ok (.iload_n 3, 1) := by decide +kernel
theorem dX12_times_26 : decode cX12_times 26 = .ok (.ixor, 1) := by decide +kernel
theorem dX12_times_27 : decode cX12_times 27 = .ok (.istore_n 2, 1) := by decide +kernel
theorem dX12_times_28 : decode cX12_times 28 = .ok (.iload_n 3, 1) := by decide +kernel
theorem dX12_times_29 : decode cX12_times 29 = .ok (.invokestatic 14, 3) := by decide +kernel
theorem dX12_times_32 : decode cX12_times 32 = .ok (.istore_n 3, 1) := by decide +kernel
theorem dX12_times_33 : decode cX12_times 33 = .ok (.iinc 4 1, 3) := by decide +kernel
theorem dX12_times_36 : decode cX12_times 36 = .ok (.goto (-29), 3) := by decide +kernel
theorem dX12_times_39 : decode cX12_times 39 = .ok (.iload_n 2, 1) := by decide +kernel
theorem dX12_times_40 : decode cX12_times 40 = .ok (.ireturn, 1) := by decide +kernel
theorem dX12_fillBox_0 : decode cX12_fillBox 0 = .ok (.iconst 0, 1) := by decide +kernel
theorem dX12_fillBox_1 : decode cX12_fillBox 1 = .ok (.istore_n 1, 1) := by decide +kernel
theorem dX12_fillBox_2 : decode cX12_fillBox 2 = .ok (.iload_n 1, 1) := by decide +kernel
theorem dX12_fillBox_3 : decode cX12_fillBox 3 = .ok (.sipush 256, 3) := by decide +kernel
theorem dX12_fillBox_6 : decode cX12_fillBox 6 = .ok (.if_icmp .ge 83, 3) := by decide +kernel
theorem dX12_fillBox_9 : decode cX12_fillBox 9 = .ok (.iconst 0, 1) := by decide +kernel
theorem dX12_fillBox_10 : decode cX12_fillBox 10 = .ok (.istore_n 2, 1) := by decide +kernel
theorem dX12_fillBox_11 : decode cX12_fillBox 11 = .ok (.iconst 1, 1) := by decide +kernel
theorem dX12_fillBox_12 : decode cX12_fillBox 12 = .ok (.istore_n 3, 1) := by decide +kernel
theorem dX12_fillBox_13 : decode cX12_fillBox 13 = .ok (.iload_n 3, 1) := by decide +kernel
theorem dX12_fillBox_14 : decode cX12_fillBox 14 = .ok (.sipush 256, 3) := by decide +kernel
theorem dX12_fillBox_17 : decode cX12_fillBox 17 = .ok (.if_icmp .ge 20, 3) := by decide +kernel
theorem dX12_fillBox_20 : decode cX12_fillBox 20 = .ok (.iload_n 1, 1) := by decide +kernel
theorem dX12_fillBox_21 : decode cX12_fillBox 21 = .ok (.iload_n 3, 1) := by decide +kernel
theorem dX12_fillBox_22 : decode cX12_fillBox 22 = .ok (.invokestatic 18, 3) := by decide +kernel
theorem dX12_fillBox_25 : decode cX12_fillBox 25 = .ok (.iconst 1, 1) := by decide +kernel
theorem dX12_fillBox_26 : decode cX12_fillBox 26 = .ok (.if_icmp .ne 5, 3) := by decide +kernel
theorem dX12_fillBox_29 : decode cX12_fillBox 29 = .ok (.iload_n 3, 1) := by decide +kernel
theorem dX12_fillBox_30 : decode cX12_fillBox 30 = .ok (.istore_n 2, 1) := by decide +kernel
theorem dX12_fillBox_31 : decode cX12_fillBox 31 = .ok (.iinc 3 1, 3) := by decide +kernel
theorem dX12_fillBox_34 : decode cX12_fillBox 34 = .ok (.goto (-21), 3) := by decide +kernel
theorem dX12_fillBox_37 : decode cX12_fillBox 37 = .ok (.iload_n 2, 1) := by decide +kernel
theorem dX12_fillBox_38 : decode cX12_fillBox 38 = .ok (.istore_n 3, 1) := by decide +kernel
theorem dX12_fillBox_39 : decode cX12_fillBox 39 = .ok (.iconst 1, 1) := by decide +kernel
theorem dX12_fillBox_40 : decode cX12_fillBox 40 = .ok (.istore 4, 2) := by decide +kernel
theorem dX12_fillBox_42 : decode cX12_fillBox 42 = .ok (.iload 4, 2) := by decide +kernel
theorem dX12_fillBox_44 : decode cX12_fillBox 44 = .ok (.iconst 5, 1) := by decide +kernel
theorem dX12_fillBox_45 : decode cX12_fillBox 45 = .ok (.if_icmp .ge 28, 3) := by decide +kernel
theorem dX12_fillBox_48 : decode cX12_fillBox 48 = .ok (.iload_n 3, 1) := by decide +kernel
theorem dX12_fillBox_49 : decode cX12_fillBox 49 = .ok (.iload_n 2, 1) := by decide +kernel
theorem dX12_fillBox_50 : decode cX12_fillBox 50 = .ok (.iload 4, 2) := by decide +kernel
theorem dX12_fillBox_52 : decode cX12_fillBox 52 = .ok (.ishl, 1) := by decide +kernel
theorem dX12_fillBox_53 : decode cX12_fillBox 53 = .ok (.iload_n 2, 1) := by decide +kernel
theorem dX12_fillBox_54 : decode cX12_fillBox 54 = .ok (.bipush 8, 2) := by decide +kernel
theorem dX12_fillBox_56 : decode cX12_fillBox 56 = .ok (.iload 4, 2) := by decide +kernel
theorem dX12_fillBox_58 : decode cX12_fillBox 58 = .ok (.isub, 1) := by decide +kernel
theorem dX12_fillBox_59 : decode cX12_fillBox 59 = .ok (.ishr, 1) := by decide +kernel
theorem dX12_fillBox_60 : decode cX12_fillBox 60 = .ok (.ior, 1) := by decide +kernel
theorem dX12_fillBox_61 : decode cX12_fillBox 61 = .ok (.sipush 255, 3) := by decide +kernel
theorem dX12_fillBox_64 : decode cX12_fillBox 64 = .ok (.iand, 1) := by decide +kernel
theorem dX12_fillBox_65 : decode cX12_fillBox 65 = .ok (.ixor, 1) := by decide +kernel
theorem dX12_fillBox_66 : decode cX12_fillBox 66 = .ok (.istore_n 3, 1) := by decide +kernel
theorem dX12_fillBox_67 : decode cX12_fillBox 67 = .ok (.iinc 4 1, 3) := by decide +kernel
theorem dX12_fillBox_70 : decode cX12_fillBox 70 = .ok (.goto (-28), 3) := by decide +kernel
theorem dX12_fillBox_73 : decode cX12_fillBox 73 = .ok (.aload_n 0, 1) := by decide +kernel
theorem dX12_fillBox_74 : decode cX12_fillBox 74 = .ok (.getfield 22, 3) := by decide +kernel
theorem dX12_fillBox_77 : decode cX12_fillBox 77 = .ok (.iload_n 1, 1) := by decide +kernel
theorem dX12_fillBox_78 : decode cX12_fillBox 78 = .ok (.iload_n 3, 1) := by decide +kernel
theorem dX12_fillBox_79 : decode cX12_fillBox 79 = .ok (.bipush 99, 2) := by decide +kernel
theorem dX12_fillBox_81 : decode cX12_fillBox 81 = .ok (.ixor, 1) := by decide +kernel
theorem dX12_fillBox_82 : decode cX12_fillBox 82 = .ok (.iastore, 1) := by decide +kernel
theorem dX12_fillBox_83 : decode cX12_fillBox 83 = .ok (.iinc 1 1, 3) := by decide +kernel
theorem dX12_fillBox_86 : decode cX12_fillBox 86 = .ok (.goto (-84), 3) := by decide +kernel
theorem dX12_fillBox_89 : decode cX12_fillBox 89 = .ok (.return_, 1) := by decide +kernel
theorem dX12_init_0 : decode cX12_init 0 = .ok (.aload_n 0, 1) := by decide +kernel
theorem dX12_init_1 : decode cX12_init 1 = .ok (.invokespecial 39, 3) := by decide +kernel
theorem dX12_init_4 : decode cX12_init 4 = .ok (.aload_n 0, 1) := by decide +kernel
theorem dX12_init_5 : decode cX12_init 5 = .ok (.bipush 100, 2) := by decide +kernel
theorem dX12_init_7 : decode cX12_init 7 = .ok (.newarray .byte, 2) := by decide +kernel
theorem dX12_init_9 : decode cX12_init 9 = .ok (.putfield 10, 3) := by decide +kernel
theorem dX12_init_12 : decode cX12_init 12 = .ok (.aload_n 0, 1) := by decide +kernel
theorem dX12_init_13 : decode cX12_init 13 = .ok (.sipush 256, 3) := by decide +kernel
theorem dX12_init_16 : decode cX12_init 16 = .ok (.newarray .int, 2) := by decide +kernel
theorem dX12_init_18 : decode cX12_init 18 = .ok (.putfield 22, 3) := by decide +kernel
theorem dX12_init_21 : decode cX12_init 21 = .ok (.aload_n 0, 1) := by decide +kernel
theorem dX12_init_22 : decode cX12_init 22 = .ok (.bipush 16, 2) := by decide +kernel
theorem dX12_init_24 : decode cX12_init 24 = .ok (.newarray .byte, 2) := by decide +kernel
theorem dX12_init_26 : decode cX12_init 26 = .ok (.putfield 26, 3) := by decide +kernel
theorem dX12_init_29 : decode cX12_init 29 = .ok (.aload_n 0, 1) := by decide +kernel
theorem dX12_init_30 : decode cX12_init 30 = .ok (.bipush 16, 2) := by decide +kernel
theorem dX12_init_32 : decode cX12_init 32 = .ok (.newarray .byte, 2) := by decide +kernel
theorem dX12_init_34 : decode cX12_init 34 = .ok (.putfield 33, 3) := by decide +kernel
theorem dX12_init_37 : decode cX12_init 37 = .ok (.aload_n 0, 1) := by decide +kernel
theorem dX12_init_38 : decode cX12_init 38 = .ok (.bipush 16, 2) := by decide +kernel
theorem dX12_init_40 : decode cX12_init 40 = .ok (.newarray .byte, 2) := by decide +kernel
theorem dX12_init_42 : decode cX12_init 42 = .ok (.putfield 36, 3) := by decide +kernel
theorem dX12_init_45 : decode cX12_init 45 = .ok (.aload_n 0, 1) := by decide +kernel
theorem dX12_init_46 : decode cX12_init 46 = .ok (.iconst 2, 1) := by decide +kernel
theorem dX12_init_47 : decode cX12_init 47 = .ok (.newarray .int, 2) := by decide +kernel
theorem dX12_init_49 : decode cX12_init 49 = .ok (.putfield 45, 3) := by decide +kernel
theorem dX12_init_52 : decode cX12_init 52 = .ok (.aload_n 0, 1) := by decide +kernel
theorem dX12_init_53 : decode cX12_init 53 = .ok (.iconst 2, 1) := by decide +kernel
theorem dX12_init_54 : decode cX12_init 54 = .ok (.newarray .int, 2) := by decide +kernel
theorem dX12_init_56 : decode cX12_init 56 = .ok (.putfield 48, 3) := by decide +kernel
theorem dX12_init_59 : decode cX12_init 59 = .ok (.aload_n 0, 1) := by decide +kernel
theorem dX12_init_60 : decode cX12_init 60 = .ok (.iconst 2, 1) := by decide +kernel
theorem dX12_init_61 : decode cX12_init 61 = .ok (.newarray .int, 2) := by decide +kernel
theorem dX12_init_63 : decode cX12_init 63 = .ok (.putfield 51, 3) := by decide +kernel
theorem dX12_init_66 : decode cX12_init 66 = .ok (.aload_n 0, 1) := by decide +kernel
theorem dX12_init_67 : decode cX12_init 67 = .ok (.iconst 2, 1) := by decide +kernel
theorem dX12_init_68 : decode cX12_init 68 = .ok (.newarray .int, 2) := by decide +kernel
theorem dX12_init_70 : decode cX12_init 70 = .ok (.putfield 54, 3) := by decide +kernel
theorem dX12_init_73 : decode cX12_init 73 = .ok (.aload_n 0, 1) := by decide +kernel
theorem dX12_init_74 : decode cX12_init 74 = .ok (.iconst 2, 1) := by decide +kernel
theorem dX12_init_75 : decode cX12_init 75 = .ok (.newarray .int, 2) := by decide +kernel
theorem dX12_init_77 : decode cX12_init 77 = .ok (.putfield 57, 3) := by decide +kernel
theorem dX12_init_80 : decode cX12_init 80 = .ok (.aload_n 0, 1) := by decide +kernel
theorem dX12_init_81 : decode cX12_init 81 = .ok (.iconst 2, 1) := by decide +kernel
theorem dX12_init_82 : decode cX12_init 82 = .ok (.newarray .long, 2) := by decide +kernel
theorem dX12_init_84 : decode cX12_init 84 = .ok (.putfield 60, 3) := by decide +kernel
theorem dX12_init_87 : decode cX12_init 87 = .ok (.aload_n 0, 1) := by decide +kernel
theorem dX12_init_88 : decode cX12_init 88 = .ok (.iconst 2, 1) := by decide +kernel
theorem dX12_init_89 : decode cX12_init 89 = .ok (.newarray .long, 2) := by decide +kernel
theorem dX12_init_91 : decode cX12_init 91 = .ok (.putfield 64, 3) := by decide +kernel
theorem dX12_init_94 : decode cX12_init 94 = .ok (.aload_n 0, 1) := by decide +kernel
theorem dX12_init_95 : decode cX12_init 95 = .ok (.iconst 2, 1) := by decide +kernel
theorem dX12_init_96 : decode cX12_init 96 = .ok (.newarray .long, 2) := by decide +kernel
theorem dX12_init_98 : decode cX12_init 98 = .ok (.putfield 67, 3) := by decide +kernel
theorem dX12_init_101 : decode cX12_init 101 = .ok (.aload_n 0, 1) := by decide +kernel
theorem dX12_init_102 : decode cX12_init 102 = .ok (.iconst 2, 1) := by decide +kernel
theorem dX12_init_103 : decode cX12_init 103 = .ok (.newarray .long, 2) := by decide +kernel
theorem dX12_init_105 : decode cX12_init 105 = .ok (.putfield 70, 3) := by decide +kernel
theorem dX12_init_108 : decode cX12_init 108 = .ok (.aload_n 0, 1) := by decide +kernel
theorem dX12_init_109 : decode cX12_init 109 = .ok (.iconst 2, 1) := by decide +kernel
theorem dX12_init_110 : decode cX12_init 110 = .ok (.newarray .long, 2) := by decide +kernel
theorem dX12_init_112 : decode cX12_init 112 = .ok (.putfield 73, 3) := by decide +kernel
theorem dX12_init_115 : decode cX12_init 115 = .ok (.aload_n 0, 1) := by decide +kernel
theorem dX12_init_116 : decode cX12_init 116 = .ok (.iconst 2, 1) := by decide +kernel
theorem dX12_init_117 : decode cX12_init 117 = .ok (.newarray .long, 2) := by decide +kernel
theorem dX12_init_119 : decode cX12_init 119 = .ok (.putfield 76, 3) := by decide +kernel
theorem dX12_init_122 : decode cX12_init 122 = .ok (.aload_n 0, 1) := by decide +kernel
theorem dX12_init_123 : decode cX12_init 123 = .ok (.iconst 2, 1) := by decide +kernel
theorem dX12_init_124 : decode cX12_init 124 = .ok (.newarray .long, 2) := by decide +kernel
theorem dX12_init_126 : decode cX12_init 126 = .ok (.putfield 79, 3) := by decide +kernel
theorem dX12_init_129 : decode cX12_init 129 = .ok (.aload_n 0, 1) := by decide +kernel
theorem dX12_init_130 : decode cX12_init 130 = .ok (.bipush 40, 2) := by decide +kernel
theorem dX12_init_132 : decode cX12_init 132 = .ok (.newarray .byte, 2) := by decide +kernel
theorem dX12_init_134 : decode cX12_init 134 = .ok (.putfield 82, 3) := by decide +kernel
theorem dX12_init_137 : decode cX12_init 137 = .ok (.aload_n 0, 1) := by decide +kernel
theorem dX12_init_138 : decode cX12_init 138 = .ok (.bipush 64, 2) := by decide +kernel
theorem dX12_init_140 : decode cX12_init 140 = .ok (.newarray .byte, 2) := by decide +kernel
theorem dX12_init_142 : decode cX12_init 142 = .ok (.putfield 85, 3) := by decide +kernel
theorem dX12_init_145 : decode cX12_init 145 = .ok (.aload_n 0, 1) := by decide +kernel
theorem dX12_init_146 : decode cX12_init 146 = .ok (.iconst 2, 1) := by decide +kernel
theorem dX12_init_147 : decode cX12_init 147 = .ok (.newarray .int, 2) := by decide +kernel
theorem dX12_init_149 : decode cX12_init 149 = .ok (.putfield 88, 3) := by decide +kernel
theorem dX12_init_152 : decode cX12_init 152 = .ok (.aload_n 0, 1) := by decide +kernel
theorem dX12_init_153 : decode cX12_init 153 = .ok (.iconst 2, 1) := by decide +kernel
theorem dX12_init_154 : decode cX12_init 154 = .ok (.newarray .int, 2) := by decide +kernel
theorem dX12_init_156 : decode cX12_init 156 = .ok (.putfield 91, 3) := by decide +kernel
theorem dX12_init_159 : decode cX12_init 159 = .ok (.aload_n 0, 1) := by decide +kernel
theorem dX12_init_160 : decode cX12_init 160 = .ok (.iconst 2, 1) := by decide +kernel
theorem dX12_init_161 : decode cX12_init 161 = .ok (.newarray .int, 2) := by decide +kernel
theorem dX12_init_163 : decode cX12_init 163 = .ok (.putfield 94, 3) := by decide +kernel
theorem dX12_init_166 : decode cX12_init 166 = .ok (.aload_n 0, 1) := by decide +kernel
theorem dX12_init_167 : decode cX12_init 167 = .ok (.iconst 2, 1) := by decide +kernel
theorem dX12_init_168 : decode cX12_init 168 = .ok (.newarray .int, 2) := by decide +kernel
theorem dX12_init_170 : decode cX12_init 170 = .ok (.putfield 97, 3) := by decide +kernel
theorem dX12_init_173 : decode cX12_init 173 = .ok (.aload_n 0, 1) := by decide +kernel
theorem dX12_init_174 : decode cX12_init 174 = .ok (.sipush 128, 3) := by decide +kernel
theorem dX12_init_177 : decode cX12_init 177 = .ok (.newarray .int, 2) := by decide +kernel
theorem dX12_init_179 : decode cX12_init 179 = .ok (.putfield 100, 3) := by decide +kernel
theorem dX12_init_182 : decode cX12_init 182 = .ok (.aload_n 0, 1) := by decide +kernel
theorem dX12_init_183 : decode cX12_init 183 = .ok (.iconst 2, 1) := by decide +kernel
theorem dX12_init_184 : decode cX12_init 184 = .ok (.newarray .int, 2) := by decide +kernel
theorem dX12_init_186 : decode cX12_init 186 = .ok (.putfield 103, 3) := by decide +kernel
theorem dX12_init_189 : decode cX12_init 189 = .ok (.aload_n 0, 1) := by decide +kernel
theorem dX12_init_190 : decode cX12_init 190 = .ok (.iconst 2, 1) := by decide +kernel
theorem dX12_init_191 : decode cX12_init 191 = .ok (.newarray .int, 2) := by decide +kernel
theorem dX12_init_193 : decode cX12_init 193 = .ok (.putfield 106, 3) := by decide +kernel
theorem dX12_init_196 : decode cX12_init 196 = .ok (.aload_n 0, 1) := by decide +kernel
theorem dX12_init_197 : decode cX12_init 197 = .ok (.iconst 2, 1) := by decide +kernel
theorem dX12_init_198 : decode cX12_init 198 = .ok (.newarray .int, 2) := by decide +kernel
theorem dX12_init_200 : decode cX12_init 200 = .ok (.putfield 109, 3) := by decide +kernel
theorem dX12_init_203 : decode cX12_init 203 = .ok (.aload_n 0, 1) := by decide +kernel
theorem dX12_init_204 : decode cX12_init 204 = .ok (.iconst 2, 1) := by decide +kernel
theorem dX12_init_205 : decode cX12_init 205 = .ok (.newarray .int, 2) := by decide +kernel
theorem dX12_init_207 : decode cX12_init 207 = .ok (.putfield 112, 3) := by decide +kernel
theorem dX12_init_210 : decode cX12_init 210 = .ok (.aload_n 0, 1) := by decide +kernel
theorem dX12_init_211 : decode cX12_init 211 = .ok (.iconst 2, 1) := by decide +kernel
theorem dX12_init_212 : decode cX12_init 212 = .ok (.newarray .int, 2) := by decide +kernel
theorem dX12_init_214 : decode cX12_init 214 = .ok (.putfield 115, 3) := by decide +kernel
theorem dX12_init_217 : decode cX12_init 217 = .ok (.aload_n 0, 1) := by decide +kernel
theorem dX12_init_218 : decode cX12_init 218 = .ok (.iconst 2, 1) := by decide +kernel
theorem dX12_init_219 : decode cX12_init 219 = .ok (.newarray .int, 2) := by decide +kernel
theorem dX12_init_221 : decode cX12_init 221 = .ok (.putfield 118, 3) := by decide +kernel
theorem dX12_init_224 : decode cX12_init 224 = .ok (.aload_n 0, 1) := by decide +kernel
theorem dX12_init_225 : decode cX12_init 225 = .ok (.iconst 2, 1) := by decide +kernel
theorem dX12_init_226 : decode cX12_init 226 = .ok (.newarray .int, 2) := by decide +kernel
theorem dX12_init_228 : decode cX12_init 228 = .ok (.putfield 121, 3) := by decide +kernel
theorem dX12_init_231 : decode cX12_init 231 = .ok (.aload_n 0, 1) := by decide +kernel
theorem dX12_init_232 : decode cX12_init 232 = .ok (.iconst 2, 1) := by decide +kernel
theorem dX12_init_233 : decode cX12_init 233 = .ok (.newarray .int, 2) := by decide +kernel
theorem dX12_init_235 : decode cX12_init 235 = .ok (.putfield 124, 3) := by decide +kernel
theorem dX12_init_238 : decode cX12_init 238 = .ok (.aload_n 0, 1) := by decide +kernel
theorem dX12_init_239 : decode cX12_init 239 = .ok (.iconst 2, 1) := by decide +kernel
theorem dX12_init_240 : decode cX12_init 240 = .ok (.newarray .int, 2) := by decide +kernel
theorem dX12_init_242 : decode cX12_init 242 = .ok (.putfield 127, 3) := by decide +kernel
theorem dX12_init_245 : decode cX12_init 245 = .ok (.aload_n 0, 1) := by decide +kernel
theorem dX12_init_246 : decode cX12_init 246 = .ok (.iconst 2, 1) := by decide +kernel
theorem dX12_init_247 : decode cX12_init 247 = .ok (.newarray .int, 2) := by decide +kernel
theorem dX12_init_249 : decode cX12_init 249 = .ok (.putfield 130, 3) := by decide +kernel
theorem dX12_init_252 : decode cX12_init 252 = .ok (.aload_n 0, 1) := by decide +kernel
theorem dX12_init_253 : decode cX12_init 253 = .ok (.iconst 2, 1) := by decide +kernel
theorem dX12_init_254 : decode cX12_init 254 = .ok (.newarray .int, 2) := by decide +kernel
theorem dX12_init_256 : decode cX12_init 256 = .ok (.putfield 133, 3) := by decide +kernel
theorem dX12_init_259 : decode cX12_init 259 = .ok (.aload_n 0, 1) := by decide +kernel
theorem dX12_init_260 : decode cX12_init 260 = .ok (.iconst 2, 1) := by decide +kernel
theorem dX12_init_261 : decode cX12_init 261 = .ok (.newarray .int, 2) := by decide +kernel
theorem dX12_init_263 : decode cX12_init 263 = .ok (.putfield 136, 3) := by decide +kernel
theorem dX12_init_266 : decode cX12_init 266 = .ok (.aload_n 0, 1) := by decide +kernel
theorem dX12_init_267 : decode cX12_init 267 = .ok (.iconst 2, 1) := by decide +kernel
theorem dX12_init_268 : decode cX12_init 268 = .ok (.newarray .int, 2) := by decide +kernel
theorem dX12_init_270 : decode cX12_init 270 = .ok (.putfield 139, 3) := by decide +kernel
theorem dX12_init_273 : decode cX12_init 273 = .ok (.aload_n 0, 1) := by decide +kernel
theorem dX12_init_274 : decode cX12_init 274 = .ok (.bipush 8, 2) := by decide +kernel
theorem dX12_init_276 : decode cX12_init 276 = .ok (.newarray .byte, 2) := by decide +kernel
theorem dX12_init_278 : decode cX12_init 278 = .ok (.putfield 142, 3) := by decide +kernel
theorem dX12_init_281 : decode cX12_init 281 = .ok (.aload_n 0, 1) := by decide +kernel
theorem dX12_init_282 : decode cX12_init 282 = .ok (.iconst 2, 1) := by decide +kernel
theorem dX12_init_283 : decode cX12_init 283 = .ok (.newarray .boolean, 2) := by decide +kernel
theorem dX12_init_285 : decode cX12_init 285 = .ok (.putfield 145, 3) := by decide +kernel
theorem dX12_init_288 : decode cX12_init 288 = .ok (.aload_n 0, 1) := by decide +kernel
theorem dX12_init_289 : decode cX12_init 289 = .ok (.iconst 2, 1) := by decide +kernel
theorem dX12_init_290 : decode cX12_init 290 = .ok (.newarray .boolean, 2) := by decide +kernel
theorem dX12_init_292 : decode cX12_init 292 = .ok (.putfield 149, 3) := by decide +kernel
theorem dX12_init_295 : decode cX12_init 295 = .ok (.aload_n 0, 1) := by decide +kernel
theorem dX12_init_296 : decode cX12_init 296 = .ok (.iconst 2, 1) := by decide +kernel
theorem dX12_init_297 : decode cX12_init 297 = .ok (.newarray .boolean, 2) := by decide +kernel
theorem dX12_init_299 : decode cX12_init 299 = .ok (.putfield 152, 3) := by decide +kernel
theorem dX12_init_302 : decode cX12_init 302 = .ok (.aload_n 0, 1) := by decide +kernel
theorem dX12_init_303 : decode cX12_init 303 = .ok (.sipush 2880, 3) := by decide +kernel
theorem dX12_init_306 : decode cX12_init 306 = .ok (.newarray .int, 2) := by decide +kernel
theorem dX12_init_308 : decode cX12_init 308 = .ok (.putfield 155, 3) := by decide +kernel
theorem dX12_init_311 : decode cX12_init 311 = .ok (.aload_n 0, 1) := by decide +kernel
theorem dX12_init_312 : decode cX12_init 312 = .ok (.iconst 2, 1) := by decide +kernel
theorem dX12_init_313 : decode cX12_init 313 = .ok (.newarray .int, 2) := by decide +kernel
theorem dX12_init_315 : decode cX12_init 315 = .ok (.putfield 158, 3) := by decide +kernel
theorem dX12_init_318 : decode cX12_init 318 = .ok (.aload_n 0, 1) := by decide +kernel
theorem dX12_init_319 : decode cX12_init 319 = .ok (.iconst 2, 1) := by decide +kernel
theorem dX12_init_320 : decode cX12_init 320 = .ok (.newarray .int, 2) := by decide +kernel
theorem dX12_init_322 : decode cX12_init 322 = .ok (.putfield 161, 3) := by decide +kernel
theorem dX12_init_325 : decode cX12_init 325 = .ok (.aload_n 0, 1) := by decide +kernel
theorem dX12_init_326 : decode cX12_init 326 = .ok (.sipush 640, 3) := by decide +kernel
theorem dX12_init_329 : decode cX12_init 329 = .ok (.newarray .byte, 2) := by decide +kernel
theorem dX12_init_331 : decode cX12_init 331 = .ok (.putfield 164, 3) := by decide +kernel
theorem dX12_init_334 : decode cX12_init 334 = .ok (.aload_n 0, 1) := by decide +kernel
theorem dX12_init_335 : decode cX12_init 335 = .ok (.bipush 16, 2) := by decide +kernel
theorem dX12_init_337 : decode cX12_init 337 = .ok (.newarray .int, 2) := by decide +kernel
theorem dX12_init_339 : decode cX12_init 339 = .ok (.putfield 167, 3) := by decide +kernel
theorem dX12_init_342 : decode cX12_init 342 = .ok (.aload_n 0, 1) := by decide +kernel
theorem dX12_init_343 : decode cX12_init 343 = .ok (.bipush 16, 2) := by decide +kernel
theorem dX12_init_345 : decode cX12_init 345 = .ok (.newarray .int, 2) := by decide +kernel
theorem dX12_init_347 : decode cX12_init 347 = .ok (.putfield 170, 3) := by decide +kernel
theorem dX12_init_350 : decode cX12_init 350 = .ok (.aload_n 0, 1) := by decide +kernel
theorem dX12_init_351 : decode cX12_init 351 = .ok (.bipush 16, 2) := by decide +kernel
theorem dX12_init_353 : decode cX12_init 353 = .ok (.newarray .boolean, 2) := by decide +kernel
theorem dX12_init_355 : decode cX12_init 355 = .ok (.putfield 173, 3) := by decide +kernel
theorem dX12_init_358 : decode cX12_init 358 = .ok (.aload_n 0, 1) := by decide +kernel
theorem dX12_init_359 : decode cX12_init 359 = .ok (.bipush 40, 2) := by decide +kernel
theorem dX12_init_361 : decode cX12_init 361 = .ok (.newarray .byte, 2) := by decide +kernel
theorem dX12_init_363 : decode cX12_init 363 = .ok (.putfield 176, 3) := by decide +kernel
theorem dX12_init_366 : decode cX12_init 366 = .ok (.aload_n 0, 1) := by decide +kernel
theorem dX12_init_367 : decode cX12_init 367 = .ok (.bipush 40, 2) := by decide +kernel
theorem dX12_init_369 : decode cX12_init 369 = .ok (.newarray .byte, 2) := by decide +kernel
theorem dX12_init_371 : decode cX12_init 371 = .ok (.putfield 179, 3) := by decide +kernel
theorem dX12_init_374 : decode cX12_init 374 = .ok (.aload_n 0, 1) := by decide +kernel
theorem dX12_init_375 : decode cX12_init 375 = .ok (.iconst 2, 1) := by decide +kernel
theorem dX12_init_376 : decode cX12_init 376 = .ok (.newarray .int, 2) := by decide +kernel
theorem dX12_init_378 : decode cX12_init 378 = .ok (.putfield 182, 3) := by decide +kernel
theorem dX12_init_381 : decode cX12_init 381 = .ok (.aload_n 0, 1) := by decide +kernel
theorem dX12_init_382 : decode cX12_init 382 = .ok (.iconst 2, 1) := by decide +kernel
theorem dX12_init_383 : decode cX12_init 383 = .ok (.newarray .int, 2) := by decide +kernel
theorem dX12_init_385 : decode cX12_init 385 = .ok (.putfield 185, 3) := by decide +kernel
theorem dX12_init_388 : decode cX12_init 388 = .ok (.aload_n 0, 1) := by decide +kernel
theorem dX12_init_389 : decode cX12_init 389 = .ok (.iconst 2, 1) := by decide +kernel
theorem dX12_init_390 : decode cX12_init 390 = .ok (.newarray .int, 2) := by decide +kernel
theorem dX12_init_392 : decode cX12_init 392 = .ok (.putfield 188, 3) := by decide +kernel
theorem dX12_init_395 : decode cX12_init 395 = .ok (.aload_n 0, 1) := by decide +kernel
theorem dX12_init_396 : decode cX12_init 396 = .ok (.iconst 2, 1) := by decide +kernel
theorem dX12_init_397 : decode cX12_init 397 = .ok (.newarray .int, 2) := by decide +kernel
theorem dX12_init_399 : decode cX12_init 399 = .ok (.putfield 191, 3) := by decide +kernel
theorem dX12_init_402 : decode cX12_init 402 = .ok (.aload_n 0, 1) := by decide +kernel
theorem dX12_init_403 : decode cX12_init 403 = .ok (.iconst 2, 1) := by decide +kernel
theorem dX12_init_404 : decode cX12_init 404 = .ok (.newarray .int, 2) := by decide +kernel
theorem dX12_init_406 : decode cX12_init 406 = .ok (.putfield 194, 3) := by decide +kernel
theorem dX12_init_409 : decode cX12_init 409 = .ok (.aload_n 0, 1) := by decide +kernel
theorem dX12_init_410 : decode cX12_init 410 = .ok (.iconst 2, 1) := by decide +kernel
theorem dX12_init_411 : decode cX12_init 411 = .ok (.newarray .int, 2) := by decide +kernel
theorem dX12_init_413 : decode cX12_init 413 = .ok (.putfield 197, 3) := by decide +kernel
theorem dX12_init_416 : decode cX12_init 416 = .ok (.aload_n 0, 1) := by decide +kernel
theorem dX12_init_417 : decode cX12_init 417 = .ok (.bipush 80, 2) := by decide +kernel
theorem dX12_init_419 : decode cX12_init 419 = .ok (.newarray .byte, 2) := by decide +kernel
theorem dX12_init_421 : decode cX12_init 421 = .ok (.putfield 200, 3) := by decide +kernel
theorem dX12_init_424 : decode cX12_init 424 = .ok (.aload_n 0, 1) := by decide +kernel
theorem dX12_init_425 : decode cX12_init 425 = .ok (.sipush 192, 3) := by decide +kernel
theorem dX12_init_428 : decode cX12_init 428 = .ok (.newarray .byte, 2) := by decide +kernel
theorem dX12_init_430 : decode cX12_init 430 = .ok (.putfield 203, 3) := by decide +kernel
theorem dX12_init_433 : decode cX12_init 433 = .ok (.aload_n 0, 1) := by decide +kernel
theorem dX12_init_434 : decode cX12_init 434 = .ok (.bipush 32, 2) := by decide +kernel
theorem dX12_init_436 : decode cX12_init 436 = .ok (.newarray .byte, 2) := by decide +kernel
theorem dX12_init_438 : decode cX12_init 438 = .ok (.putfield 206, 3) := by decide +kernel
theorem dX12_init_441 : decode cX12_init 441 = .ok (.aload_n 0, 1) := by decide +kernel
theorem dX12_init_442 : decode cX12_init 442 = .ok (.bipush 32, 2) := by decide +kernel
theorem dX12_init_444 : decode cX12_init 444 = .ok (.newarray .byte, 2) := by decide +kernel
theorem dX12_init_446 : decode cX12_init 446 = .ok (.putfield 209, 3) := by decide +kernel
theorem dX12_init_449 : decode cX12_init 449 = .ok (.aload_n 0, 1) := by decide +kernel
theorem dX12_init_450 : decode cX12_init 450 = .ok (.bipush 16, 2) := by decide +kernel
theorem dX12_init_452 : decode cX12_init 452 = .ok (.newarray .byte, 2) := by decide +kernel
theorem dX12_init_454 : decode cX12_init 454 = .ok (.putfield 212, 3) := by decide +kernel
theorem dX12_init_457 : decode cX12_init 457 = .ok (.aload_n 0, 1) := by decide +kernel
theorem dX12_init_458 : decode cX12_init 458 = .ok (.bipush 16, 2) := by decide +kernel
theorem dX12_init_460 : decode cX12_init 460 = .ok (.newarray .byte, 2) := by decide +kernel
theorem dX12_init_462 : decode cX12_init 462 = .ok (.putfield 215, 3) := by decide +kernel
theorem dX12_init_465 : decode cX12_init 465 = .ok (.aload_n 0, 1) := by decide +kernel
theorem dX12_init_466 : decode cX12_init 466 = .ok (.bipush 8, 2) := by decide +kernel
theorem dX12_init_468 : decode cX12_init 468 = .ok (.newarray .byte, 2) := by decide +kernel
theorem dX12_init_470 : decode cX12_init 470 = .ok (.putfield 218, 3) := by decide +kernel
theorem dX12_init_473 : decode cX12_init 473 = .ok (.aload_n 0, 1) := by decide +kernel
theorem dX12_init_474 : decode cX12_init 474 = .ok (.bipush 12, 2) := by decide +kernel
theorem dX12_init_476 : decode cX12_init 476 = .ok (.newarray .int, 2) := by decide +kernel
theorem dX12_init_478 : decode cX12_init 478 = .ok (.putfield 221, 3) := by decide +kernel
theorem dX12_init_481 : decode cX12_init 481 = .ok (.aload_n 0, 1) := by decide +kernel
theorem dX12_init_482 : decode cX12_init 482 = .ok (.iconst 2, 1) := by decide +kernel
theorem dX12_init_483 : decode cX12_init 483 = .ok (.newarray .boolean, 2) := by decide +kernel
theorem dX12_init_485 : decode cX12_init 485 = .ok (.putfield 224, 3) := by decide +kernel
theorem dX12_init_488 : decode cX12_init 488 = .ok (.aload_n 0, 1) := by decide +kernel
theorem dX12_init_489 : decode cX12_init 489 = .ok (.iconst 2, 1) := by decide +kernel
theorem dX12_init_490 : decode cX12_init 490 = .ok (.newarray .boolean, 2) := by decide +kernel
theorem dX12_init_492 : decode cX12_init 492 = .ok (.putfield 227, 3) := by decide +kernel
theorem dX12_init_495 : decode cX12_init 495 = .ok (.aload_n 0, 1) := by decide +kernel
theorem dX12_init_496 : decode cX12_init 496 = .ok (.iconst 2, 1) := by decide +kernel
theorem dX12_init_497 : decode cX12_init 497 = .ok (.newarray .boolean, 2) := by decide +kernel
theorem dX12_init_499 : decode cX12_init 499 = .ok (.putfield 230, 3) := by decide +kernel
theorem dX12_init_502 : decode cX12_init 502 = .ok (.aload_n 0, 1) := by decide +kernel
theorem dX12_init_503 : decode cX12_init 503 = .ok (.iconst 2, 1) := by decide +kernel
theorem dX12_init_504 : decode cX12_init 504 = .ok (.newarray .boolean, 2) := by decide +kernel
theorem dX12_init_506 : decode cX12_init 506 = .ok (.putfield 233, 3) := by decide +kernel
theorem dX12_init_509 : decode cX12_init 509 = .ok (.aload_n 0, 1) := by decide +kernel
theorem dX12_init_510 : decode cX12_init 510 = .ok (.iconst 2, 1) := by decide +kernel
theorem dX12_init_511 : decode cX12_init 511 = .ok (.newarray .boolean, 2) := by decide +kernel
theorem dX12_init_513 : decode cX12_init 513 = .ok (.putfield 236, 3) := by decide +kernel
theorem dX12_init_516 : decode cX12_init 516 = .ok (.aload_n 0, 1) := by decide +kernel
theorem dX12_init_517 : decode cX12_init 517 = .ok (.iconst 2, 1) := by decide +kernel
theorem dX12_init_518 : decode cX12_init 518 = .ok (.newarray .boolean, 2) := by decide +kernel
theorem dX12_init_520 : decode cX12_init 520 = .ok (.putfield 239, 3) := by decide +kernel
theorem dX12_init_523 : decode cX12_init 523 = .ok (.aload_n 0, 1) := by decide +kernel
theorem dX12_init_524 : decode cX12_init 524 = .ok (.iconst 2, 1) := by decide +kernel
theorem dX12_init_525 : decode cX12_init 525 = .ok (.newarray .boolean, 2) := by decide +kernel
theorem dX12_init_527 : decode cX12_init 527 = .ok (.putfield 242, 3) := by decide +kernel
theorem dX12_init_530 : decode cX12_init 530 = .ok (.aload_n 0, 1) := by decide +kernel
theorem dX12_init_531 : decode cX12_init 531 = .ok (.iconst 2, 1) := by decide +kernel
theorem dX12_init_532 : decode cX12_init 532 = .ok (.newarray .boolean, 2) := by decide +kernel
theorem dX12_init_534 : decode cX12_init 534 = .ok (.putfield 245, 3) := by decide +kernel
theorem dX12_init_537 : decode cX12_init 537 = .ok (.aload_n 0, 1) := by decide +kernel
theorem dX12_init_538 : decode cX12_init 538 = .ok (.iconst 2, 1) := by decide +kernel
theorem dX12_init_539 : decode cX12_init 539 = .ok (.newarray .boolean, 2) := by decide +kernel
theorem dX12_init_541 : decode cX12_init 541 = .ok (.putfield 248, 3) := by decide +kernel
theorem dX12_init_544 : decode cX12_init 544 = .ok (.aload_n 0, 1) := by decide +kernel
theorem dX12_init_545 : decode cX12_init 545 = .ok (.bipush 16, 2) := by decide +kernel
theorem dX12_init_547 : decode cX12_init 547 = .ok (.newarray .byte, 2) := by decide +kernel
theorem dX12_init_549 : decode cX12_init 549 = .ok (.putfield 251, 3) := by decide +kernel
theorem dX12_init_552 : decode cX12_init 552 = .ok (.aload_n 0, 1) := by decide +kernel
theorem dX12_init_553 : decode cX12_init 553 = .ok (.bipush 16, 2) := by decide +kernel
theorem dX12_init_555 : decode cX12_init 555 = .ok (.newarray .byte, 2) := by decide +kernel
theorem dX12_init_557 : decode cX12_init 557 = .ok (.putfield 254, 3) := by decide +kernel
theorem dX12_init_560 : decode cX12_init 560 = .ok (.aload_n 0, 1) := by decide +kernel
theorem dX12_init_561 : decode cX12_init 561 = .ok (.bipush 16, 2) := by decide +kernel
theorem dX12_init_563 : decode cX12_init 563 = .ok (.newarray .byte, 2) := by decide +kernel
theorem dX12_init_565 : decode cX12_init 565 = .ok (.putfield 257, 3) := by decide +kernel
theorem dX12_init_568 : decode cX12_init 568 = .ok (.aload_n 0, 1) := by decide +kernel
theorem dX12_init_569 : decode cX12_init 569 = .ok (.bipush 40, 2) := by decide +kernel
theorem dX12_init_571 : decode cX12_init 571 = .ok (.newarray .byte, 2) := by decide +kernel
theorem dX12_init_573 : decode cX12_init 573 = .ok (.putfield 260, 3) := by decide +kernel
theorem dX12_init_576 : decode cX12_init 576 = .ok (.aload_n 0, 1) := by decide +kernel
theorem dX12_init_577 : decode cX12_init 577 = .ok (.bipush 40, 2) := by decide +kernel
theorem dX12_init_579 : decode cX12_init 579 = .ok (.newarray .byte, 2) := by decide +kernel
theorem dX12_init_581 : decode cX12_init 581 = .ok (.putfield 263, 3) := by decide +kernel
theorem dX12_init_584 : decode cX12_init 584 = .ok (.aload_n 0, 1) := by decide +kernel
theorem dX12_init_585 : decode cX12_init 585 = .ok (.sipush 1536, 3) := by decide +kernel
theorem dX12_init_588 : decode cX12_init 588 = .ok (.newarray .byte, 2) := by decide +kernel
theorem dX12_init_590 : decode cX12_init 590 = .ok (.putfield 266, 3) := by decide +kernel
theorem dX12_init_593 : decode cX12_init 593 = .ok (.aload_n 0, 1) := by decide +kernel
theorem dX12_init_594 : decode cX12_init 594 = .ok (.sipush 192, 3) := by decide +kernel
theorem dX12_init_597 : decode cX12_init 597 = .ok (.newarray .byte, 2) := by decide +kernel
theorem dX12_init_599 : decode cX12_init 599 = .ok (.putfield 269, 3) := by decide +kernel
theorem dX12_init_602 : decode cX12_init 602 = .ok (.aload_n 0, 1) := by decide +kernel
theorem dX12_init_603 : decode cX12_init 603 = .ok (.bipush 16, 2) := by decide +kernel
theorem dX12_init_605 : decode cX12_init 605 = .ok (.newarray .int, 2) := by decide +kernel
theorem dX12_init_607 : decode cX12_init 607 = .ok (.putfield 272, 3) := by decide +kernel
theorem dX12_init_610 : decode cX12_init 610 = .ok (.aload_n 0, 1) := by decide +kernel
theorem dX12_init_611 : decode cX12_init 611 = .ok (.iconst 2, 1) := by decide +kernel
theorem dX12_init_612 : decode cX12_init 612 = .ok (.newarray .int, 2) := by decide +kernel
theorem dX12_init_614 : decode cX12_init 614 = .ok (.putfield 275, 3) := by decide +kernel
theorem dX12_init_617 : decode cX12_init 617 = .ok (.aload_n 0, 1) := by decide +kernel
theorem dX12_init_618 : decode cX12_init 618 = .ok (.iconst 2, 1) := by decide +kernel
theorem dX12_init_619 : decode cX12_init 619 = .ok (.newarray .int, 2) := by decide +kernel
theorem dX12_init_621 : decode cX12_init 621 = .ok (.putfield 278, 3) := by decide +kernel
theorem dX12_init_624 : decode cX12_init 624 = .ok (.aload_n 0, 1) := by decide +kernel
theorem dX12_init_625 : decode cX12_init 625 = .ok (.iconst 2, 1) := by decide +kernel
theorem dX12_init_626 : decode cX12_init 626 = .ok (.newarray .int, 2) := by decide +kernel
theorem dX12_init_628 : decode cX12_init 628 = .ok (.putfield 281, 3) := by decide +kernel
theorem dX12_init_631 : decode cX12_init 631 = .ok (.aload_n 0, 1) := by decide +kernel
theorem dX12_init_632 : decode cX12_init 632 = .ok (.iconst 2, 1) := by decide +kernel
theorem dX12_init_633 : decode cX12_init 633 = .ok (.newarray .int, 2) := by decide +kernel
theorem dX12_init_635 : decode cX12_init 635 = .ok (.putfield 284, 3) := by decide +kernel
theorem dX12_init_638 : decode cX12_init 638 = .ok (.aload_n 0, 1) := by decide +kernel
theorem dX12_init_639 : decode cX12_init 639 = .ok (.iconst 2, 1) := by decide +kernel
theorem dX12_init_640 : decode cX12_init 640 = .ok (.newarray .boolean, 2) := by decide +kernel
theorem dX12_init_642 : decode cX12_init 642 = .ok (.putfield 287, 3) := by decide +kernel
theorem dX12_init_645 : decode cX12_init 645 = .ok (.aload_n 0, 1) := by decide +kernel
theorem dX12_init_646 : decode cX12_init 646 = .ok (.bipush 96, 2) := by decide +kernel
theorem dX12_init_648 : decode cX12_init 648 = .ok (.newarray .byte, 2) := by decide +kernel
theorem dX12_init_650 : decode cX12_init 650 = .ok (.putfield 290, 3) := by decide +kernel
theorem dX12_init_653 : decode cX12_init 653 = .ok (.aload_n 0, 1) := by decide +kernel
theorem dX12_init_654 : decode cX12_init 654 = .ok (.bipush 96, 2) := by decide +kernel
theorem dX12_init_656 : decode cX12_init 656 = .ok (.newarray .byte, 2) := by decide +kernel
theorem dX12_init_658 : decode cX12_init 658 = .ok (.putfield 293, 3) := by decide +kernel
theorem dX12_init_661 : decode cX12_init 661 = .ok (.aload_n 0, 1) := by decide +kernel
theorem dX12_init_662 : decode cX12_init 662 = .ok (.iconst 2, 1) := by decide +kernel
theorem dX12_init_663 : decode cX12_init 663 = .ok (.newarray .int, 2) := by decide +kernel
theorem dX12_init_665 : decode cX12_init 665 = .ok (.putfield 296, 3) := by decide +kernel
theorem dX12_init_668 : decode cX12_init 668 = .ok (.aload_n 0, 1) := by decide +kernel
theorem dX12_init_669 : decode cX12_init 669 = .ok (.iconst 2, 1) := by decide +kernel
theorem dX12_init_670 : decode cX12_init 670 = .ok (.newarray .int, 2) := by decide +kernel
theorem dX12_init_672 : decode cX12_init 672 = .ok (.putfield 299, 3) := by decide +kernel
theorem dX12_init_675 : decode cX12_init 675 = .ok (.aload_n 0, 1) := by decide +kernel
theorem dX12_init_676 : decode cX12_init 676 = .ok (.iconst 2, 1) := by decide +kernel
theorem dX12_init_677 : decode cX12_init 677 = .ok (.newarray .int, 2) := by decide +kernel
theorem dX12_init_679 : decode cX12_init 679 = .ok (.putfield 302, 3) := by decide +kernel
theorem dX12_init_682 : decode cX12_init 682 = .ok (.aload_n 0, 1) := by decide +kernel
theorem dX12_init_683 : decode cX12_init 683 = .ok (.bipush 28, 2) := by decide +kernel
theorem dX12_init_685 : decode cX12_init 685 = .ok (.newarray .byte, 2) := by decide +kernel
theorem dX12_init_687 : decode cX12_init 687 = .ok (.putfield 305, 3) := by decide +kernel
theorem dX12_init_690 : decode cX12_init 690 = .ok (.aload_n 0, 1) := by decide +kernel
theorem dX12_init_691 : decode cX12_init 691 = .ok (.bipush 32, 2) := by decide +kernel
theorem dX12_init_693 : decode cX12_init 693 = .ok (.newarray .byte, 2) := by decide +kernel
theorem dX12_init_695 : decode cX12_init 695 = .ok (.putfield 308, 3) := by decide +kernel
theorem dX12_init_698 : decode cX12_init 698 = .ok (.aload_n 0, 1) := by decide +kernel
theorem dX12_init_699 : decode cX12_init 699 = .ok (.bipush 32, 2) := by decide +kernel
theorem dX12_init_701 : decode cX12_init 701 = .ok (.newarray .byte, 2) := by decide +kernel
theorem dX12_init_703 : decode cX12_init 703 = .ok (.putfield 311, 3) := by decide +kernel
theorem dX12_init_706 : decode cX12_init 706 = .ok (.aload_n 0, 1) := by decide +kernel
theorem dX12_init_707 : decode cX12_init 707 = .ok (.bipush 16, 2) := by decide +kernel
theorem dX12_init_709 : decode cX12_init 709 = .ok (.newarray .byte, 2) := by decide +kernel
theorem dX12_init_711 : decode cX12_init 711 = .ok (.putfield 314, 3) := by decide +kernel
theorem dX12_init_714 : decode cX12_init 714 = .ok (.aload_n 0, 1) := by decide +kernel
theorem dX12_init_715 : decode cX12_init 715 = .ok (.bipush 16, 2) := by decide +kernel
theorem dX12_init_717 : decode cX12_init 717 = .ok (.newarray .byte, 2) := by decide +kernel
theorem dX12_init_719 : decode cX12_init 719 = .ok (.putfield 317, 3) := by decide +kernel
theorem dX12_init_722 : decode cX12_init 722 = .ok (.aload_n 0, 1) := by decide +kernel
theorem dX12_init_723 : decode cX12_init 723 = .ok (.iconst 2, 1) := by decide +kernel
theorem dX12_init_724 : decode cX12_init 724 = .ok (.newarray .int, 2) := by decide +kernel
theorem dX12_init_726 : decode cX12_init 726 = .ok (.putfield 320, 3) := by decide +kernel
theorem dX12_init_729 : decode cX12_init 729 = .ok (.aload_n 0, 1) := by decide +kernel
theorem dX12_init_730 : decode cX12_init 730 = .ok (.bipush 40, 2) := by decide +kernel
theorem dX12_init_732 : decode cX12_init 732 = .ok (.newarray .int, 2) := by decide +kernel
theorem dX12_init_734 : decode cX12_init 734 = .ok (.putfield 323, 3) := by decide +kernel
theorem dX12_init_737 : decode cX12_init 737 = .ok (.aload_n 0, 1) := by decide +kernel
theorem dX12_init_738 : decode cX12_init 738 = .ok (.bipush 40, 2) := by decide +kernel
theorem dX12_init_740 : decode cX12_init 740 = .ok (.newarray .int, 2) := by decide +kernel
theorem dX12_init_742 : decode cX12_init 742 = .ok (.putfield 326, 3) := by decide +kernel
theorem dX12_init_745 : decode cX12_init 745 = .ok (.aload_n 0, 1) := by decide +kernel
theorem dX12_init_746 : decode cX12_init 746 = .ok (.bipush 40, 2) := by decide +kernel
theorem dX12_init_748 : decode cX12_init 748 = .ok (.newarray .int, 2) := by decide +kernel
theorem dX12_init_750 : decode cX12_init 750 = .ok (.putfield 329, 3) := by decide +kernel
theorem dX12_init_753 : decode cX12_init 753 = .ok (.aload_n 0, 1) := by decide +kernel
theorem dX12_init_754 : decode cX12_init 754 = .ok (.iconst 2, 1) := by decide +kernel
theorem dX12_init_755 : decode cX12_init 755 = .ok (.newarray .int, 2) := by decide +kernel
theorem dX12_init_757 : decode cX12_init 757 = .ok (.putfield 332, 3) := by decide +kernel
theorem dX12_init_760 : decode cX12_init 760 = .ok (.aload_n 0, 1) := by decide +kernel
theorem dX12_init_761 : decode cX12_init 761 = .ok (.iconst 2, 1) := by decide +kernel
theorem dX12_init_762 : decode cX12_init 762 = .ok (.newarray .int, 2) := by decide +kernel
theorem dX12_init_764 : decode cX12_init 764 = .ok (.putfield 335, 3) := by decide +kernel
theorem dX12_init_767 : decode cX12_init 767 = .ok (.aload_n 0, 1) := by decide +kernel
theorem dX12_init_768 : decode cX12_init 768 = .ok (.iconst 2, 1) := by decide +kernel
theorem dX12_init_769 : decode cX12_init 769 = .ok (.newarray .int, 2) := by decide +kernel
theorem dX12_init_771 : decode cX12_init 771 = .ok (.putfield 338, 3) := by decide +kernel
theorem dX12_init_774 : decode cX12_init 774 = .ok (.aload_n 0, 1) := by decide +kernel
theorem dX12_init_775 : decode cX12_init 775 = .ok (.sipush 1600, 3) := by decide +kernel
theorem dX12_init_778 : decode cX12_init 778 = .ok (.newarray .byte, 2) := by decide +kernel
theorem dX12_init_780 : decode cX12_init 780 = .ok (.putfield 341, 3) := by decide +kernel
theorem dX12_init_783 : decode cX12_init 783 = .ok (.aload_n 0, 1) := by decide +kernel
theorem dX12_init_784 : decode cX12_init 784 = .ok (.sipush 768, 3) := by decide +kernel
theorem dX12_init_787 : decode cX12_init 787 = .ok (.newarray .byte, 2) := by decide +kernel
theorem dX12_init_789 : decode cX12_init 789 = .ok (.putfield 344, 3) := by decide +kernel
theorem dX12_init_792 : decode cX12_init 792 = .ok (.aload_n 0, 1) := by decide +kernel
theorem dX12_init_793 : decode cX12_init 793 = .ok (.sipush 800, 3) := by decide +kernel
theorem dX12_init_796 : decode cX12_init 796 = .ok (.newarray .byte, 2) := by decide +kernel
theorem dX12_init_798 : decode cX12_init 798 = .ok (.putfield 347, 3) := by decide +kernel
theorem dX12_init_801 : decode cX12_init 801 = .ok (.aload_n 0, 1) := by decide +kernel
theorem dX12_init_802 : decode cX12_init 802 = .ok (.bipush 12, 2) := by decide +kernel
theorem dX12_init_804 : decode cX12_init 804 = .ok (.newarray .int, 2) := by decide +kernel
theorem dX12_init_806 : decode cX12_init 806 = .ok (.putfield 350, 3) := by decide +kernel
theorem dX12_init_809 : decode cX12_init 809 = .ok (.aload_n 0, 1) := by decide +kernel
theorem dX12_init_810 : decode cX12_init 810 = .ok (.bipush 12, 2) := by decide +kernel
theorem dX12_init_812 : decode cX12_init 812 = .ok (.newarray .int, 2) := by decide +kernel
theorem dX12_init_814 : decode cX12_init 814 = .ok (.putfield 353, 3) := by decide +kernel
theorem dX12_init_817 : decode cX12_init 817 = .ok (.aload_n 0, 1) := by decide +kernel
theorem dX12_init_818 : decode cX12_init 818 = .ok (.bipush 12, 2) := by decide +kernel
theorem dX12_init_820 : decode cX12_init 820 = .ok (.newarray .int, 2) := by decide +kernel
theorem dX12_init_822 : decode cX12_init 822 = .ok (.putfield 356, 3) := by decide +kernel
theorem dX12_init_825 : decode cX12_init 825 = .ok (.aload_n 0, 1) := by decide +kernel
theorem dX12_init_826 : decode cX12_init 826 = .ok (.bipush 20, 2) := by decide +kernel
theorem dX12_init_828 : decode cX12_init 828 = .ok (.newarray .int, 2) := by decide +kernel
theorem dX12_init_830 : decode cX12_init 830 = .ok (.putfield 359, 3) := by decide +kernel
theorem dX12_init_833 : decode cX12_init 833 = .ok (.aload_n 0, 1) := by decide +kernel
theorem dX12_init_834 : decode cX12_init 834 = .ok (.iconst 2, 1) := by decide +kernel
theorem dX12_init_835 : decode cX12_init 835 = .ok (.newarray .boolean, 2) := by decide +kernel
theorem dX12_init_837 : decode cX12_init 837 = .ok (.putfield 362, 3) := by decide +kernel
theorem dX12_init_840 : decode cX12_init 840 = .ok (.aload_n 0, 1) := by decide +kernel
theorem dX12_init_841 : decode cX12_init 841 = .ok (.iconst 2, 1) := by decide +kernel
theorem dX12_init_842 : decode cX12_init 842 = .ok (.newarray .int, 2) := by decide +kernel
theorem dX12_init_844 : decode cX12_init 844 = .ok (.putfield 365, 3) := by decide +kernel
theorem dX12_init_847 : decode cX12_init 847 = .ok (.aload_n 0, 1) := by decide +kernel
theorem dX12_init_848 : decode cX12_init 848 = .ok (.iconst 2, 1) := by decide +kernel
theorem dX12_init_849 : decode cX12_init 849 = .ok (.newarray .int, 2) := by decide +kernel
theorem dX12_init_851 : decode cX12_init 851 = .ok (.putfield 368, 3) := by decide +kernel
theorem dX12_init_854 : decode cX12_init 854 = .ok (.aload_n 0, 1) := by decide +kernel
theorem dX12_init_855 : decode cX12_init 855 = .ok (.iconst 2, 1) := by decide +kernel
theorem dX12_init_856 : decode cX12_init 856 = .ok (.newarray .int, 2) := by decide +kernel
theorem dX12_init_858 : decode cX12_init 858 = .ok (.putfield 371, 3) := by decide +kernel
theorem dX12_init_861 : decode cX12_init 861 = .ok (.aload_n 0, 1) := by decide +kernel
theorem dX12_init_862 : decode cX12_init 862 = .ok (.iconst 2, 1) := by decide +kernel
theorem dX12_init_863 : decode cX12_init 863 = .ok (.newarray .int, 2) := by decide +kernel
theorem dX12_init_865 : decode cX12_init 865 = .ok (.putfield 374, 3) := by decide +kernel
theorem dX12_init_868 : decode cX12_init 868 = .ok (.aload_n 0, 1) := by decide +kernel
theorem dX12_init_869 : decode cX12_init 869 = .ok (.iconst 2, 1) := by decide +kernel
theorem dX12_init_870 : decode cX12_init 870 = .ok (.newarray .int, 2) := by decide +kernel
theorem dX12_init_872 : decode cX12_init 872 = .ok (.putfield 377, 3) := by decide +kernel
theorem dX12_init_875 : decode cX12_init 875 = .ok (.aload_n 0, 1) := by decide +kernel
theorem dX12_init_876 : decode cX12_init 876 = .ok (.iconst 2, 1) := by decide +kernel
theorem dX12_init_877 : decode cX12_init 877 = .ok (.newarray .int, 2) := by decide +kernel
theorem dX12_init_879 : decode cX12_init 879 = .ok (.putfield 380, 3) := by decide +kernel
theorem dX12_init_882 : decode cX12_init 882 = .ok (.aload_n 0, 1) := by decide +kernel
theorem dX12_init_883 : decode cX12_init 883 = .ok (.bipush 80, 2) := by decide +kernel
theorem dX12_init_885 : decode cX12_init 885 = .ok (.newarray .byte, 2) := by decide +kernel
theorem dX12_init_887 : decode cX12_init 887 = .ok (.putfield 383, 3) := by decide +kernel
theorem dX12_init_890 : decode cX12_init 890 = .ok (.aload_n 0, 1) := by decide +kernel
theorem dX12_init_891 : decode cX12_init 891 = .ok (.invokevirtual 386, 3) := by decide +kernel
theorem dX12_init_894 : decode cX12_init 894 = .ok (.iconst 0, 1) := by decide +kernel
theorem dX12_init_895 : decode cX12_init 895 = .ok (.istore 5, 2) := by decide +kernel
theorem dX12_init_897 : decode cX12_init 897 = .ok (.iload 5, 2) := by decide +kernel
theorem dX12_init_899 : decode cX12_init 899 = .ok (.iconst 2, 1) := by decide +kernel
theorem dX12_init_900 : decode cX12_init 900 = .ok (.if_icmp .ge 62, 3) := by decide +kernel
theorem dX12_init_903 : decode cX12_init 903 = .ok (.aload_n 0, 1) := by decide +kernel
theorem dX12_init_904 : decode cX12_init 904 = .ok (.getfield 60, 3) := by decide +kernel
theorem dX12_init_907 : decode cX12_init 907 = .ok (.iload 5, 2) := by decide +kernel
theorem dX12_init_909 : decode cX12_init 909 = .ok (.iload 5, 2) := by decide +kernel
theorem dX12_init_911 : decode cX12_init 911 = .ok (.ifCond .ne 7, 3) := by decide +kernel
theorem dX12_init_914 : decode cX12_init 914 = .ok (.lload_n 1, 1) := by decide +kernel
theorem dX12_init_915 : decode cX12_init 915 = .ok (.goto 4, 3) := by decide +kernel
theorem dX12_init_918 : decode cX12_init 918 = .ok (.lload_n 3, 1) := by decide +kernel
theorem dX12_init_919 : decode cX12_init 919 = .ok (.ldc2_w 389, 3) := by decide +kernel
theorem dX12_init_922 : decode cX12_init 922 = .ok (.land, 1) := by decide +kernel
theorem dX12_init_923 : decode cX12_init 923 = .ok (.lastore, 1) := by decide +kernel
theorem dX12_init_924 : decode cX12_init 924 = .ok (.aload_n 0, 1) := by decide +kernel
theorem dX12_init_925 : decode cX12_init 925 = .ok (.getfield 48, 3) := by decide +kernel
theorem dX12_init_928 : decode cX12_init 928 = .ok (.iload 5, 2) := by decide +kernel
theorem dX12_init_930 : decode cX12_init 930 = .ok (.iload 5, 2) := by decide +kernel
theorem dX12_init_932 : decode cX12_init 932 = .ok (.iastore, 1) := by decide +kernel
theorem dX12_init_933 : decode cX12_init 933 = .ok (.aload_n 0, 1) := by decide +kernel
theorem dX12_init_934 : decode cX12_init 934 = .ok (.getfield 335, 3) := by decide +kernel
theorem dX12_init_937 : decode cX12_init 937 = .ok (.iload 5, 2) := by decide +kernel
theorem dX12_init_939 : decode cX12_init 939 = .ok (.bipush 23, 2) := by decide +kernel
theorem dX12_init_941 : decode cX12_init 941 = .ok (.iastore, 1) := by decide +kernel
theorem dX12_init_942 : decode cX12_init 942 = .ok (.aload_n 0, 1) := by decide +kernel
theorem dX12_init_943 : decode cX12_init 943 = .ok (.getfield 299, 3) := by decide +kernel
theorem dX12_init_946 : decode cX12_init 946 = .ok (.iload 5, 2) := by decide +kernel
theorem dX12_init_948 : decode cX12_init 948 = .ok (.iconst (-1), 1) := by decide +kernel
theorem dX12_init_949 : decode cX12_init 949 = .ok (.iastore, 1) := by decide +kernel
theorem dX12_init_950 : decode cX12_init 950 = .ok (.aload_n 0, 1) := by decide +kernel
theorem dX12_init_951 : decode cX12_init 951 = .ok (.iload 5, 2) := by decide +kernel
theorem dX12_init_953 : decode cX12_init 953 = .ok (.invokevirtual 391, 3) := by decide +kernel
theorem dX12_init_956 : decode cX12_init 956 = .ok (.iinc 5 1, 3) := by decide +kernel
theorem dX12_init_959 : decode cX12_init 959 = .ok (.goto (-62), 3) := by decide +kernel
theorem dX12_init_962 : decode cX12_init 962 = .ok (.return_, 1) := by decide +kernel
theorem dX12_fresh_0 : decode cX12_fresh 0 = .ok (.aload_n 0, 1) := by decide +kernel
theorem dX12_fresh_1 : decode cX12_fresh 1 = .ok (.getfield 118, 3) := by decide +kernel
theorem dX12_fresh_4 : decode cX12_fresh 4 = .ok (.iload_n 1, 1) := by decide +kernel
theorem dX12_fresh_5 : decode cX12_fresh 5 = .ok (.iconst (-1), 1) := by decide +kernel
theorem dX12_fresh_6 : decode cX12_fresh 6 = .ok (.iastore, 1) := by decide +kernel
theorem dX12_fresh_7 : decode cX12_fresh 7 = .ok (.aload_n 0, 1) := by decide +kernel
theorem dX12_fresh_8 : decode cX12_fresh 8 = .ok (.getfield 133, 3) := by decide +kernel
theorem dX12_fresh_11 : decode cX12_fresh 11 = .ok (.iload_n 1, 1) := by decide +kernel
theorem dX12_fresh_12 : decode cX12_fresh 12 = .ok (.iconst (-1), 1) := by decide +kernel
theorem dX12_fresh_13 : decode cX12_fresh 13 = .ok (.iastore, 1) := by decide +kernel
theorem dX12_fresh_14 : decode cX12_fresh 14 = .ok (.aload_n 0, 1) := by decide +kernel
theorem dX12_fresh_15 : decode cX12_fresh 15 = .ok (.getfield 136, 3) := by decide +kernel
theorem dX12_fresh_18 : decode cX12_fresh 18 = .ok (.iload_n 1, 1) := by decide +kernel
theorem dX12_fresh_19 : decode cX12_fresh 19 = .ok (.iconst (-1), 1) := by decide +kernel
theorem dX12_fresh_20 : decode cX12_fresh 20 = .ok (.iastore, 1) := by decide +kernel
theorem dX12_fresh_21 : decode cX12_fresh 21 = .ok (.aload_n 0, 1) := by decide +kernel
theorem dX12_fresh_22 : decode cX12_fresh 22 = .ok (.getfield 145, 3) := by decide +kernel
theorem dX12_fresh_25 : decode cX12_fresh 25 = .ok (.iload_n 1, 1) := by decide +kernel
theorem dX12_fresh_26 : decode cX12_fresh 26 = .ok (.iconst 0, 1) := by decide +kernel
theorem dX12_fresh_27 : decode cX12_fresh 27 = .ok (.bastore, 1) := by decide +kernel
theorem dX12_fresh_28 : decode cX12_fresh 28 = .ok (.aload_n 0, 1) := by decide +kernel
theorem dX12_fresh_29 : decode cX12_fresh 29 = .ok (.getfield 149, 3) := by decide +kernel
theorem dX12_fresh_32 : decode cX12_fresh 32 = .ok (.iload_n 1, 1) := by decide +kernel
theorem dX12_fresh_33 : decode cX12_fresh 33 = .ok (.iconst 0, 1) := by decide +kernel
theorem dX12_fresh_34 : decode cX12_fresh 34 = .ok (.bastore, 1) := by decide +kernel
theorem dX12_fresh_35 : decode cX12_fresh 35 = .ok (.aload_n 0, 1) := by decide +kernel
theorem dX12_fresh_36 : decode cX12_fresh 36 = .ok (.getfield 182, 3) := by decide +kernel
theorem dX12_fresh_39 : decode cX12_fresh 39 = .ok (.iload_n 1, 1) := by decide +kernel
theorem dX12_fresh_40 : decode cX12_fresh 40 = .ok (.iconst 0, 1) := by decide +kernel
theorem dX12_fresh_41 : decode cX12_fresh 41 = .ok (.iastore, 1) := by decide +kernel
theorem dX12_fresh_42 : decode cX12_fresh 42 = .ok (.aload_n 0, 1) := by decide +kernel
theorem dX12_fresh_43 : decode cX12_fresh 43 = .ok (.getfield 185, 3) := by decide +kernel
theorem dX12_fresh_46 : decode cX12_fresh 46 = .ok (.iload_n 1, 1) := by decide +kernel
theorem dX12_fresh_47 : decode cX12_fresh 47 = .ok (.iconst 0, 1) := by decide +kernel
theorem dX12_fresh_48 : decode cX12_fresh 48 = .ok (.iastore, 1) := by decide +kernel
theorem dX12_fresh_49 : decode cX12_fresh 49 = .ok (.aload_n 0, 1) := by decide +kernel
theorem dX12_fresh_50 : decode cX12_fresh 50 = .ok (.getfield 188, 3) := by decide +kernel
theorem dX12_fresh_53 : decode cX12_fresh 53 = .ok (.iload_n 1, 1) := by decide +kernel
theorem dX12_fresh_54 : decode cX12_fresh 54 = .ok (.iconst 0, 1) := by decide +kernel
theorem dX12_fresh_55 : decode cX12_fresh 55 = .ok (.iastore, 1) := by decide +kernel
theorem dX12_fresh_56 : decode cX12_fresh 56 = .ok (.aload_n 0, 1) := by decide +kernel
theorem dX12_fresh_57 : decode cX12_fresh 57 = .ok (.getfield 191, 3) := by decide +kernel
theorem dX12_fresh_60 : decode cX12_fresh 60 = .ok (.iload_n 1, 1) := by decide +kernel
theorem dX12_fresh_61 : decode cX12_fresh 61 = .ok (.iconst 0, 1) := by decide +kernel
theorem dX12_fresh_62 : decode cX12_fresh 62 = .ok (.iastore, 1) := by decide +kernel
theorem dX12_fresh_63 : decode cX12_fresh 63 = .ok (.aload_n 0, 1) := by decide +kernel
theorem dX12_fresh_64 : decode cX12_fresh 64 = .ok (.getfield 224, 3) := by decide +kernel
theorem dX12_fresh_67 : decode cX12_fresh 67 = .ok (.iload_n 1, 1) := by decide +kernel
theorem dX12_fresh_68 : decode cX12_fresh 68 = .ok (.iconst 0, 1) := by decide +kernel
theorem dX12_fresh_69 : decode cX12_fresh 69 = .ok (.bastore, 1) := by decide +kernel
theorem dX12_fresh_70 : decode cX12_fresh 70 = .ok (.aload_n 0, 1) := by decide +kernel
theorem dX12_fresh_71 : decode cX12_fresh 71 = .ok (.getfield 227, 3) := by decide +kernel
theorem dX12_fresh_74 : decode cX12_fresh 74 = .ok (.iload_n 1, 1) := by decide +kernel
theorem dX12_fresh_75 : decode cX12_fresh 75 = .ok (.iconst 0, 1) := by decide +kernel
theorem dX12_fresh_76 : decode cX12_fresh 76 = .ok (.bastore, 1) := by decide +kernel
theorem dX12_fresh_77 : decode cX12_fresh 77 = .ok (.aload_n 0, 1) := by decide +kernel
theorem dX12_fresh_78 : decode cX12_fresh 78 = .ok (.getfield 230, 3) := by decide +kernel
theorem dX12_fresh_81 : decode cX12_fresh 81 = .ok (.iload_n 1, 1) := by decide +kernel
theorem dX12_fresh_82 : decode cX12_fresh 82 = .ok (.iconst 0, 1) := by decide +kernel
theorem dX12_fresh_83 : decode cX12_fresh 83 = .ok (.bastore, 1) := by decide +kernel
theorem dX12_fresh_84 : decode cX12_fresh 84 = .ok (.aload_n 0, 1) := by decide +kernel
theorem dX12_fresh_85 : decode cX12_fresh 85 = .ok (.getfield 233, 3) := by decide +kernel
theorem dX12_fresh_88 : decode cX12_fresh 88 = .ok (.iload_n 1, 1) := by decide +kernel
theorem dX12_fresh_89 : decode cX12_fresh 89 = .ok (.iconst 0, 1) := by decide +kernel
theorem dX12_fresh_90 : decode cX12_fresh 90 = .ok (.bastore, 1) := by decide +kernel
theorem dX12_fresh_91 : decode cX12_fresh 91 = .ok (.aload_n 0, 1) := by decide +kernel
theorem dX12_fresh_92 : decode cX12_fresh 92 = .ok (.getfield 236, 3) := by decide +kernel
theorem dX12_fresh_95 : decode cX12_fresh 95 = .ok (.iload_n 1, 1) := by decide +kernel
theorem dX12_fresh_96 : decode cX12_fresh 96 = .ok (.iconst 0, 1) := by decide +kernel
theorem dX12_fresh_97 : decode cX12_fresh 97 = .ok (.bastore, 1) := by decide +kernel
theorem dX12_fresh_98 : decode cX12_fresh 98 = .ok (.aload_n 0, 1) := by decide +kernel
theorem dX12_fresh_99 : decode cX12_fresh 99 = .ok (.getfield 194, 3) := by decide +kernel
theorem dX12_fresh_102 : decode cX12_fresh 102 = .ok (.iload_n 1, 1) := by decide +kernel
theorem dX12_fresh_103 : decode cX12_fresh 103 = .ok (.iconst 0, 1) := by decide +kernel
theorem dX12_fresh_104 : decode cX12_fresh 104 = .ok (.iastore, 1) := by decide +kernel
theorem dX12_fresh_105 : decode cX12_fresh 105 = .ok (.aload_n 0, 1) := by decide +kernel
theorem dX12_fresh_106 : decode cX12_fresh 106 = .ok (.getfield 197, 3) := by decide +kernel
theorem dX12_fresh_109 : decode cX12_fresh 109 = .ok (.iload_n 1, 1) := by decide +kernel
theorem dX12_fresh_110 : decode cX12_fresh 110 = .ok (.iconst 0, 1) := by decide +kernel
theorem dX12_fresh_111 : decode cX12_fresh 111 = .ok (.iastore, 1) := by decide +kernel
theorem dX12_fresh_112 : decode cX12_fresh 112 = .ok (.aload_n 0, 1) := by decide +kernel
theorem dX12_fresh_113 : decode cX12_fresh 113 = .ok (.getfield 239, 3) := by decide +kernel
theorem dX12_fresh_116 : decode cX12_fresh 116 = .ok (.iload_n 1, 1) := by decide +kernel
theorem dX12_fresh_117 : decode cX12_fresh 117 = .ok (.iconst 0, 1) := by decide +kernel
theorem dX12_fresh_118 : decode cX12_fresh 118 = .ok (.bastore, 1) := by decide +kernel
theorem dX12_fresh_119 : decode cX12_fresh 119 = .ok (.aload_n 0, 1) := by decide +kernel
theorem dX12_fresh_120 : decode cX12_fresh 120 = .ok (.getfield 242, 3) := by decide +kernel
theorem dX12_fresh_123 : decode cX12_fresh 123 = .ok (.iload_n 1, 1) := by decide +kernel
theorem dX12_fresh_124 : decode cX12_fresh 124 = .ok (.iconst 0, 1) := by decide +kernel
theorem dX12_fresh_125 : decode cX12_fresh 125 = .ok (.bastore, 1) := by decide +kernel
theorem dX12_fresh_126 : decode cX12_fresh 126 = .ok (.aload_n 0, 1) := by decide +kernel
theorem dX12_fresh_127 : decode cX12_fresh 127 = .ok (.getfield 248, 3) := by decide +kernel
theorem dX12_fresh_130 : decode cX12_fresh 130 = .ok (.iload_n 1, 1) := by decide +kernel
theorem dX12_fresh_131 : decode cX12_fresh 131 = .ok (.iconst 0, 1) := by decide +kernel
theorem dX12_fresh_132 : decode cX12_fresh 132 = .ok (.bastore, 1) := by decide +kernel
theorem dX12_fresh_133 : decode cX12_fresh 133 = .ok (.aload_n 0, 1) := by decide +kernel
theorem dX12_fresh_134 : decode cX12_fresh 134 = .ok (.getfield 275, 3) := by decide +kernel
theorem dX12_fresh_137 : decode cX12_fresh 137 = .ok (.iload_n 1, 1) := by decide +kernel
theorem dX12_fresh_138 : decode cX12_fresh 138 = .ok (.iconst 0, 1) := by decide +kernel
theorem dX12_fresh_139 : decode cX12_fresh 139 = .ok (.iastore, 1) := by decide +kernel
theorem dX12_fresh_140 : decode cX12_fresh 140 = .ok (.aload_n 0, 1) := by decide +kernel
theorem dX12_fresh_141 : decode cX12_fresh 141 = .ok (.getfield 278, 3) := by decide +kernel
theorem dX12_fresh_144 : decode cX12_fresh 144 = .ok (.iload_n 1, 1) := by decide +kernel
theorem dX12_fresh_145 : decode cX12_fresh 145 = .ok (.iconst 0, 1) := by decide +kernel
theorem dX12_fresh_146 : decode cX12_fresh 146 = .ok (.iastore, 1) := by decide +kernel
theorem dX12_fresh_147 : decode cX12_fresh 147 = .ok (.aload_n 0, 1) := by decide +kernel
theorem dX12_fresh_148 : decode cX12_fresh 148 = .ok (.getfield 287, 3) := by decide +kernel
theorem dX12_fresh_151 : decode cX12_fresh 151 = .ok (.iload_n 1, 1) := by decide +kernel
theorem dX12_fresh_152 : decode cX12_fresh 152 = .ok (.iconst 0, 1) := by decide +kernel
theorem dX12_fresh_153 : decode cX12_fresh 153 = .ok (.bastore, 1) := by decide +kernel
theorem dX12_fresh_154 : decode cX12_fresh 154 = .ok (.aload_n 0, 1) := by decide +kernel
theorem dX12_fresh_155 : decode cX12_fresh 155 = .ok (.getfield 296, 3) := by decide +kernel
theorem dX12_fresh_158 : decode cX12_fresh 158 = .ok (.iload_n 1, 1) := by decide +kernel
theorem dX12_fresh_159 : decode cX12_fresh 159 = .ok (.iconst 0, 1) := by decide +kernel
theorem dX12_fresh_160 : decode cX12_fresh 160 = .ok (.iastore, 1) := by decide +kernel
theorem dX12_fresh_161 : decode cX12_fresh 161 = .ok (.aload_n 0, 1) := by decide +kernel
theorem dX12_fresh_162 : decode cX12_fresh 162 = .ok (.getfield 332, 3) := by decide +kernel
theorem dX12_fresh_165 : decode cX12_fresh 165 = .ok (.iload_n 1, 1) := by decide +kernel
theorem dX12_fresh_166 : decode cX12_fresh 166 = .ok (.bipush 23, 2) := by decide +kernel
theorem dX12_fresh_168 : decode cX12_fresh 168 = .ok (.iastore, 1) := by decide +kernel
theorem dX12_fresh_169 : decode cX12_fresh 169 = .ok (.aload_n 0, 1) := by decide +kernel
theorem dX12_fresh_170 : decode cX12_fresh 170 = .ok (.getfield 338, 3) := by decide +kernel
theorem dX12_fresh_173 : decode cX12_fresh 173 = .ok (.iload_n 1, 1) := by decide +kernel
theorem dX12_fresh_174 : decode cX12_fresh 174 = .ok (.iconst 0, 1) := by decide +kernel
theorem dX12_fresh_175 : decode cX12_fresh 175 = .ok (.iastore, 1) := by decide +kernel
theorem dX12_fresh_176 : decode cX12_fresh 176 = .ok (.aload_n 0, 1) := by decide +kernel
theorem dX12_fresh_177 : decode cX12_fresh 177 = .ok (.getfield 362, 3) := by decide +kernel
theorem dX12_fresh_180 : decode cX12_fresh 180 = .ok (.iload_n 1, 1) := by decide +kernel
theorem dX12_fresh_181 : decode cX12_fresh 181 = .ok (.iconst 0, 1) := by decide +kernel
theorem dX12_fresh_182 : decode cX12_fresh 182 = .ok (.bastore, 1) := by decide +kernel
theorem dX12_fresh_183 : decode cX12_fresh 183 = .ok (.aload_n 0, 1) := by decide +kernel
theorem dX12_fresh_184 : decode cX12_fresh 184 = .ok (.getfield 365, 3) := by decide +kernel
theorem dX12_fresh_187 : decode cX12_fresh 187 = .ok (.iload_n 1, 1) := by decide +kernel
theorem dX12_fresh_188 : decode cX12_fresh 188 = .ok (.iconst (-1), 1) := by decide +kernel
theorem dX12_fresh_189 : decode cX12_fresh 189 = .ok (.iastore, 1) := by decide +kernel
theorem dX12_fresh_190 : decode cX12_fresh 190 = .ok (.return_, 1) := by decide +kernel
theorem dX12_isLinked_0 : decode cX12_isLinked 0 = .ok (.aload_n 0, 1) := by decide +kernel
theorem dX12_isLinked_1 : decode cX12_isLinked 1 = .ok (.getfield 45, 3) := by decide +kernel
theorem dX12_isLinked_4 : decode cX12_isLinked 4 = .ok (.iload_n 1, 1) := by decide +kernel
theorem dX12_isLinked_5 : decode cX12_isLinked 5 = .ok (.iaload, 1) := by decide +kernel
theorem dX12_isLinked_6 : decode cX12_isLinked 6 = .ok (.iconst 4, 1) := by decide +kernel
theorem dX12_isLinked_7 : decode cX12_isLinked 7 = .ok (.if_icmp .eq 13, 3) := by decide +kernel
theorem dX12_isLinked_10 : decode cX12_isLinked 10 = .ok (.aload_n 0, 1) := by decide +kernel
theorem dX12_isLinked_11 : decode cX12_isLinked 11 = .ok (.getfield 45, 3) := by decide +kernel
theorem dX12_isLinked_14 : decode cX12_isLinked 14 = .ok (.iload_n 1, 1) := by decide +kernel
theorem dX12_isLinked_15 : decode cX12_isLinked 15 = .ok (.iaload, 1) := by decide +kernel
theorem dX12_isLinked_16 : decode cX12_isLinked 16 = .ok (.iconst 5, 1) := by decide +kernel
theorem dX12_isLinked_17 : decode cX12_isLinked 17 = .ok (.if_icmp .ne 7, 3) := by decide +kernel
theorem dX12_isLinked_20 : decode cX12_isLinked 20 = .ok (.iconst 1, 1) := by decide +kernel
theorem dX12_isLinked_21 : decode cX12_isLinked 21 = .ok (.goto 4, 3) := by decide +kernel
theorem dX12_isLinked_24 : decode cX12_isLinked 24 = .ok (.iconst 0, 1) := by decide +kernel
theorem dX12_isLinked_25 : decode cX12_isLinked 25 = .ok (.ireturn, 1) := by decide +kernel
theorem dX12_isMap_0 : decode cX12_isMap 0 = .ok (.lload_n 0, 1) := by decide +kernel
theorem dX12_isMap_1 : decode cX12_isMap 1 = .ok (.lconst 0, 1) := by decide +kernel
theorem dX12_isMap_2 : decode cX12_isMap 2 = .ok (.lcmp, 1) := by decide +kernel
theorem dX12_isMap_3 : decode cX12_isMap 3 = .ok (.ifCond .lt 23, 3) := by decide +kernel
theorem dX12_isMap_6 : decode cX12_isMap 6 = .ok (.lload_n 0, 1) := by decide +kernel
theorem dX12_isMap_7 : decode cX12_isMap 7 = .ok (.ldc2_w 396, 3) := by decide +kernel
theorem dX12_isMap_10 : decode cX12_isMap 10 = .ok (.lcmp, 1) := by decide +kernel
theorem dX12_isMap_11 : decode cX12_isMap 11 = .ok (.ifCond .ge 15, 3) := by decide +kernel
theorem dX12_isMap_14 : decode cX12_isMap 14 = .ok (.lload_n 0, 1) := by decide +kernel
theorem dX12_isMap_15 : decode cX12_isMap 15 = .ok (.invokestatic 398, 3) := by decide +kernel
theorem dX12_isMap_18 : decode cX12_isMap 18 = .ok (.iconst 1, 1) := by decide +kernel
theorem dX12_isMap_19 : decode cX12_isMap 19 = .ok (.if_icmp .le 7, 3) := by decide +kernel
theorem dX12_isMap_22 : decode cX12_isMap 22 = .ok (.iconst 1, 1) := by decide +kernel
theorem dX12_isMap_23 : decode cX12_isMap 23 = .ok (.goto 4, 3) := by decide +kernel
theorem dX12_isMap_26 : decode cX12_isMap 26 = .ok (.iconst 0, 1) := by decide +kernel
theorem dX12_isMap_27 : decode cX12_isMap 27 = .ok (.ireturn, 1) := by decide +kernel
theorem dX12_number_0 : decode cX12_number 0 = .ok (.iconst 0, 1) := by decide +kernel
theorem dX12_number_1 : decode cX12_number 1 = .ok (.istore 5, 2) := by decide +kernel
theorem dX12_number_3 : decode cX12_number 3 = .ok (.iload 5, 2) := by decide +kernel
theorem dX12_number_5 : decode cX12_number 5 = .ok (.iload 4, 2) := by decide +kernel
theorem dX12_number_7 : decode cX12_number 7 = .ok (.if_icmp .ge 24, 3) := by decide +kernel
theorem dX12_number_10 : decode cX12_number 10 = .ok (.aload_n 0, 1) := by decide +kernel
theorem dX12_number_11 : decode cX12_number 11 = .ok (.iload_n 1, 1) := by decide +kernel
theorem dX12_number_12 : decode cX12_number 12 = .ok (.iload 5, 2) := by decide +kernel
theorem dX12_number_14 : decode cX12_number 14 = .ok (.iadd, 1) := by decide +kernel
theorem dX12_number_15 : decode cX12_number 15 = .ok (.lload_n 2, 1) := by decide +kernel
theorem dX12_number_16 : decode cX12_number 16 = .ok (.bipush 8, 2) := by decide +kernel
theorem dX12_number_18 : decode cX12_number 18 = .ok (.iload 5, 2) := by decide +kernel
theorem dX12_number_20 : decode cX12_number 20 = .ok (.imul, 1) := by decide +kernel
theorem dX12_number_21 : decode cX12_number 21 = .ok (.lshr, 1) := by decide +kernel
theorem dX12_number_22 : decode cX12_number 22 = .ok (.l2i, 1) := by decide +kernel
theorem dX12_number_23 : decode cX12_number 23 = .ok (.i2b, 1) := by decide +kernel
theorem dX12_number_24 : decode cX12_number 24 = .ok (.bastore, 1) := by decide +kernel
theorem dX12_number_25 : decode cX12_number 25 = .ok (.iinc 5 1, 3) := by decide +kernel
theorem dX12_number_28 : decode cX12_number 28 = .ok (.goto (-25), 3) := by decide +kernel
theorem dX12_number_31 : decode cX12_number 31 = .ok (.return_, 1) := by decide +kernel
theorem dX12_completion_0 : decode cX12_completion 0 = .ok (.aload_n 0, 1) := by decide +kernel
theorem dX12_completion_1 : decode cX12_completion 1 = .ok (.iconst 0, 1) := by decide +kernel
theorem dX12_completion_2 : decode cX12_completion 2 = .ok (.putfield 1, 3) := by decide +kernel
theorem dX12_completion_5 : decode cX12_completion 5 = .ok (.iload_n 1, 1) := by decide +kernel
theorem dX12_completion_6 : decode cX12_completion 6 = .ok (.iconst 2, 1) := by decide +kernel
theorem dX12_completion_7 : decode cX12_completion 7 = .ok (.invokestatic 413, 3) := by decide +kernel
theorem dX12_completion_10 : decode cX12_completion 10 = .ok (.ifCond .eq 12, 3) := by decide +kernel
theorem dX12_completion_13 : decode cX12_completion 13 = .ok (.aload_n 0, 1) := by decide +kernel
theorem dX12_completion_14 : decode cX12_completion 14 = .ok (.getfield 158, 3) := by decide +kernel
theorem dX12_completion_17 : decode cX12_completion 17 = .ok (.iload_n 1, 1) := by decide +kernel
theorem dX12_completion_18 : decode cX12_completion 18 = .ok (.iaload, 1) := by decide +kernel
theorem dX12_completion_19 : decode cX12_completion 19 = .ok (.ifCond .ne 5, 3) := by decide +kernel
theorem dX12_completion_22 : decode cX12_completion 22 = .ok (.iconst (-1), 1) := by decide +kernel
theorem dX12_completion_23 : decode cX12_completion 23 = .ok (.ireturn, 1) := by decide +kernel
theorem dX12_completion_24 : decode cX12_completion 24 = .ok (.sipush 1440, 3) := by decide +kernel
theorem dX12_completion_27 : decode cX12_completion 27 = .ok (.iload_n 1, 1) := by decide +kernel
theorem dX12_completion_28 : decode cX12_completion 28 = .ok (.imul, 1) := by decide +kernel
theorem dX12_completion_29 : decode cX12_completion 29 = .ok (.istore_n 3, 1) := by decide +kernel
theorem dX12_completion_30 : decode cX12_completion 30 = .ok (.iload_n 2, 1) := by decide +kernel
theorem dX12_completion_31 : decode cX12_completion 31 = .ok (.iconst 5, 1) := by decide +kernel
theorem dX12_completion_32 : decode cX12_completion 32 = .ok (.invokestatic 413, 3) := by decide +kernel
theorem dX12_completion_35 : decode cX12_completion 35 = .ok (.ifCond .eq 12, 3) := by decide +kernel
theorem dX12_completion_38 : decode cX12_completion 38 = .ok (.aload_n 0, 1) := by decide +kernel
theorem dX12_completion_39 : decode cX12_completion 39 = .ok (.getfield 155, 3) := by decide +kernel
theorem dX12_completion_42 : decode cX12_completion 42 = .ok (.iload_n 3, 1) := by decide +kernel
theorem dX12_completion_43 : decode cX12_completion 43 = .ok (.iload_n 2, 1) := by decide +kernel
theorem dX12_completion_44 : decode cX12_completion 44 = .ok (.iadd, 1) := by decide +kernel
theorem dX12_completion_45 : decode cX12_completion 45 = .ok (.iaload, 1) := by decide +kernel
theorem dX12_completion_46 : decode cX12_completion 46 = .ok (.ireturn, 1) := by decide +kernel
theorem dX12_completion_47 : decode cX12_completion 47 = .ok (.iload_n 2, 1) := by decide +kernel
theorem dX12_completion_48 : decode cX12_completion 48 = .ok (.bipush 10, 2) := by decide +kernel
theorem dX12_completion_50 : decode cX12_completion 50 = .ok (.if_icmp .lt 31, 3) := by decide +kernel
theorem dX12_completion_53 : decode cX12_completion 53 = .ok (.iload_n 2, 1) := by decide +kernel
theorem dX12_completion_54 : decode cX12_completion 54 = .ok (.bipush 10, 2) := by decide +kernel
theorem dX12_completion_56 : decode cX12_completion 56 = .ok (.isub, 1) := by decide +kernel
theorem dX12_completion_57 : decode cX12_completion 57 = .ok (.aload_n 0, 1) := by decide +kernel
theorem dX12_completion_58 : decode cX12_completion 58 = .ok (.getfield 155, 3) := by decide +kernel
theorem dX12_completion_61 : decode cX12_completion 61 = .ok (.iload_n 3, 1) := by decide +kernel
theorem dX12_completion_62 : decode cX12_completion 62 = .ok (.iconst 4, 1) := by decide +kernel
theorem dX12_completion_63 : decode cX12_completion 63 = .ok (.iadd, 1) := by decide +kernel
theorem dX12_completion_64 : decode cX12_completion 64 = .ok (.iaload, 1) := by decide +kernel
theorem dX12_completion_65 : decode cX12_completion 65 = .ok (.if_icmp .ge 16, 3) := by decide +kernel
theorem dX12_completion_68 : decode cX12_completion 68 = .ok (.aload_n 0, 1) := by decide +kernel
theorem dX12_completion_69 : decode cX12_completion 69 = .ok (.getfield 155, 3) := by decide +kernel
theorem dX12_completion_72 : decode cX12_completion 72 = .ok (.iload_n 3, 1) := by decide +kernel
theorem dX12_completion_73 : decode cX12_completion 73 = .ok (.iload_n 2, 1) := by decide +kernel
theorem dX12_completion_74 : decode cX12_completion 74 = .ok (.iadd, 1) := by decide +kernel
theorem dX12_completion_75 : decode cX12_completion 75 = .ok (.iconst 5, 1) := by decide +kernel
theorem dX12_completion_76 : decode cX12_completion 76 = .ok (.isub, 1) := by decide +kernel
theorem dX12_completion_77 : decode cX12_completion 77 = .ok (.iaload, 1) := by decide +kernel
theorem dX12_completion_78 : decode cX12_completion 78 = .ok (.goto 4, 3) := by decide +kernel
theorem dX12_completion_81 : decode cX12_completion 81 = .ok (.iconst (-1), 1) := by decide +kernel
theorem dX12_completion_82 : decode cX12_completion 82 = .ok (.ireturn, 1) := by decide +kernel
theorem dX12_take_0 : decode cX12_take 0 = .ok (.aload_n 0, 1) := by decide +kernel
theorem dX12_take_1 : decode cX12_take 1 = .ok (.iconst 0, 1) := by decide +kernel
theorem dX12_take_2 : decode cX12_take 2 = .ok (.putfield 1, 3) := by decide +kernel
theorem dX12_take_5 : decode cX12_take 5 = .ok (.iload_n 1, 1) := by decide +kernel
theorem dX12_take_6 : decode cX12_take 6 = .ok (.iconst 2, 1) := by decide +kernel
theorem dX12_take_7 : decode cX12_take 7 = .ok (.invokestatic 413, 3) := by decide +kernel
theorem dX12_take_10 : decode cX12_take 10 = .ok (.ifCond .eq 12, 3) := by decide +kernel
theorem dX12_take_13 : decode cX12_take 13 = .ok (.aload_n 0, 1) := by decide +kernel
theorem dX12_take_14 : decode cX12_take 14 = .ok (.getfield 158, 3) := by decide +kernel
theorem dX12_take_17 : decode cX12_take 17 = .ok (.iload_n 1, 1) := by decide +kernel
theorem dX12_take_18 : decode cX12_take 18 = .ok (.iaload, 1) := by decide +kernel
theorem dX12_take_19 : decode cX12_take 19 = .ok (.ifCond .ne 5, 3) := by decide +kernel
theorem dX12_take_22 : decode cX12_take 22 = .ok (.iconst 0, 1) := by decide +kernel
theorem dX12_take_23 : decode cX12_take 23 = .ok (.ireturn, 1) := by decide +kernel
theorem dX12_take_24 : decode cX12_take 24 = .ok (.sipush 1440, 3) := by decide +kernel
theorem dX12_take_27 : decode cX12_take 27 = .ok (.iload_n 1, 1) := by decide +kernel
theorem dX12_take_28 : decode cX12_take 28 = .ok (.imul, 1) := by decide +kernel
theorem dX12_take_29 : decode cX12_take 29 = .ok (.istore_n 2, 1) := by decide +kernel
theorem dX12_take_30 : decode cX12_take 30 = .ok (.aload_n 0, 1) := by decide +kernel
theorem dX12_take_31 : decode cX12_take 31 = .ok (.getfield 158, 3) := by decide +kernel
theorem dX12_take_34 : decode cX12_take 34 = .ok (.iload_n 1, 1) := by decide +kernel
theorem dX12_take_35 : decode cX12_take 35 = .ok (.dup2, 1) := by decide +kernel
theorem dX12_take_36 : decode cX12_take 36 = .ok (.iaload, 1) := by decide +kernel
theorem dX12_take_37 : decode cX12_take 37 = .ok (.iconst 1, 1) := by decide +kernel
theorem dX12_take_38 : decode cX12_take 38 = .ok (.isub, 1) := by decide +kernel
theorem dX12_take_39 : decode cX12_take 39 = .ok (.iastore, 1) := by decide +kernel
theorem dX12_take_40 : decode cX12_take 40 = .ok (.iconst 0, 1) := by decide +kernel
theorem dX12_take_41 : decode cX12_take 41 = .ok (.istore_n 3, 1) := by decide +kernel
theorem dX12_take_42 : decode cX12_take 42 = .ok (.iload_n 3, 1) := by decide +kernel
theorem dX12_take_43 : decode cX12_take 43 = .ok (.bipush 45, 2) := by decide +kernel
theorem dX12_take_45 : decode cX12_take 45 = .ok (.aload_n 0, 1) := by decide +kernel
theorem dX12_take_46 : decode cX12_take 46 = .ok (.getfield 158, 3) := by decide +kernel
theorem dX12_take_49 : decode cX12_take 49 = .ok (.iload_n 1, 1) := by decide +kernel
theorem dX12_take_50 : decode cX12_take 50 = .ok (.iaload, 1) := by decide +kernel
theorem dX12_take_51 : decode cX12_take 51 = .ok (.imul, 1) := by decide +kernel
theorem dX12_take_52 : decode cX12_take 52 = .ok (.if_icmp .ge 28, 3) := by decide +kernel
theorem dX12_take_55 : decode cX12_take 55 = .ok (.aload_n 0, 1) := by decide +kernel
theorem dX12_take_56 : decode cX12_take 56 = .ok (.getfield 155, 3) := by decide +kernel
theorem dX12_take_59 : decode cX12_take 59 = .ok (.iload_n 2, 1) := by decide +kernel
theorem dX12_take_60 : decode cX12_take 60 = .ok (.iload_n 3, 1) := by decide +kernel
theorem dX12_take_61 : decode cX12_take 61 = .ok (.iadd, 1) := by decide +kernel
theorem dX12_take_62 : decode cX12_take 62 = .ok (.aload_n 0, 1) := by decide +kernel
theorem dX12_take_63 : decode cX12_take 63 = .ok (.getfield 155, 3) := by decide +kernel
theorem dX12_take_66 : decode cX12_take 66 = .ok (.iload_n 2, 1) := by decide +kernel
theorem dX12_take_67 : decode cX12_take 67 = .ok (.bipush 45, 2) := by decide +kernel
theorem dX12_take_69 : decode cX12_take 69 = .ok (.iadd, 1) := by decide +kernel
theorem dX12_take_70 : decode cX12_take 70 = .ok (.iload_n 3, 1) := by decide +kernel
theorem dX12_take_71 : decode cX12_take 71 = .ok (.iadd, 1) := by decide +kernel
theorem dX12_take_72 : decode cX12_take 72 = .ok (.iaload, 1) := by decide +kernel
theorem dX12_take_73 : decode cX12_take 73 = .ok (.iastore, 1) := by decide +kernel
theorem dX12_take_74 : decode cX12_take 74 = .ok (.iinc 3 1, 3) := by decide +kernel
theorem dX12_take_77 : decode cX12_take 77 = .ok (.goto (-35), 3) := by decide +kernel
theorem dX12_take_80 : decode cX12_take 80 = .ok (.iconst 1, 1) := by decide +kernel
theorem dX12_take_81 : decode cX12_take 81 = .ok (.ireturn, 1) := by decide +kernel
theorem dX12_isHandle_0 : decode cX12_isHandle 0 = .ok (.iload_n 2, 1) := by decide +kernel
theorem dX12_isHandle_1 : decode cX12_isHandle 1 = .ok (.ifCond .le 17, 3) := by decide +kernel
theorem dX12_isHandle_4 : decode cX12_isHandle 4 = .ok (.iload_n 2, 1) := by decide +kernel
theorem dX12_isHandle_5 : decode cX12_isHandle 5 = .ok (.aload_n 0, 1) := by decide +kernel
theorem dX12_isHandle_6 : decode cX12_isHandle 6 = .ok (.getfield 320, 3) := by decide +kernel
theorem dX12_isHandle_9 : decode cX12_isHandle 9 = .ok (.iload_n 1, 1) := by decide +kernel
theorem dX12_isHandle_10 : decode cX12_isHandle 10 = .ok (.iaload, 1) := by decide +kernel
theorem dX12_isHandle_11 : decode cX12_isHandle 11 = .ok (.if_icmp .gt 7, 3) := by decide +kernel
theorem dX12_isHandle_14 : decode cX12_isHandle 14 = .ok (.iconst 1, 1) := by decide +kernel
theorem dX12_isHandle_15 : decode cX12_isHandle 15 = .ok (.goto 4, 3) := by decide +kernel
theorem dX12_isHandle_18 : decode cX12_isHandle 18 = .ok (.iconst 0, 1) := by decide +kernel
theorem dX12_isHandle_19 : decode cX12_isHandle 19 = .ok (.ireturn, 1) := by decide +kernel
theorem dX12_row_0 : decode cX12_row 0 = .ok (.bipush 20, 2) := by decide +kernel
theorem dX12_row_2 : decode cX12_row 2 = .ok (.iload_n 1, 1) := by decide +kernel
theorem dX12_row_3 : decode cX12_row 3 = .ok (.imul, 1) := by decide +kernel
theorem dX12_row_4 : decode cX12_row 4 = .ok (.iload_n 2, 1) := by decide +kernel
theorem dX12_row_5 : decode cX12_row 5 = .ok (.iadd, 1) := by decide +kernel
theorem dX12_row_6 : decode cX12_row 6 = .ok (.iconst 1, 1) := by decide +kernel
theorem dX12_row_7 : decode cX12_row 7 = .ok (.isub, 1) := by decide +kernel
theorem dX12_row_8 : decode cX12_row 8 = .ok (.ireturn, 1) := by decide +kernel
theorem dX12_one_0 : decode cX12_one 0 = .ok (.aload_n 0, 1) := by decide +kernel
theorem dX12_one_1 : decode cX12_one 1 = .ok (.iconst 0, 1) := by decide +kernel
theorem dX12_one_2 : decode cX12_one 2 = .ok (.putfield 429, 3) := by decide +kernel
theorem dX12_one_5 : decode cX12_one 5 = .ok (.iconst 0, 1) := by decide +kernel
theorem dX12_one_6 : decode cX12_one 6 = .ok (.istore_n 1, 1) := by decide +kernel
theorem dX12_one_7 : decode cX12_one 7 = .ok (.iload_n 1, 1) := by decide +kernel
theorem dX12_one_8 : decode cX12_one 8 = .ok (.iconst 2, 1) := by decide +kernel
theorem dX12_one_9 : decode cX12_one 9 = .ok (.if_icmp .ge 37, 3) := by decide +kernel
theorem dX12_one_12 : decode cX12_one 12 = .ok (.aload_n 0, 1) := by decide +kernel
theorem dX12_one_13 : decode cX12_one 13 = .ok (.getfield 45, 3) := by decide +kernel
theorem dX12_one_16 : decode cX12_one 16 = .ok (.iload_n 1, 1) := by decide +kernel
theorem dX12_one_17 : decode cX12_one 17 = .ok (.iaload, 1) := by decide +kernel
theorem dX12_one_18 : decode cX12_one 18 = .ok (.iconst 1, 1) := by decide +kernel
theorem dX12_one_19 : decode cX12_one 19 = .ok (.if_icmp .ne 21, 3) := by decide +kernel
theorem dX12_one_22 : decode cX12_one 22 = .ok (.aload_n 0, 1) := by decide +kernel
theorem dX12_one_23 : decode cX12_one 23 = .ok (.getfield 54, 3) := by decide +kernel
theorem dX12_one_26 : decode cX12_one 26 = .ok (.iload_n 1, 1) := by decide +kernel
theorem dX12_one_27 : decode cX12_one 27 = .ok (.iaload, 1) := by decide +kernel
theorem dX12_one_28 : decode cX12_one 28 = .ok (.aload_n 0, 1) := by decide +kernel
theorem dX12_one_29 : decode cX12_one 29 = .ok (.getfield 470, 3) := by decide +kernel
theorem dX12_one_32 : decode cX12_one 32 = .ok (.if_icmp .ne 8, 3) := by decide +kernel
theorem dX12_one_35 : decode cX12_one 35 = .ok (.aload_n 0, 1) := by decide +kernel
theorem dX12_one_36 : decode cX12_one 36 = .ok (.iload_n 1, 1) := by decide +kernel
theorem dX12_one_37 : decode cX12_one 37 = .ok (.invokevirtual 659, 3) := by decide +kernel
theorem dX12_one_40 : decode cX12_one 40 = .ok (.iinc 1 1, 3) := by decide +kernel
theorem dX12_one_43 : decode cX12_one 43 = .ok (.goto (-36), 3) := by decide +kernel
theorem dX12_one_46 : decode cX12_one 46 = .ok (.iconst 0, 1) := by decide +kernel
theorem dX12_one_47 : decode cX12_one 47 = .ok (.istore_n 1, 1) := by decide +kernel
theorem dX12_one_48 : decode cX12_one 48 = .ok (.iload_n 1, 1) := by decide +kernel
theorem dX12_one_49 : decode cX12_one 49 = .ok (.iconst 2, 1) := by decide +kernel
theorem dX12_one_50 : decode cX12_one 50 = .ok (.if_icmp .ge 55, 3) := by decide +kernel
theorem dX12_one_53 : decode cX12_one 53 = .ok (.aload_n 0, 1) := by decide +kernel
theorem dX12_one_54 : decode cX12_one 54 = .ok (.getfield 152, 3) := by decide +kernel
theorem dX12_one_57 : decode cX12_one 57 = .ok (.iload_n 1, 1) := by decide +kernel
theorem dX12_one_58 : decode cX12_one 58 = .ok (.aload_n 0, 1) := by decide +kernel
theorem dX12_one_59 : decode cX12_one 59 = .ok (.iload_n 1, 1) := by decide +kernel
theorem dX12_one_60 : decode cX12_one 60 = .ok (.invokevirtual 662, 3) := by decide +kernel
theorem dX12_one_63 : decode cX12_one 63 = .ok (.ifCond .eq 20, 3) := by decide +kernel
theorem dX12_one_66 : decode cX12_one 66 = .ok (.aload_n 0, 1) := by decide +kernel
theorem dX12_one_67 : decode cX12_one 67 = .ok (.getfield 121, 3) := by decide +kernel
theorem dX12_one_70 : decode cX12_one 70 = .ok (.iload_n 1, 1) := by decide +kernel
theorem dX12_one_71 : decode cX12_one 71 = .ok (.iaload, 1) := by decide +kernel
theorem dX12_one_72 : decode cX12_one 72 = .ok (.aload_n 0, 1) := by decide +kernel
theorem dX12_one_73 : decode cX12_one 73 = .ok (.getfield 470, 3) := by decide +kernel
theorem dX12_one_76 : decode cX12_one 76 = .ok (.if_icmp .ne 7, 3) := by decide +kernel
theorem dX12_one_79 : decode cX12_one 79 = .ok (.iconst 1, 1) := by decide +kernel
theorem dX12_one_80 : decode cX12_one 80 = .ok (.goto 4, 3) := by decide +kernel
theorem dX12_one_83 : decode cX12_one 83 = .ok (.iconst 0, 1) := by decide +kernel
theorem dX12_one_84 : decode cX12_one 84 = .ok (.bastore, 1) := by decide +kernel
theorem dX12_one_85 : decode cX12_one 85 = .ok (.aload_n 0, 1) := by decide +kernel
theorem dX12_one_86 : decode cX12_one 86 = .ok (.getfield 152, 3) := by decide +kernel
theorem dX12_one_89 : decode cX12_one 89 = .ok (.iload_n 1, 1) := by decide +kernel
theorem dX12_one_90 : decode cX12_one 90 = .ok (.baload, 1) := by decide +kernel
theorem dX12_one_91 : decode cX12_one 91 = .ok (.ifCond .eq 8, 3) := by decide +kernel
theorem dX12_one_94 : decode cX12_one 94 = .ok (.aload_n 0, 1) := by decide +kernel
theorem dX12_one_95 : decode cX12_one 95 = .ok (.iload_n 1, 1) := by decide +kernel
theorem dX12_one_96 : decode cX12_one 96 = .ok (.invokevirtual 666, 3) := by decide +kernel
theorem dX12_one_99 : decode cX12_one 99 = .ok (.iinc 1 1, 3) := by decide +kernel
theorem dX12_one_102 : decode cX12_one 102 = .ok (.goto (-54), 3) := by decide +kernel
theorem dX12_one_105 : decode cX12_one 105 = .ok (.iconst 0, 1) := by decide +kernel
theorem dX12_one_106 : decode cX12_one 106 = .ok (.istore_n 1, 1) := by decide +kernel
theorem dX12_one_107 : decode cX12_one 107 = .ok (.iload_n 1, 1) := by decide +kernel
theorem dX12_one_108 : decode cX12_one 108 = .ok (.iconst 2, 1) := by decide +kernel
theorem dX12_one_109 : decode cX12_one 109 = .ok (.if_icmp .ge 33, 3) := by decide +kernel
theorem dX12_one_112 : decode cX12_one 112 = .ok (.aload_n 0, 1) := by decide +kernel
theorem dX12_one_113 : decode cX12_one 113 = .ok (.getfield 152, 3) := by decide +kernel
theorem dX12_one_116 : decode cX12_one 116 = .ok (.iload_n 1, 1) := by decide +kernel
theorem dX12_one_117 : decode cX12_one 117 = .ok (.baload, 1) := by decide +kernel
theorem dX12_one_118 : decode cX12_one 118 = .ok (.ifCond .eq 18, 3) := by decide +kernel
theorem dX12_one_121 : decode cX12_one 121 = .ok (.aload_n 0, 1) := by decide +kernel
theorem dX12_one_122 : decode cX12_one 122 = .ok (.getfield 45, 3) := by decide +kernel
theorem dX12_one_125 : decode cX12_one 125 = .ok (.iload_n 1, 1) := by decide +kernel
theorem dX12_one_126 : decode cX12_one 126 = .ok (.iaload, 1) := by decide +kernel
theorem dX12_one_127 : decode cX12_one 127 = .ok (.iconst 4, 1) := by decide +kernel
theorem dX12_one_128 : decode cX12_one 128 = .ok (.if_icmp .ne 8, 3) := by decide +kernel
theorem dX12_one_131 : decode cX12_one 131 = .ok (.aload_n 0, 1) := by decide +kernel
theorem dX12_one_132 : decode cX12_one 132 = .ok (.iload_n 1, 1) := by decide +kernel
theorem dX12_one_133 : decode cX12_one 133 = .ok (.invokevirtual 669, 3) := by decide +kernel
theorem dX12_one_136 : decode cX12_one 136 = .ok (.iinc 1 1, 3) := by decide +kernel
theorem dX12_one_139 : decode cX12_one 139 = .ok (.goto (-32), 3) := by decide +kernel
theorem dX12_one_142 : decode cX12_one 142 = .ok (.iconst 0, 1) := by decide +kernel
theorem dX12_one_143 : decode cX12_one 143 = .ok (.istore_n 1, 1) := by decide +kernel
theorem dX12_one_144 : decode cX12_one 144 = .ok (.iload_n 1, 1) := by decide +kernel
theorem dX12_one_145 : decode cX12_one 145 = .ok (.iconst 2, 1) := by decide +kernel
theorem dX12_one_146 : decode cX12_one 146 = .ok (.if_icmp .ge 54, 3) := by decide +kernel
theorem dX12_one_149 : decode cX12_one 149 = .ok (.aload_n 0, 1) := by decide +kernel
theorem dX12_one_150 : decode cX12_one 150 = .ok (.getfield 152, 3) := by decide +kernel
theorem dX12_one_153 : decode cX12_one 153 = .ok (.iload_n 1, 1) := by decide +kernel
theorem dX12_one_154 : decode cX12_one 154 = .ok (.baload, 1) := by decide +kernel
theorem dX12_one_155 : decode cX12_one 155 = .ok (.ifCond .ne 6, 3) := by decide +kernel
theorem dX12_one_158 : decode cX12_one 158 = .ok (.goto 36, 3) := by decide +kernel
theorem dX12_one_161 : decode cX12_one 161 = .ok (.aload_n 0, 1) := by decide +kernel
theorem dX12_one_162 : decode cX12_one 162 = .ok (.getfield 112, 3) := by decide +kernel
theorem dX12_one_165 : decode cX12_one 165 = .ok (.iload_n 1, 1) := by decide +kernel
theorem dX12_one_166 : decode cX12_one 166 = .ok (.aload_n 0, 1) := by decide +kernel
theorem dX12_one_167 : decode cX12_one 167 = .ok (.getfield 112, 3) := by decide +kernel
theorem dX12_one_170 : decode cX12_one 170 = .ok (.iload_n 1, 1) := by decide +kernel
theorem dX12_one_171 : decode cX12_one 171 = .ok (.iaload, 1) := by decide +kernel
theorem dX12_one_172 : decode cX12_one 172 = .ok (.iconst 1, 1) := by decide +kernel
theorem dX12_one_173 : decode cX12_one 173 = .ok (.iadd, 1) := by decide +kernel
theorem dX12_one_174 : decode cX12_one 174 = .ok (.ldc_w 493, 3) := by decide +kernel
theorem dX12_one_177 : decode cX12_one 177 = .ok (.iand, 1) := by decide +kernel
theorem dX12_one_178 : decode cX12_one 178 = .ok (.iastore, 1) := by decide +kernel
theorem dX12_one_179 : decode cX12_one 179 = .ok (.aload_n 0, 1) := by decide +kernel
theorem dX12_one_180 : decode cX12_one 180 = .ok (.getfield 121, 3) := by decide +kernel
theorem dX12_one_183 : decode cX12_one 183 = .ok (.iload_n 1, 1) := by decide +kernel
theorem dX12_one_184 : decode cX12_one 184 = .ok (.dup2, 1) := by decide +kernel
theorem dX12_one_185 : decode cX12_one 185 = .ok (.iaload, 1) := by decide +kernel
theorem dX12_one_186 : decode cX12_one 186 = .ok (.aload_n 0, 1) := by decide +kernel
theorem dX12_one_187 : decode cX12_one 187 = .ok (.getfield 51, 3) := by decide +kernel
theorem dX12_one_190 : decode cX12_one 190 = .ok (.iload_n 1, 1) := by decide +kernel
theorem dX12_one_191 : decode cX12_one 191 = .ok (.iaload, 1) := by decide +kernel
theorem dX12_one_192 : decode cX12_one 192 = .ok (.iadd, 1) := by decide +kernel
theorem dX12_one_193 : decode cX12_one 193 = .ok (.iastore, 1) := by decide +kernel
theorem dX12_one_194 : decode cX12_one 194 = .ok (.iinc 1 1, 3) := by decide +kernel
theorem dX12_one_197 : decode cX12_one 197 = .ok (.goto (-53), 3) := by decide +kernel
theorem dX12_one_200 : decode cX12_one 200 = .ok (.iconst 0, 1) := by decide +kernel
theorem dX12_one_201 : decode cX12_one 201 = .ok (.istore_n 1, 1) := by decide +kernel
theorem dX12_one_202 : decode cX12_one 202 = .ok (.iload_n 1, 1) := by decide +kernel
theorem dX12_one_203 : decode cX12_one 203 = .ok (.iconst 2, 1) := by decide +kernel
theorem dX12_one_204 : decode cX12_one 204 = .ok (.if_icmp .ge 22, 3) := by decide +kernel
theorem dX12_one_207 : decode cX12_one 207 = .ok (.aload_n 0, 1) := by decide +kernel
theorem dX12_one_208 : decode cX12_one 208 = .ok (.iload_n 1, 1) := by decide +kernel
theorem dX12_one_209 : decode cX12_one 209 = .ok (.invokevirtual 662, 3) := by decide +kernel
theorem dX12_one_212 : decode cX12_one 212 = .ok (.ifCond .eq 8, 3) := by decide +kernel
theorem dX12_one_215 : decode cX12_one 215 = .ok (.aload_n 0, 1) := by decide +kernel
theorem dX12_one_216 : decode cX12_one 216 = .ok (.iload_n 1, 1) := by decide +kernel
theorem dX12_one_217 : decode cX12_one 217 = .ok (.invokevirtual 672, 3) := by decide +kernel
theorem dX12_one_220 : decode cX12_one 220 = .ok (.iinc 1 1, 3) := by decide +kernel
theorem dX12_one_223 : decode cX12_one 223 = .ok (.goto (-21), 3) := by decide +kernel
theorem dX12_one_226 : decode cX12_one 226 = .ok (.aload_n 0, 1) := by decide +kernel
theorem dX12_one_227 : decode cX12_one 227 = .ok (.dup, 1) := by decide +kernel
theorem dX12_one_228 : decode cX12_one 228 = .ok (.getfield 470, 3) := by decide +kernel
theorem dX12_one_231 : decode cX12_one 231 = .ok (.iconst 1, 1) := by decide +kernel
theorem dX12_one_232 : decode cX12_one 232 = .ok (.iadd, 1) := by decide +kernel
theorem dX12_one_233 : decode cX12_one 233 = .ok (.putfield 470, 3) := by decide +kernel
theorem dX12_one_236 : decode cX12_one 236 = .ok (.return_, 1) := by decide +kernel
theorem dX12_tick_0 : decode cX12_tick 0 = .ok (.aload_n 0, 1) := by decide +kernel
theorem dX12_tick_1 : decode cX12_tick 1 = .ok (.iload_n 1, 1) := by decide +kernel
theorem dX12_tick_2 : decode cX12_tick 2 = .ok (.iconst 1, 1) := by decide +kernel
theorem dX12_tick_3 : decode cX12_tick 3 = .ok (.if_icmp .lt 10, 3) := by decide +kernel
theorem dX12_tick_6 : decode cX12_tick 6 = .ok (.iload_n 1, 1) := by decide +kernel
theorem dX12_tick_7 : decode cX12_tick 7 = .ok (.sipush 1000, 3) := by decide +kernel
theorem dX12_tick_10 : decode cX12_tick 10 = .ok (.if_icmp .le 7, 3) := by decide +kernel
theorem dX12_tick_13 : decode cX12_tick 13 = .ok (.iconst 1, 1) := by decide +kernel
theorem dX12_tick_14 : decode cX12_tick 14 = .ok (.goto 4, 3) := by decide +kernel
theorem dX12_tick_17 : decode cX12_tick 17 = .ok (.iconst 0, 1) := by decide +kernel
theorem dX12_tick_18 : decode cX12_tick 18 = .ok (.putfield 1, 3) := by decide +kernel
theorem dX12_tick_21 : decode cX12_tick 21 = .ok (.iconst 0, 1) := by decide +kernel
theorem dX12_tick_22 : decode cX12_tick 22 = .ok (.istore_n 2, 1) := by decide +kernel
theorem dX12_tick_23 : decode cX12_tick 23 = .ok (.iconst 0, 1) := by decide +kernel
theorem dX12_tick_24 : decode cX12_tick 24 = .ok (.istore_n 3, 1) := by decide +kernel
theorem dX12_tick_25 : decode cX12_tick 25 = .ok (.iload_n 3, 1) := by decide +kernel
theorem dX12_tick_26 : decode cX12_tick 26 = .ok (.iload_n 1, 1) := by decide +kernel
theorem dX12_tick_27 : decode cX12_tick 27 = .ok (.if_icmp .ge 27, 3) := by decide +kernel
theorem dX12_tick_30 : decode cX12_tick 30 = .ok (.aload_n 0, 1) := by decide +kernel
theorem dX12_tick_31 : decode cX12_tick 31 = .ok (.getfield 1, 3) := by decide +kernel
theorem dX12_tick_34 : decode cX12_tick 34 = .ok (.ifCond .ne 20, 3) := by decide +kernel
theorem dX12_tick_37 : decode cX12_tick 37 = .ok (.aload_n 0, 1) := by decide +kernel
theorem dX12_tick_38 : decode cX12_tick 38 = .ok (.invokevirtual 675, 3) := by decide +kernel
theorem dX12_tick_41 : decode cX12_tick 41 = .ok (.iload_n 2, 1) := by decide +kernel
theorem dX12_tick_42 : decode cX12_tick 42 = .ok (.aload_n 0, 1) := by decide +kernel
theorem dX12_tick_43 : decode cX12_tick 43 = .ok (.getfield 429, 3) := by decide +kernel
theorem dX12_tick_46 : decode cX12_tick 46 = .ok (.iadd, 1) := by decide +kernel
theorem dX12_tick_47 : decode cX12_tick 47 = .ok (.istore_n 2, 1) := by decide +kernel
theorem dX12_tick_48 : decode cX12_tick 48 = .ok (.iinc 3 1, 3) := by decide +kernel
theorem dX12_tick_51 : decode cX12_tick 51 = .ok (.goto (-26), 3) := by decide +kernel
theorem dX12_tick_54 : decode cX12_tick 54 = .ok (.iload_n 2, 1) := by decide +kernel
theorem dX12_tick_55 : decode cX12_tick 55 = .ok (.ireturn, 1) := by decide +kernel
theorem dX12_seed_0 : decode cX12_seed 0 = .ok (.aload_n 0, 1) := by decide +kernel
theorem dX12_seed_1 : decode cX12_seed 1 = .ok (.iconst 0, 1) := by decide +kernel
theorem dX12_seed_2 : decode cX12_seed 2 = .ok (.putfield 1, 3) := by decide +kernel
theorem dX12_seed_5 : decode cX12_seed 5 = .ok (.iload_n 1, 1) := by decide +kernel
theorem dX12_seed_6 : decode cX12_seed 6 = .ok (.iconst 2, 1) := by decide +kernel
theorem dX12_seed_7 : decode cX12_seed 7 = .ok (.invokestatic 413, 3) := by decide +kernel
theorem dX12_seed_10 : decode cX12_seed 10 = .ok (.ifCond .ne 5, 3) := by decide +kernel
theorem dX12_seed_13 : decode cX12_seed 13 = .ok (.iconst 0, 1) := by decide +kernel
theorem dX12_seed_14 : decode cX12_seed 14 = .ok (.ireturn, 1) := by decide +kernel
theorem dX12_seed_15 : decode cX12_seed 15 = .ok (.aload_n 0, 1) := by decide +kernel
theorem dX12_seed_16 : decode cX12_seed 16 = .ok (.getfield 48, 3) := by decide +kernel
theorem dX12_seed_19 : decode cX12_seed 19 = .ok (.iload_n 1, 1) := by decide +kernel
theorem dX12_seed_20 : decode cX12_seed 20 = .ok (.iload_n 2, 1) := by decide +kernel
theorem dX12_seed_21 : decode cX12_seed 21 = .ok (.iastore, 1) := by decide +kernel
theorem dX12_seed_22 : decode cX12_seed 22 = .ok (.iconst 1, 1) := by decide +kernel
theorem dX12_seed_23 : decode cX12_seed 23 = .ok (.ireturn, 1) := by decide +kernel
theorem dX12_isStandby_0 : decode cX12_isStandby 0 = .ok (.iload_n 1, 1) := by decide +kernel
theorem dX12_isStandby_1 : decode cX12_isStandby 1 = .ok (.iconst 2, 1) := by decide +kernel
theorem dX12_isStandby_2 : decode cX12_isStandby 2 = .ok (.invokestatic 413, 3) := by decide +kernel
theorem dX12_isStandby_5 : decode cX12_isStandby 5 = .ok (.ifCond .eq 16, 3) := by decide +kernel
theorem dX12_isStandby_8 : decode cX12_isStandby 8 = .ok (.aload_n 0, 1) := by decide +kernel
theorem dX12_isStandby_9 : decode cX12_isStandby 9 = .ok (.getfield 45, 3) := by decide +kernel
theorem dX12_isStandby_12 : decode cX12_isStandby 12 = .ok (.iload_n 1, 1) := by decide +kernel
theorem dX12_isStandby_13 : decode cX12_isStandby 13 = .ok (.iaload, 1) := by decide +kernel
theorem dX12_isStandby_14 : decode cX12_isStandby 14 = .ok (.ifCond .ne 7, 3) := by decide +kernel
theorem dX12_isStandby_17 : decode cX12_isStandby 17 = .ok (.iconst 1, 1) := by decide +kernel
theorem dX12_isStandby_18 : decode cX12_isStandby 18 = .ok (.goto 4, 3) := by decide +kernel
theorem dX12_isStandby_21 : decode cX12_isStandby 21 = .ok (.iconst 0, 1) := by decide +kernel
theorem dX12_isStandby_22 : decode cX12_isStandby 22 = .ok (.ireturn, 1) := by decide +kernel
theorem dX12_advertise_0 : decode cX12_advertise 0 = .ok (.aload_n 0, 1) := by decide +kernel
theorem dX12_advertise_1 : decode cX12_advertise 1 = .ok (.iconst 0, 1) := by decide +kernel
theorem dX12_advertise_2 : decode cX12_advertise 2 = .ok (.putfield 1, 3) := by decide +kernel
theorem dX12_advertise_5 : decode cX12_advertise 5 = .ok (.aload_n 0, 1) := by decide +kernel
theorem dX12_advertise_6 : decode cX12_advertise 6 = .ok (.iload_n 1, 1) := by decide +kernel
theorem dX12_advertise_7 : decode cX12_advertise 7 = .ok (.invokevirtual 678, 3) := by decide +kernel
theorem dX12_advertise_10 : decode cX12_advertise 10 = .ok (.ifCond .eq 24, 3) := by decide +kernel
theorem dX12_advertise_13 : decode cX12_advertise 13 = .ok (.iload_n 2, 1) := by decide +kernel
theorem dX12_advertise_14 : decode cX12_advertise 14 = .ok (.iconst 5, 1) := by decide +kernel
theorem dX12_advertise_15 : decode cX12_advertise 15 = .ok (.if_icmp .lt 19, 3) := by decide +kernel
theorem dX12_advertise_18 : decode cX12_advertise 18 = .ok (.iload_n 2, 1) := by decide +kernel
theorem dX12_advertise_19 : decode cX12_advertise 19 = .ok (.sipush 1000, 3) := by decide +kernel
theorem dX12_advertise_22 : decode cX12_advertise 22 = .ok (.if_icmp .gt 12, 3) := by decide +kernel
theorem dX12_advertise_25 : decode cX12_advertise 25 = .ok (.aload_n 0, 1) := by decide +kernel
theorem dX12_advertise_26 : decode cX12_advertise 26 = .ok (.getfield 7, 3) := by decide +kernel
theorem dX12_advertise_29 : decode cX12_advertise 29 = .ok (.bipush 20, 2) := by decide +kernel
theorem dX12_advertise_31 : decode cX12_advertise 31 = .ok (.if_icmp .le 5, 3) := by decide +kernel
theorem dX12_advertise_34 : decode cX12_advertise 34 = .ok (.iconst 0, 1) := by decide +kernel
theorem dX12_advertise_35 : decode cX12_advertise 35 = .ok (.ireturn, 1) := by decide +kernel
theorem dX12_advertise_36 : decode cX12_advertise 36 = .ok (.aload_n 0, 1) := by decide +kernel
theorem dX12_advertise_37 : decode cX12_advertise 37 = .ok (.getfield 45, 3) := by decide +kernel
theorem dX12_advertise_40 : decode cX12_advertise 40 = .ok (.iload_n 1, 1) := by decide +kernel
theorem dX12_advertise_41 : decode cX12_advertise 41 = .ok (.iconst 1, 1) := by decide +kernel
theorem dX12_advertise_42 : decode cX12_advertise 42 = .ok (.iastore, 1) := by decide +kernel
theorem dX12_advertise_43 : decode cX12_advertise 43 = .ok (.aload_n 0, 1) := by decide +kernel
theorem dX12_advertise_44 : decode cX12_advertise 44 = .ok (.getfield 51, 3) := by decide +kernel
theorem dX12_advertise_47 : decode cX12_advertise 47 = .ok (.iload_n 1, 1) := by decide +kernel
theorem dX12_advertise_48 : decode cX12_advertise 48 = .ok (.iload_n 2, 1) := by decide +kernel
theorem dX12_advertise_49 : decode cX12_advertise 49 = .ok (.iastore, 1) := by decide +kernel
theorem dX12_advertise_50 : decode cX12_advertise 50 = .ok (.aload_n 0, 1) := by decide +kernel
theorem dX12_advertise_51 : decode cX12_advertise 51 = .ok (.getfield 54, 3) := by decide +kernel
theorem dX12_advertise_54 : decode cX12_advertise 54 = .ok (.iload_n 1, 1) := by decide +kernel
theorem dX12_advertise_55 : decode cX12_advertise 55 = .ok (.aload_n 0, 1) := by decide +kernel
theorem dX12_advertise_56 : decode cX12_advertise 56 = .ok (.getfield 470, 3) := by decide +kernel
theorem dX12_advertise_59 : decode cX12_advertise 59 = .ok (.iastore, 1) := by decide +kernel
theorem dX12_advertise_60 : decode cX12_advertise 60 = .ok (.aload_n 0, 1) := by decide +kernel
theorem dX12_advertise_61 : decode cX12_advertise 61 = .ok (.getfield 57, 3) := by decide +kernel
theorem dX12_advertise_64 : decode cX12_advertise 64 = .ok (.iload_n 1, 1) := by decide +kernel
theorem dX12_advertise_65 : decode cX12_advertise 65 = .ok (.aload_n 0, 1) := by decide +kernel
theorem dX12_advertise_66 : decode cX12_advertise 66 = .ok (.getfield 7, 3) := by decide +kernel
theorem dX12_advertise_69 : decode cX12_advertise 69 = .ok (.iastore, 1) := by decide +kernel
theorem dX12_advertise_70 : decode cX12_advertise 70 = .ok (.aload_n 0, 1) := by decide +kernel
theorem dX12_advertise_71 : decode cX12_advertise 71 = .ok (.getfield 10, 3) := by decide +kernel
theorem dX12_advertise_74 : decode cX12_advertise 74 = .ok (.iconst 0, 1) := by decide +kernel
theorem dX12_advertise_75 : decode cX12_advertise 75 = .ok (.aload_n 0, 1) := by decide +kernel
theorem dX12_advertise_76 : decode cX12_advertise 76 = .ok (.getfield 82, 3) := by decide +kernel
theorem dX12_advertise_79 : decode cX12_advertise 79 = .ok (.bipush 20, 2) := by decide +kernel
theorem dX12_advertise_81 : decode cX12_advertise 81 = .ok (.iload_n 1, 1) := by decide +kernel
theorem dX12_advertise_82 : decode cX12_advertise 82 = .ok (.imul, 1) := by decide +kernel
theorem dX12_advertise_83 : decode cX12_advertise 83 = .ok (.aload_n 0, 1) := by decide +kernel
theorem dX12_advertise_84 : decode cX12_advertise 84 = .ok (.getfield 7, 3) := by decide +kernel
theorem dX12_advertise_87 : decode cX12_advertise 87 = .ok (.invokestatic 29, 3) := by decide +kernel
theorem dX12_advertise_90 : decode cX12_advertise 90 = .ok (.aload_n 0, 1) := by decide +kernel
theorem dX12_advertise_91 : decode cX12_advertise 91 = .ok (.iconst 0, 1) := by decide +kernel
theorem dX12_advertise_92 : decode cX12_advertise 92 = .ok (.putfield 7, 3) := by decide +kernel
theorem dX12_advertise_95 : decode cX12_advertise 95 = .ok (.iconst 1, 1) := by decide +kernel
theorem dX12_advertise_96 : decode cX12_advertise 96 = .ok (.ireturn, 1) := by decide +kernel
theorem dX12_scan_0 : decode cX12_scan 0 = .ok (.aload_n 0, 1) := by decide +kernel
theorem dX12_scan_1 : decode cX12_scan 1 = .ok (.iconst 0, 1) := by decide +kernel
theorem dX12_scan_2 : decode cX12_scan 2 = .ok (.putfield 1, 3) := by decide +kernel
theorem dX12_scan_5 : decode cX12_scan 5 = .ok (.aload_n 0, 1) := by decide +kernel
theorem dX12_scan_6 : decode cX12_scan 6 = .ok (.iload_n 1, 1) := by decide +kernel
theorem dX12_scan_7 : decode cX12_scan 7 = .ok (.invokevirtual 678, 3) := by decide +kernel
theorem dX12_scan_10 : decode cX12_scan 10 = .ok (.ifCond .ne 5, 3) := by decide +kernel
theorem dX12_scan_13 : decode cX12_scan 13 = .ok (.iconst 0, 1) := by decide +kernel
theorem dX12_scan_14 : decode cX12_scan 14 = .ok (.ireturn, 1) := by decide +kernel
theorem dX12_scan_15 : decode cX12_scan 15 = .ok (.aload_n 0, 1) := by decide +kernel
theorem dX12_scan_16 : decode cX12_scan 16 = .ok (.getfield 45, 3) := by decide +kernel
theorem dX12_scan_19 : decode cX12_scan 19 = .ok (.iload_n 1, 1) := by decide +kernel
theorem dX12_scan_20 : decode cX12_scan 20 = .ok (.iconst 2, 1) := by decide +kernel
theorem dX12_scan_21 : decode cX12_scan 21 = .ok (.iastore, 1) := by decide +kernel
theorem dX12_scan_22 : decode cX12_scan 22 = .ok (.iconst 1, 1) := by decide +kernel
theorem dX12_scan_23 : decode cX12_scan 23 = .ok (.ireturn, 1) := by decide +kernel
theorem dX12_connect_0 : decode cX12_connect 0 = .ok (.aload_n 0, 1) := by decide +kernel
theorem dX12_connect_1 : decode cX12_connect 1 = .ok (.iconst 0, 1) := by decide +kernel
theorem dX12_connect_2 : decode cX12_connect 2 = .ok (.putfield 1, 3) := by decide +kernel
theorem dX12_connect_5 : decode cX12_connect 5 = .ok (.aload_n 0, 1) := by decide +kernel
theorem dX12_connect_6 : decode cX12_connect 6 = .ok (.iload_n 1, 1) := by decide +kernel
theorem dX12_connect_7 : decode cX12_connect 7 = .ok (.invokevirtual 678, 3) := by decide +kernel
theorem dX12_connect_10 : decode cX12_connect 10 = .ok (.ifCond .eq 52, 3) := by decide +kernel
theorem dX12_connect_13 : decode cX12_connect 13 = .ok (.iload 4, 2) := by decide +kernel
theorem dX12_connect_15 : decode cX12_connect 15 = .ok (.iconst 2, 1) := by decide +kernel
theorem dX12_connect_16 : decode cX12_connect 16 = .ok (.if_icmp .lt 46, 3) := by decide +kernel
theorem dX12_connect_19 : decode cX12_connect 19 = .ok (.iload 4, 2) := by decide +kernel
theorem dX12_connect_21 : decode cX12_connect 21 = .ok (.bipush 50, 2) := by decide +kernel
theorem dX12_connect_23 : decode cX12_connect 23 = .ok (.if_icmp .gt 39, 3) := by decide +kernel
theorem dX12_connect_26 : decode cX12_connect 26 = .ok (.iload 5, 2) := by decide +kernel
theorem dX12_connect_28 : decode cX12_connect 28 = .ok (.bipush 10, 2) := by decide +kernel
theorem dX12_connect_30 : decode cX12_connect 30 = .ok (.if_icmp .lt 32, 3) := by decide +kernel
theorem dX12_connect_33 : decode cX12_connect 33 = .ok (.iload 5, 2) := by decide +kernel
theorem dX12_connect_35 : decode cX12_connect 35 = .ok (.sipush 2000, 3) := by decide +kernel
theorem dX12_connect_38 : decode cX12_connect 38 = .ok (.if_icmp .gt 24, 3) := by decide +kernel
theorem dX12_connect_41 : decode cX12_connect 41 = .ok (.iload 6, 2) := by decide +kernel
theorem dX12_connect_43 : decode cX12_connect 43 = .ok (.iconst 5, 1) := by decide +kernel
theorem dX12_connect_44 : decode cX12_connect 44 = .ok (.if_icmp .lt 18, 3) := by decide +kernel
theorem dX12_connect_47 : decode cX12_connect 47 = .ok (.iload 6, 2) := by decide +kernel
theorem dX12_connect_49 : decode cX12_connect 49 = .ok (.bipush 16, 2) := by decide +kernel
theorem dX12_connect_51 : decode cX12_connect 51 = .ok (.if_icmp .gt 11, 3) := by decide +kernel
theorem dX12_connect_54 : decode cX12_connect 54 = .ok (.lload 7, 2) := by decide +kernel
theorem dX12_connect_56 : decode cX12_connect 56 = .ok (.invokestatic 497, 3) := by decide +kernel
theorem dX12_connect_59 : decode cX12_connect 59 = .ok (.ifCond .ne 5, 3) := by decide +kernel
theorem dX12_connect_62 : decode cX12_connect 62 = .ok (.iconst 0, 1) := by decide +kernel
theorem dX12_connect_63 : decode cX12_connect 63 = .ok (.ireturn, 1) := by decide +kernel
theorem dX12_connect_64 : decode cX12_connect 64 = .ok (.aload_n 0, 1) := by decide +kernel
theorem dX12_connect_65 : decode cX12_connect 65 = .ok (.getfield 45, 3) := by decide +kernel
theorem dX12_connect_68 : decode cX12_connect 68 = .ok (.iload_n 1, 1) := by decide +kernel
theorem dX12_connect_69 : decode cX12_connect 69 = .ok (.iconst 3, 1) := by decide +kernel
theorem dX12_connect_70 : decode cX12_connect 70 = .ok (.iastore, 1) := by decide +kernel
theorem dX12_connect_71 : decode cX12_connect 71 = .ok (.aload_n 0, 1) := by decide +kernel
theorem dX12_connect_72 : decode cX12_connect 72 = .ok (.getfield 67, 3) := by decide +kernel
theorem dX12_connect_75 : decode cX12_connect 75 = .ok (.iload_n 1, 1) := by decide +kernel
theorem dX12_connect_76 : decode cX12_connect 76 = .ok (.lload_n 2, 1) := by decide +kernel
theorem dX12_connect_77 : decode cX12_connect 77 = .ok (.ldc2_w 389, 3) := by decide +kernel
theorem dX12_connect_80 : decode cX12_connect 80 = .ok (.land, 1) := by decide +kernel
theorem dX12_connect_81 : decode cX12_connect 81 = .ok (.lastore, 1) := by decide +kernel
theorem dX12_connect_82 : decode cX12_connect 82 = .ok (.aload_n 0, 1) := by decide +kernel
theorem dX12_connect_83 : decode cX12_connect 83 = .ok (.getfield 51, 3) := by decide +kernel
theorem dX12_connect_86 : decode cX12_connect 86 = .ok (.iload_n 1, 1) := by decide +kernel
theorem dX12_connect_87 : decode cX12_connect 87 = .ok (.iload 4, 2) := by decide +kernel
theorem dX12_connect_89 : decode cX12_connect 89 = .ok (.iastore, 1) := by decide +kernel
theorem dX12_connect_90 : decode cX12_connect 90 = .ok (.aload_n 0, 1) := by decide +kernel
theorem dX12_connect_91 : decode cX12_connect 91 = .ok (.getfield 103, 3) := by decide +kernel
theorem dX12_connect_94 : decode cX12_connect 94 = .ok (.iload_n 1, 1) := by decide +kernel
theorem dX12_connect_95 : decode cX12_connect 95 = .ok (.iload 5, 2) := by decide +kernel
theorem dX12_connect_97 : decode cX12_connect 97 = .ok (.iastore, 1) := by decide +kernel
theorem dX12_connect_98 : decode cX12_connect 98 = .ok (.aload_n 0, 1) := by decide +kernel
theorem dX12_connect_99 : decode cX12_connect 99 = .ok (.getfield 106, 3) := by decide +kernel
theorem dX12_connect_102 : decode cX12_connect 102 = .ok (.iload_n 1, 1) := by decide +kernel
theorem dX12_connect_103 : decode cX12_connect 103 = .ok (.iload 6, 2) := by decide +kernel
theorem dX12_connect_105 : decode cX12_connect 105 = .ok (.iastore, 1) := by decide +kernel
theorem dX12_connect_106 : decode cX12_connect 106 = .ok (.aload_n 0, 1) := by decide +kernel
theorem dX12_connect_107 : decode cX12_connect 107 = .ok (.getfield 70, 3) := by decide +kernel
theorem dX12_connect_110 : decode cX12_connect 110 = .ok (.iload_n 1, 1) := by decide +kernel
theorem dX12_connect_111 : decode cX12_connect 111 = .ok (.lload 7, 2) := by decide +kernel
theorem dX12_connect_113 : decode cX12_connect 113 = .ok (.lastore, 1) := by decide +kernel
theorem dX12_connect_114 : decode cX12_connect 114 = .ok (.iconst 1, 1) := by decide +kernel
theorem dX12_connect_115 : decode cX12_connect 115 = .ok (.ireturn, 1) := by decide +kernel
theorem dX12_stop_0 : decode cX12_stop 0 = .ok (.aload_n 0, 1) := by decide +kernel
theorem dX12_stop_1 : decode cX12_stop 1 = .ok (.iconst 0, 1) := by decide +kernel
theorem dX12_stop_2 : decode cX12_stop 2 = .ok (.putfield 1, 3) := by decide +kernel
theorem dX12_stop_5 : decode cX12_stop 5 = .ok (.iload_n 1, 1) := by decide +kernel
theorem dX12_stop_6 : decode cX12_stop 6 = .ok (.iconst 2, 1) := by decide +kernel
theorem dX12_stop_7 : decode cX12_stop 7 = .ok (.invokestatic 413, 3) := by decide +kernel
theorem dX12_stop_10 : decode cX12_stop 10 = .ok (.ifCond .eq 23, 3) := by decide +kernel
theorem dX12_stop_13 : decode cX12_stop 13 = .ok (.aload_n 0, 1) := by decide +kernel
theorem dX12_stop_14 : decode cX12_stop 14 = .ok (.getfield 45, 3) := by decide +kernel
theorem dX12_stop_17 : decode cX12_stop 17 = .ok (.iload_n 1, 1) := by decide +kernel
theorem dX12_stop_18 : decode cX12_stop 18 = .ok (.iaload, 1) := by decide +kernel
theorem dX12_stop_19 : decode cX12_stop 19 = .ok (.iconst 1, 1) := by decide +kernel
theorem dX12_stop_20 : decode cX12_stop 20 = .ok (.if_icmp .lt 13, 3) := by decide +kernel
theorem dX12_stop_23 : decode cX12_stop 23 = .ok (.aload_n 0, 1) := by decide +kernel
theorem dX12_stop_24 : decode cX12_stop 24 = .ok (.getfield 45, 3) := by decide +kernel
theorem dX12_stop_27 : decode cX12_stop 27 = .ok (.iload_n 1, 1) := by decide +kernel
theorem dX12_stop_28 : decode cX12_stop 28 = .ok (.iaload, 1) := by decide +kernel
theorem dX12_stop_29 : decode cX12_stop 29 = .ok (.iconst 3, 1) := by decide +kernel
theorem dX12_stop_30 : decode cX12_stop 30 = .ok (.if_icmp .le 5, 3) := by decide +kernel
theorem dX12_stop_33 : decode cX12_stop 33 = .ok (.iconst 0, 1) := by decide +kernel
theorem dX12_stop_34 : decode cX12_stop 34 = .ok (.ireturn, 1) := by decide +kernel
theorem dX12_stop_35 : decode cX12_stop 35 = .ok (.aload_n 0, 1) := by decide +kernel
theorem dX12_stop_36 : decode cX12_stop 36 = .ok (.getfield 45, 3) := by decide +kernel
theorem dX12_stop_39 : decode cX12_stop 39 = .ok (.iload_n 1, 1) := by decide +kernel
theorem dX12_stop_40 : decode cX12_stop 40 = .ok (.iconst 0, 1) := by decide +kernel
theorem dX12_stop_41 : decode cX12_stop 41 = .ok (.iastore, 1) := by decide +kernel
theorem dX12_stop_42 : decode cX12_stop 42 = .ok (.iconst 1, 1) := by decide +kernel
theorem dX12_stop_43 : decode cX12_stop 43 = .ok (.ireturn, 1) := by decide +kernel
theorem dX12_noise_0 : decode cX12_noise 0 = .ok (.aload_n 0, 1) := by decide +kernel
theorem dX12_noise_1 : decode cX12_noise 1 = .ok (.iconst 0, 1) := by decide +kernel
theorem dX12_noise_2 : decode cX12_noise 2 = .ok (.putfield 1, 3) := by decide +kernel
theorem dX12_noise_5 : decode cX12_noise 5 = .ok (.iload_n 1, 1) := by decide +kernel
theorem dX12_noise_6 : decode cX12_noise 6 = .ok (.iconst 2, 1) := by decide +kernel
theorem dX12_noise_7 : decode cX12_noise 7 = .ok (.invokestatic 413, 3) := by decide +kernel
theorem dX12_noise_10 : decode cX12_noise 10 = .ok (.ifCond .eq 24, 3) := by decide +kernel
theorem dX12_noise_13 : decode cX12_noise 13 = .ok (.iload_n 2, 1) := by decide +kernel
theorem dX12_noise_14 : decode cX12_noise 14 = .ok (.sipush 320, 3) := by decide +kernel
theorem dX12_noise_17 : decode cX12_noise 17 = .ok (.invokestatic 413, 3) := by decide +kernel
theorem dX12_noise_20 : decode cX12_noise 20 = .ok (.ifCond .eq 14, 3) := by decide +kernel
theorem dX12_noise_23 : decode cX12_noise 23 = .ok (.aload_n 0, 1) := by decide +kernel
theorem dX12_noise_24 : decode cX12_noise 24 = .ok (.getfield 97, 3) := by decide +kernel
theorem dX12_noise_27 : decode cX12_noise 27 = .ok (.iload_n 1, 1) := by decide +kernel
theorem dX12_noise_28 : decode cX12_noise 28 = .ok (.iaload, 1) := by decide +kernel
theorem dX12_noise_29 : decode cX12_noise 29 = .ok (.bipush 64, 2) := by decide +kernel
theorem dX12_noise_31 : decode cX12_noise 31 = .ok (.if_icmp .ne 5, 3) := by decide +kernel
theorem dX12_noise_34 : decode cX12_noise 34 = .ok (.iconst 0, 1) := by decide +kernel
theorem dX12_noise_35 : decode cX12_noise 35 = .ok (.ireturn, 1) := by decide +kernel
theorem dX12_noise_36 : decode cX12_noise 36 = .ok (.aload_n 0, 1) := by decide +kernel
theorem dX12_noise_37 : decode cX12_noise 37 = .ok (.getfield 100, 3) := by decide +kernel
theorem dX12_noise_40 : decode cX12_noise 40 = .ok (.bipush 64, 2) := by decide +kernel
theorem dX12_noise_42 : decode cX12_noise 42 = .ok (.iload_n 1, 1) := by decide +kernel
theorem dX12_noise_43 : decode cX12_noise 43 = .ok (.imul, 1) := by decide +kernel
theorem dX12_noise_44 : decode cX12_noise 44 = .ok (.aload_n 0, 1) := by decide +kernel
theorem dX12_noise_45 : decode cX12_noise 45 = .ok (.getfield 97, 3) := by decide +kernel
theorem dX12_noise_48 : decode cX12_noise 48 = .ok (.iload_n 1, 1) := by decide +kernel
theorem dX12_noise_49 : decode cX12_noise 49 = .ok (.iaload, 1) := by decide +kernel
theorem dX12_noise_50 : decode cX12_noise 50 = .ok (.iadd, 1) := by decide +kernel
theorem dX12_noise_51 : decode cX12_noise 51 = .ok (.iload_n 2, 1) := by decide +kernel
theorem dX12_noise_52 : decode cX12_noise 52 = .ok (.iastore, 1) := by decide +kernel
theorem dX12_noise_53 : decode cX12_noise 53 = .ok (.aload_n 0, 1) := by decide +kernel
theorem dX12_noise_54 : decode cX12_noise 54 = .ok (.getfield 97, 3) := by decide +kernel
theorem dX12_noise_57 : decode cX12_noise 57 = .ok (.iload_n 1, 1) := by decide +kernel
theorem dX12_noise_58 : decode cX12_noise 58 = .ok (.dup2, 1) := by decide +kernel
theorem dX12_noise_59 : decode cX12_noise 59 = .ok (.iaload, 1) := by decide +kernel
theorem dX12_noise_60 : decode cX12_noise 60 = .ok (.iconst 1, 1) := by decide +kernel
theorem dX12_noise_61 : decode cX12_noise 61 = .ok (.iadd, 1) := by decide +kernel
theorem dX12_noise_62 : decode cX12_noise 62 = .ok (.iastore, 1) := by decide +kernel
theorem dX12_noise_63 : decode cX12_noise 63 = .ok (.iconst 1, 1) := by decide +kernel
theorem dX12_noise_64 : decode cX12_noise 64 = .ok (.ireturn, 1) := by decide +kernel
theorem dX12_lose_0 : decode cX12_lose 0 = .ok (.aload_n 0, 1) := by decide +kernel
theorem dX12_lose_1 : decode cX12_lose 1 = .ok (.iconst 0, 1) := by decide +kernel
theorem dX12_lose_2 : decode cX12_lose 2 = .ok (.putfield 1, 3) := by decide +kernel
theorem dX12_lose_5 : decode cX12_lose 5 = .ok (.iload_n 1, 1) := by decide +kernel
theorem dX12_lose_6 : decode cX12_lose 6 = .ok (.iconst 2, 1) := by decide +kernel
theorem dX12_lose_7 : decode cX12_lose 7 = .ok (.invokestatic 413, 3) := by decide +kernel
theorem dX12_lose_10 : decode cX12_lose 10 = .ok (.ifCond .eq 12, 3) := by decide +kernel
theorem dX12_lose_13 : decode cX12_lose 13 = .ok (.iload_n 2, 1) := by decide +kernel
theorem dX12_lose_14 : decode cX12_lose 14 = .ok (.bipush 101, 2) := by decide +kernel
theorem dX12_lose_16 : decode cX12_lose 16 = .ok (.invokestatic 413, 3) := by decide +kernel
theorem dX12_lose_19 : decode cX12_lose 19 = .ok (.ifCond .ne 5, 3) := by decide +kernel
theorem dX12_lose_22 : decode cX12_lose 22 = .ok (.iconst 0, 1) := by decide +kernel
theorem dX12_lose_23 : decode cX12_lose 23 = .ok (.ireturn, 1) := by decide +kernel
theorem dX12_lose_24 : decode cX12_lose 24 = .ok (.aload_n 0, 1) := by decide +kernel
theorem dX12_lose_25 : decode cX12_lose 25 = .ok (.getfield 94, 3) := by decide +kernel
theorem dX12_lose_28 : decode cX12_lose 28 = .ok (.iload_n 1, 1) := by decide +kernel
theorem dX12_lose_29 : decode cX12_lose 29 = .ok (.iload_n 2, 1) := by decide +kernel
theorem dX12_lose_30 : decode cX12_lose 30 = .ok (.iastore, 1) := by decide +kernel
theorem dX12_lose_31 : decode cX12_lose 31 = .ok (.iconst 1, 1) := by decide +kernel
theorem dX12_lose_32 : decode cX12_lose 32 = .ok (.ireturn, 1) := by decide +kernel
theorem dX12_air_0 : decode cX12_air 0 = .ok (.aload_n 0, 1) := by decide +kernel
theorem dX12_air_1 : decode cX12_air 1 = .ok (.iload_n 1, 1) := by decide +kernel
theorem dX12_air_2 : decode cX12_air 2 = .ok (.aload_n 0, 1) := by decide +kernel
theorem dX12_air_3 : decode cX12_air 3 = .ok (.getfield 429, 3) := by decide +kernel
theorem dX12_air_6 : decode cX12_air 6 = .ok (.invokestatic 413, 3) := by decide +kernel
theorem dX12_air_9 : decode cX12_air 9 = .ok (.ifCond .eq 31, 3) := by decide +kernel
theorem dX12_air_12 : decode cX12_air 12 = .ok (.iload_n 2, 1) := by decide +kernel
theorem dX12_air_13 : decode cX12_air 13 = .ok (.iconst (-1), 1) := by decide +kernel
theorem dX12_air_14 : decode cX12_air 14 = .ok (.if_icmp .eq 22, 3) := by decide +kernel
theorem dX12_air_17 : decode cX12_air 17 = .ok (.iload_n 2, 1) := by decide +kernel
theorem dX12_air_18 : decode cX12_air 18 = .ok (.bipush (-2), 2) := by decide +kernel
theorem dX12_air_20 : decode cX12_air 20 = .ok (.if_icmp .eq 16, 3) := by decide +kernel
theorem dX12_air_23 : decode cX12_air 23 = .ok (.iload_n 2, 1) := by decide +kernel
theorem dX12_air_24 : decode cX12_air 24 = .ok (.aload_n 0, 1) := by decide +kernel
theorem dX12_air_25 : decode cX12_air 25 = .ok (.getfield 167, 3) := by decide +kernel
theorem dX12_air_28 : decode cX12_air 28 = .ok (.iload_n 1, 1) := by decide +kernel
theorem dX12_air_29 : decode cX12_air 29 = .ok (.iaload, 1) := by decide +kernel
theorem dX12_air_30 : decode cX12_air 30 = .ok (.invokestatic 413, 3) := by decide +kernel
theorem dX12_air_33 : decode cX12_air 33 = .ok (.ifCond .eq 7, 3) := by decide +kernel
theorem dX12_air_36 : decode cX12_air 36 = .ok (.iconst 0, 1) := by decide +kernel
theorem dX12_air_37 : decode cX12_air 37 = .ok (.goto 4, 3) := by decide +kernel
theorem dX12_air_40 : decode cX12_air 40 = .ok (.iconst 1, 1) := by decide +kernel
theorem dX12_air_41 : decode cX12_air 41 = .ok (.putfield 1, 3) := by decide +kernel
theorem dX12_air_44 : decode cX12_air 44 = .ok (.aload_n 0, 1) := by decide +kernel
theorem dX12_air_45 : decode cX12_air 45 = .ok (.getfield 1, 3) := by decide +kernel
theorem dX12_air_48 : decode cX12_air 48 = .ok (.ifCond .le 5, 3) := by decide +kernel
theorem dX12_air_51 : decode cX12_air 51 = .ok (.iconst 0, 1) := by decide +kernel
theorem dX12_air_52 : decode cX12_air 52 = .ok (.ireturn, 1) := by decide +kernel
theorem dX12_air_53 : decode cX12_air 53 = .ok (.iload_n 2, 1) := by decide +kernel
theorem dX12_air_54 : decode cX12_air 54 = .ok (.iconst (-1), 1) := by decide +kernel
theorem dX12_air_55 : decode cX12_air 55 = .ok (.if_icmp .ne 12, 3) := by decide +kernel
theorem dX12_air_58 : decode cX12_air 58 = .ok (.aload_n 0, 1) := by decide +kernel
theorem dX12_air_59 : decode cX12_air 59 = .ok (.getfield 167, 3) := by decide +kernel
theorem dX12_air_62 : decode cX12_air 62 = .ok (.iload_n 1, 1) := by decide +kernel
theorem dX12_air_63 : decode cX12_air 63 = .ok (.iaload, 1) := by decide +kernel
theorem dX12_air_64 : decode cX12_air 64 = .ok (.goto 33, 3) := by decide +kernel
theorem dX12_air_67 : decode cX12_air 67 = .ok (.iload_n 2, 1) := by decide +kernel
theorem dX12_air_68 : decode cX12_air 68 = .ok (.bipush (-2), 2) := by decide +kernel
theorem dX12_air_70 : decode cX12_air 70 = .ok (.if_icmp .ne 12, 3) := by decide +kernel
theorem dX12_air_73 : decode cX12_air 73 = .ok (.aload_n 0, 1) := by decide +kernel
theorem dX12_air_74 : decode cX12_air 74 = .ok (.getfield 170, 3) := by decide +kernel
theorem dX12_air_77 : decode cX12_air 77 = .ok (.iload_n 1, 1) := by decide +kernel
theorem dX12_air_78 : decode cX12_air 78 = .ok (.iaload, 1) := by decide +kernel
theorem dX12_air_79 : decode cX12_air 79 = .ok (.goto 18, 3) := by decide +kernel
theorem dX12_air_82 : decode cX12_air 82 = .ok (.aload_n 0, 1) := by decide +kernel
theorem dX12_air_83 : decode cX12_air 83 = .ok (.getfield 164, 3) := by decide +kernel
theorem dX12_air_86 : decode cX12_air 86 = .ok (.bipush 40, 2) := by decide +kernel
theorem dX12_air_88 : decode cX12_air 88 = .ok (.iload_n 1, 1) := by decide +kernel
theorem dX12_air_89 : decode cX12_air 89 = .ok (.imul, 1) := by decide +kernel
theorem dX12_air_90 : decode cX12_air 90 = .ok (.iload_n 2, 1) := by decide +kernel
theorem dX12_air_91 : decode cX12_air 91 = .ok (.iadd, 1) := by decide +kernel
theorem dX12_air_92 : decode cX12_air 92 = .ok (.baload, 1) := by decide +kernel
theorem dX12_air_93 : decode cX12_air 93 = .ok (.sipush 255, 3) := by decide +kernel
theorem dX12_air_96 : decode cX12_air 96 = .ok (.iand, 1) := by decide +kernel
theorem dX12_air_97 : decode cX12_air 97 = .ok (.ireturn, 1) := by decide +kernel
theorem dX12_device_0 : decode cX12_device 0 = .ok (.aload_n 0, 1) := by decide +kernel
theorem dX12_device_1 : decode cX12_device 1 = .ok (.iconst 0, 1) := by decide +kernel
theorem dX12_device_2 : decode cX12_device 2 = .ok (.putfield 1, 3) := by decide +kernel
theorem dX12_device_5 : decode cX12_device 5 = .ok (.iload_n 1, 1) := by decide +kernel
theorem dX12_device_6 : decode cX12_device 6 = .ok (.iconst 2, 1) := by decide +kernel
theorem dX12_device_7 : decode cX12_device 7 = .ok (.invokestatic 413, 3) := by decide +kernel
theorem dX12_device_10 : decode cX12_device 10 = .ok (.ifCond .ne 5, 3) := by decide +kernel
theorem dX12_device_13 : decode cX12_device 13 = .ok (.iconst (-1), 1) := by decide +kernel
theorem dX12_device_14 : decode cX12_device 14 = .ok (.ireturn, 1) := by decide +kernel
theorem dX12_device_15 : decode cX12_device 15 = .ok (.iload_n 1, 1) := by decide +kernel
theorem dX12_device_16 : decode cX12_device 16 = .ok (.istore_n 3, 1) := by decide +kernel
theorem dX12_device_17 : decode cX12_device 17 = .ok (.aload_n 0, 1) := by decide +kernel
theorem dX12_device_18 : decode cX12_device 18 = .ok (.iload_n 3, 1) := by decide +kernel
theorem dX12_device_19 : decode cX12_device 19 = .ok (.invokevirtual 662, 3) := by decide +kernel
theorem dX12_device_22 : decode cX12_device 22 = .ok (.istore 4, 2) := by decide +kernel
theorem dX12_device_24 : decode cX12_device 24 = .ok (.iload_n 2, 1) := by decide +kernel
theorem dX12_device_25 : decode cX12_device 25 = .ok (.tableswitch 473 0 28 #[131, 138, 154, 170, 186, 202, 218, 234, 250, 295, 302, 309, 316, 323, 338, 353, 360, 367, 374, 381, 388, 395, 402, 409, 416, 423, 430, 451, 458], 131) := by decide +kernel
theorem dX12_device_156 : decode cX12_device 156 = .ok (.aload_n 0, 1) := by decide +kernel
theorem dX12_device_157 : decode cX12_device 157 = .ok (.getfield 45, 3) := by decide +kernel
theorem dX12_device_160 : decode cX12_device 160 = .ok (.iload_n 3, 1) := by decide +kernel
theorem dX12_device_161 : decode cX12_device 161 = .ok (.iaload, 1) := by decide +kernel
theorem dX12_device_162 : decode cX12_device 162 = .ok (.ireturn, 1) := by decide +kernel
theorem dX12_device_163 : decode cX12_device 163 = .ok (.iload 4, 2) := by decide +kernel
theorem dX12_device_165 : decode cX12_device 165 = .ok (.ifCond .eq 12, 3) := by decide +kernel
theorem dX12_device_168 : decode cX12_device 168 = .ok (.aload_n 0, 1) := by decide +kernel
theorem dX12_device_169 : decode cX12_device 169 = .ok (.getfield 112, 3) := by decide +kernel
theorem dX12_device_172 : decode cX12_device 172 = .ok (.iload_n 3, 1) := by decide +kernel
theorem dX12_device_173 : decode cX12_device 173 = .ok (.iaload, 1) := by decide +kernel
theorem dX12_device_174 : decode cX12_device 174 = .ok (.goto 4, 3) := by decide +kernel
theorem dX12_device_177 : decode cX12_device 177 = .ok (.iconst 0, 1) := by decide +kernel
theorem dX12_device_178 : decode cX12_device 178 = .ok (.ireturn, 1) := by decide +kernel
theorem dX12_device_179 : decode cX12_device 179 = .ok (.iload 4, 2) := by decide +kernel
theorem dX12_device_181 : decode cX12_device 181 = .ok (.ifCond .eq 12, 3) := by decide +kernel
theorem dX12_device_184 : decode cX12_device 184 = .ok (.aload_n 0, 1) := by decide +kernel
theorem dX12_device_185 : decode cX12_device 185 = .ok (.getfield 118, 3) := by decide +kernel
theorem dX12_device_188 : decode cX12_device 188 = .ok (.iload_n 3, 1) := by decide +kernel
theorem dX12_device_189 : decode cX12_device 189 = .ok (.iaload, 1) := by decide +kernel
theorem dX12_device_190 : decode cX12_device 190 = .ok (.goto 4, 3) := by decide +kernel
theorem dX12_device_193 : decode cX12_device 193 = .ok (.iconst (-1), 1) := by decide +kernel
theorem dX12_device_194 : decode cX12_device 194 = .ok (.ireturn, 1) := by decide +kernel
theorem dX12_device_195 : decode cX12_device 195 = .ok (.iload 4, 2) := by decide +kernel
theorem dX12_device_197 : decode cX12_device 197 = .ok (.ifCond .eq 12, 3) := by decide +kernel
theorem dX12_device_200 : decode cX12_device 200 = .ok (.aload_n 0, 1) := by decide +kernel
theorem dX12_device_201 : decode cX12_device 201 = .ok (.getfield 124, 3) := by decide +kernel
theorem dX12_device_204 : decode cX12_device 204 = .ok (.iload_n 3, 1) := by decide +kernel
theorem dX12_device_205 : decode cX12_device 205 = .ok (.iaload, 1) := by decide +kernel
theorem dX12_device_206 : decode cX12_device 206 = .ok (.goto 4, 3) := by decide +kernel
theorem dX12_device_209 : decode cX12_device 209 = .ok (.iconst 0, 1) := by decide +kernel
theorem dX12_device_210 : decode cX12_device 210 = .ok (.ireturn, 1) := by decide +kernel
theorem dX12_device_211 : decode cX12_device 211 = .ok (.iload 4, 2) := by decide +kernel
theorem dX12_device_213 : decode cX12_device 213 = .ok (.ifCond .eq 12, 3) := by decide +kernel
theorem dX12_device_216 : decode cX12_device 216 = .ok (.aload_n 0, 1) := by decide +kernel
theorem dX12_device_217 : decode cX12_device 217 = .ok (.getfield 127, 3) := by decide +kernel
theorem dX12_device_220 : decode cX12_device 220 = .ok (.iload_n 3, 1) := by decide +kernel
theorem dX12_device_221 : decode cX12_device 221 = .ok (.iaload, 1) := by decide +kernel
theorem dX12_device_222 : decode cX12_device 222 = .ok (.goto 4, 3) := by decide +kernel
theorem dX12_device_225 : decode cX12_device 225 = .ok (.iconst 0, 1) := by decide +kernel
theorem dX12_device_226 : decode cX12_device 226 = .ok (.ireturn, 1) := by decide +kernel
theorem dX12_device_227 : decode cX12_device 227 = .ok (.iload 4, 2) := by decide +kernel
theorem dX12_device_229 : decode cX12_device 229 = .ok (.ifCond .eq 12, 3) := by decide +kernel
theorem dX12_device_232 : decode cX12_device 232 = .ok (.aload_n 0, 1) := by decide +kernel
theorem dX12_device_233 : decode cX12_device 233 = .ok (.getfield 51, 3) := by decide +kernel
theorem dX12_device_236 : decode cX12_device 236 = .ok (.iload_n 3, 1) := by decide +kernel
theorem dX12_device_237 : decode cX12_device 237 = .ok (.iaload, 1) := by decide +kernel
theorem dX12_device_238 : decode cX12_device 238 = .ok (.goto 4, 3) := by decide +kernel
theorem dX12_device_241 : decode cX12_device 241 = .ok (.iconst 0, 1) := by decide +kernel
theorem dX12_device_242 : decode cX12_device 242 = .ok (.ireturn, 1) := by decide +kernel
theorem dX12_device_243 : decode cX12_device 243 = .ok (.iload 4, 2) := by decide +kernel
theorem dX12_device_245 : decode cX12_device 245 = .ok (.ifCond .eq 12, 3) := by decide +kernel
theorem dX12_device_248 : decode cX12_device 248 = .ok (.aload_n 0, 1) := by decide +kernel
theorem dX12_device_249 : decode cX12_device 249 = .ok (.getfield 106, 3) := by decide +kernel
theorem dX12_device_252 : decode cX12_device 252 = .ok (.iload_n 3, 1) := by decide +kernel
theorem dX12_device_253 : decode cX12_device 253 = .ok (.iaload, 1) := by decide +kernel
theorem dX12_device_254 : decode cX12_device 254 = .ok (.goto 4, 3) := by decide +kernel
theorem dX12_device_257 : decode cX12_device 257 = .ok (.iconst 0, 1) := by decide +kernel
theorem dX12_device_258 : decode cX12_device 258 = .ok (.ireturn, 1) := by decide +kernel
theorem dX12_device_259 : decode cX12_device 259 = .ok (.iload 4, 2) := by decide +kernel
theorem dX12_device_261 : decode cX12_device 261 = .ok (.ifCond .eq 12, 3) := by decide +kernel
theorem dX12_device_264 : decode cX12_device 264 = .ok (.aload_n 0, 1) := by decide +kernel
theorem dX12_device_265 : decode cX12_device 265 = .ok (.getfield 103, 3) := by decide +kernel
theorem dX12_device_268 : decode cX12_device 268 = .ok (.iload_n 3, 1) := by decide +kernel
theorem dX12_device_269 : decode cX12_device 269 = .ok (.iaload, 1) := by decide +kernel
theorem dX12_device_270 : decode cX12_device 270 = .ok (.goto 4, 3) := by decide +kernel
theorem dX12_device_273 : decode cX12_device 273 = .ok (.iconst 0, 1) := by decide +kernel
theorem dX12_device_274 : decode cX12_device 274 = .ok (.ireturn, 1) := by decide +kernel
theorem dX12_device_275 : decode cX12_device 275 = .ok (.iload 4, 2) := by decide +kernel
theorem dX12_device_277 : decode cX12_device 277 = .ok (.ifCond .eq 17, 3) := by decide +kernel
theorem dX12_device_280 : decode cX12_device 280 = .ok (.aload_n 0, 1) := by decide +kernel
theorem dX12_device_281 : decode cX12_device 281 = .ok (.getfield 121, 3) := by decide +kernel
theorem dX12_device_284 : decode cX12_device 284 = .ok (.iload_n 3, 1) := by decide +kernel
theorem dX12_device_285 : decode cX12_device 285 = .ok (.iaload, 1) := by decide +kernel
theorem dX12_device_286 : decode cX12_device 286 = .ok (.aload_n 0, 1) := by decide +kernel
theorem dX12_device_287 : decode cX12_device 287 = .ok (.getfield 470, 3) := by decide +kernel
theorem dX12_device_290 : decode cX12_device 290 = .ok (.isub, 1) := by decide +kernel
theorem dX12_device_291 : decode cX12_device 291 = .ok (.goto 28, 3) := by decide +kernel
theorem dX12_device_294 : decode cX12_device 294 = .ok (.aload_n 0, 1) := by decide +kernel
theorem dX12_device_295 : decode cX12_device 295 = .ok (.getfield 45, 3) := by decide +kernel
theorem dX12_device_298 : decode cX12_device 298 = .ok (.iload_n 3, 1) := by decide +kernel
theorem dX12_device_299 : decode cX12_device 299 = .ok (.iaload, 1) := by decide +kernel
theorem dX12_device_300 : decode cX12_device 300 = .ok (.iconst 1, 1) := by decide +kernel
theorem dX12_device_301 : decode cX12_device 301 = .ok (.if_icmp .ne 17, 3) := by decide +kernel
theorem dX12_device_304 : decode cX12_device 304 = .ok (.aload_n 0, 1) := by decide +kernel
theorem dX12_device_305 : decode cX12_device 305 = .ok (.getfield 54, 3) := by decide +kernel
theorem dX12_device_308 : decode cX12_device 308 = .ok (.iload_n 3, 1) := by decide +kernel
theorem dX12_device_309 : decode cX12_device 309 = .ok (.iaload, 1) := by decide +kernel
theorem dX12_device_310 : decode cX12_device 310 = .ok (.aload_n 0, 1) := by decide +kernel
theorem dX12_device_311 : decode cX12_device 311 = .ok (.getfield 470, 3) := by decide +kernel
theorem dX12_device_314 : decode cX12_device 314 = .ok (.isub, 1) := by decide +kernel
theorem dX12_device_315 : decode cX12_device 315 = .ok (.goto 4, 3) := by decide +kernel
theorem dX12_device_318 : decode cX12_device 318 = .ok (.iconst 0, 1) := by decide +kernel
theorem dX12_device_319 : decode cX12_device 319 = .ok (.ireturn, 1) := by decide +kernel
theorem dX12_device_320 : decode cX12_device 320 = .ok (.aload_n 0, 1) := by decide +kernel
theorem dX12_device_321 : decode cX12_device 321 = .ok (.getfield 191, 3) := by decide +kernel
theorem dX12_device_324 : decode cX12_device 324 = .ok (.iload_n 3, 1) := by decide +kernel
theorem dX12_device_325 : decode cX12_device 325 = .ok (.iaload, 1) := by decide +kernel
theorem dX12_device_326 : decode cX12_device 326 = .ok (.ireturn, 1) := by decide +kernel
theorem dX12_device_327 : decode cX12_device 327 = .ok (.aload_n 0, 1) := by decide +kernel
theorem dX12_device_328 : decode cX12_device 328 = .ok (.getfield 275, 3) := by decide +kernel
theorem dX12_device_331 : decode cX12_device 331 = .ok (.iload_n 3, 1) := by decide +kernel
theorem dX12_device_332 : decode cX12_device 332 = .ok (.iaload, 1) := by decide +kernel
theorem dX12_device_333 : decode cX12_device 333 = .ok (.ireturn, 1) := by decide +kernel
theorem dX12_device_334 : decode cX12_device 334 = .ok (.aload_n 0, 1) := by decide +kernel
theorem dX12_device_335 : decode cX12_device 335 = .ok (.getfield 182, 3) := by decide +kernel
theorem dX12_device_338 : decode cX12_device 338 = .ok (.iload_n 3, 1) := by decide +kernel
theorem dX12_device_339 : decode cX12_device 339 = .ok (.iaload, 1) := by decide +kernel
theorem dX12_device_340 : decode cX12_device 340 = .ok (.ireturn, 1) := by decide +kernel
theorem dX12_device_341 : decode cX12_device 341 = .ok (.aload_n 0, 1) := by decide +kernel
theorem dX12_device_342 : decode cX12_device 342 = .ok (.getfield 185, 3) := by decide +kernel
theorem dX12_device_345 : decode cX12_device 345 = .ok (.iload_n 3, 1) := by decide +kernel
theorem dX12_device_346 : decode cX12_device 346 = .ok (.iaload, 1) := by decide +kernel
theorem dX12_device_347 : decode cX12_device 347 = .ok (.ireturn, 1) := by decide +kernel
theorem dX12_device_348 : decode cX12_device 348 = .ok (.aload_n 0, 1) := by decide +kernel
theorem dX12_device_349 : decode cX12_device 349 = .ok (.getfield 224, 3) := by decide +kernel
theorem dX12_device_352 : decode cX12_device 352 = .ok (.iload_n 3, 1) := by decide +kernel
theorem dX12_device_353 : decode cX12_device 353 = .ok (.baload, 1) := by decide +kernel
theorem dX12_device_354 : decode cX12_device 354 = .ok (.ifCond .eq 7, 3) := by decide +kernel
theorem dX12_device_357 : decode cX12_device 357 = .ok (.iconst 1, 1) := by decide +kernel
theorem dX12_device_358 : decode cX12_device 358 = .ok (.goto 4, 3) := by decide +kernel
theorem dX12_device_361 : decode cX12_device 361 = .ok (.iconst 0, 1) := by decide +kernel
theorem dX12_device_362 : decode cX12_device 362 = .ok (.ireturn, 1) := by decide +kernel
theorem dX12_device_363 : decode cX12_device 363 = .ok (.aload_n 0, 1) := by decide +kernel
theorem dX12_device_364 : decode cX12_device 364 = .ok (.getfield 239, 3) := by decide +kernel
theorem dX12_device_367 : decode cX12_device 367 = .ok (.iload_n 3, 1) := by decide +kernel
theorem dX12_device_368 : decode cX12_device 368 = .ok (.baload, 1) := by decide +kernel
theorem dX12_device_369 : decode cX12_device 369 = .ok (.ifCond .eq 7, 3) := by decide +kernel
theorem dX12_device_372 : decode cX12_device 372 = .ok (.iconst 1, 1) := by decide +kernel
theorem dX12_device_373 : decode cX12_device 373 = .ok (.goto 4, 3) := by decide +kernel
theorem dX12_device_376 : decode cX12_device 376 = .ok (.iconst 0, 1) := by decide +kernel
theorem dX12_device_377 : decode cX12_device 377 = .ok (.ireturn, 1) := by decide +kernel
theorem dX12_device_378 : decode cX12_device 378 = .ok (.aload_n 0, 1) := by decide +kernel
theorem dX12_device_379 : decode cX12_device 379 = .ok (.getfield 194, 3) := by decide +kernel
theorem dX12_device_382 : decode cX12_device 382 = .ok (.iload_n 3, 1) := by decide +kernel
theorem dX12_device_383 : decode cX12_device 383 = .ok (.iaload, 1) := by decide +kernel
theorem dX12_device_384 : decode cX12_device 384 = .ok (.ireturn, 1) := by decide +kernel
theorem dX12_device_385 : decode cX12_device 385 = .ok (.aload_n 0, 1) := by decide +kernel
theorem dX12_device_386 : decode cX12_device 386 = .ok (.getfield 197, 3) := by decide +kernel
theorem dX12_device_389 : decode cX12_device 389 = .ok (.iload_n 3, 1) := by decide +kernel
theorem dX12_device_390 : decode cX12_device 390 = .ok (.iaload, 1) := by decide +kernel
theorem dX12_device_391 : decode cX12_device 391 = .ok (.ireturn, 1) := by decide +kernel
theorem dX12_device_392 : decode cX12_device 392 = .ok (.aload_n 0, 1) := by decide +kernel
theorem dX12_device_393 : decode cX12_device 393 = .ok (.getfield 332, 3) := by decide +kernel
theorem dX12_device_396 : decode cX12_device 396 = .ok (.iload_n 3, 1) := by decide +kernel
theorem dX12_device_397 : decode cX12_device 397 = .ok (.iaload, 1) := by decide +kernel
theorem dX12_device_398 : decode cX12_device 398 = .ok (.ireturn, 1) := by decide +kernel
theorem dX12_device_399 : decode cX12_device 399 = .ok (.aload_n 0, 1) := by decide +kernel
theorem dX12_device_400 : decode cX12_device 400 = .ok (.getfield 296, 3) := by decide +kernel
theorem dX12_device_403 : decode cX12_device 403 = .ok (.iload_n 3, 1) := by decide +kernel
theorem dX12_device_404 : decode cX12_device 404 = .ok (.iaload, 1) := by decide +kernel
theorem dX12_device_405 : decode cX12_device 405 = .ok (.ireturn, 1) := by decide +kernel
theorem dX12_device_406 : decode cX12_device 406 = .ok (.aload_n 0, 1) := by decide +kernel
theorem dX12_device_407 : decode cX12_device 407 = .ok (.getfield 365, 3) := by decide +kernel
theorem dX12_device_410 : decode cX12_device 410 = .ok (.iload_n 3, 1) := by decide +kernel
theorem dX12_device_411 : decode cX12_device 411 = .ok (.iaload, 1) := by decide +kernel
theorem dX12_device_412 : decode cX12_device 412 = .ok (.ireturn, 1) := by decide +kernel
theorem dX12_device_413 : decode cX12_device 413 = .ok (.aload_n 0, 1) := by decide +kernel
theorem dX12_device_414 : decode cX12_device 414 = .ok (.getfield 338, 3) := by decide +kernel
theorem dX12_device_417 : decode cX12_device 417 = .ok (.iload_n 3, 1) := by decide +kernel
theorem dX12_device_418 : decode cX12_device 418 = .ok (.iaload, 1) := by decide +kernel
theorem dX12_device_419 : decode cX12_device 419 = .ok (.ireturn, 1) := by decide +kernel
theorem dX12_device_420 : decode cX12_device 420 = .ok (.aload_n 0, 1) := by decide +kernel
theorem dX12_device_421 : decode cX12_device 421 = .ok (.getfield 88, 3) := by decide +kernel
theorem dX12_device_424 : decode cX12_device 424 = .ok (.iload_n 3, 1) := by decide +kernel
theorem dX12_device_425 : decode cX12_device 425 = .ok (.iaload, 1) := by decide +kernel
theorem dX12_device_426 : decode cX12_device 426 = .ok (.ireturn, 1) := by decide +kernel
theorem dX12_device_427 : decode cX12_device 427 = .ok (.aload_n 0, 1) := by decide +kernel
theorem dX12_device_428 : decode cX12_device 428 = .ok (.getfield 91, 3) := by decide +kernel
theorem dX12_device_431 : decode cX12_device 431 = .ok (.iload_n 3, 1) := by decide +kernel
theorem dX12_device_432 : decode cX12_device 432 = .ok (.iaload, 1) := by decide +kernel
theorem dX12_device_433 : decode cX12_device 433 = .ok (.ireturn, 1) := by decide +kernel
theorem dX12_device_434 : decode cX12_device 434 = .ok (.aload_n 0, 1) := by decide +kernel
theorem dX12_device_435 : decode cX12_device 435 = .ok (.getfield 320, 3) := by decide +kernel
theorem dX12_device_438 : decode cX12_device 438 = .ok (.iload_n 3, 1) := by decide +kernel
theorem dX12_device_439 : decode cX12_device 439 = .ok (.iaload, 1) := by decide +kernel
theorem dX12_device_440 : decode cX12_device 440 = .ok (.ireturn, 1) := by decide +kernel
theorem dX12_device_441 : decode cX12_device 441 = .ok (.aload_n 0, 1) := by decide +kernel
theorem dX12_device_442 : decode cX12_device 442 = .ok (.getfield 158, 3) := by decide +kernel
theorem dX12_device_445 : decode cX12_device 445 = .ok (.iload_n 3, 1) := by decide +kernel
theorem dX12_device_446 : decode cX12_device 446 = .ok (.iaload, 1) := by decide +kernel
theorem dX12_device_447 : decode cX12_device 447 = .ok (.ireturn, 1) := by decide +kernel
theorem dX12_device_448 : decode cX12_device 448 = .ok (.aload_n 0, 1) := by decide +kernel
theorem dX12_device_449 : decode cX12_device 449 = .ok (.getfield 161, 3) := by decide +kernel
theorem dX12_device_452 : decode cX12_device 452 = .ok (.iload_n 3, 1) := by decide +kernel
theorem dX12_device_453 : decode cX12_device 453 = .ok (.iaload, 1) := by decide +kernel
theorem dX12_device_454 : decode cX12_device 454 = .ok (.ireturn, 1) := by decide +kernel
theorem dX12_device_455 : decode cX12_device 455 = .ok (.iload 4, 2) := by decide +kernel
theorem dX12_device_457 : decode cX12_device 457 = .ok (.ifCond .eq 17, 3) := by decide +kernel
theorem dX12_device_460 : decode cX12_device 460 = .ok (.aload_n 0, 1) := by decide +kernel
theorem dX12_device_461 : decode cX12_device 461 = .ok (.getfield 470, 3) := by decide +kernel
theorem dX12_device_464 : decode cX12_device 464 = .ok (.aload_n 0, 1) := by decide +kernel
theorem dX12_device_465 : decode cX12_device 465 = .ok (.getfield 130, 3) := by decide +kernel
theorem dX12_device_468 : decode cX12_device 468 = .ok (.iload_n 3, 1) := by decide +kernel
theorem dX12_device_469 : decode cX12_device 469 = .ok (.iaload, 1) := by decide +kernel
theorem dX12_device_470 : decode cX12_device 470 = .ok (.isub, 1) := by decide +kernel
theorem dX12_device_471 : decode cX12_device 471 = .ok (.goto 4, 3) := by decide +kernel
theorem dX12_device_474 : decode cX12_device 474 = .ok (.iconst 0, 1) := by decide +kernel
theorem dX12_device_475 : decode cX12_device 475 = .ok (.ireturn, 1) := by decide +kernel
theorem dX12_device_476 : decode cX12_device 476 = .ok (.aload_n 0, 1) := by decide +kernel
theorem dX12_device_477 : decode cX12_device 477 = .ok (.getfield 94, 3) := by decide +kernel
theorem dX12_device_480 : decode cX12_device 480 = .ok (.iload_n 3, 1) := by decide +kernel
theorem dX12_device_481 : decode cX12_device 481 = .ok (.iaload, 1) := by decide +kernel
theorem dX12_device_482 : decode cX12_device 482 = .ok (.ireturn, 1) := by decide +kernel
theorem dX12_device_483 : decode cX12_device 483 = .ok (.aload_n 0, 1) := by decide +kernel
theorem dX12_device_484 : decode cX12_device 484 = .ok (.getfield 362, 3) := by decide +kernel
theorem dX12_device_487 : decode cX12_device 487 = .ok (.iload_n 3, 1) := by decide +kernel
theorem dX12_device_488 : decode cX12_device 488 = .ok (.baload, 1) := by decide +kernel
theorem dX12_device_489 : decode cX12_device 489 = .ok (.ifCond .eq 7, 3) := by decide +kernel
theorem dX12_device_492 : decode cX12_device 492 = .ok (.iconst 1, 1) := by decide +kernel
theorem dX12_device_493 : decode cX12_device 493 = .ok (.goto 4, 3) := by decide +kernel
theorem dX12_device_496 : decode cX12_device 496 = .ok (.iconst 0, 1) := by decide +kernel
theorem dX12_device_497 : decode cX12_device 497 = .ok (.ireturn, 1) := by decide +kernel
theorem dX12_device_498 : decode cX12_device 498 = .ok (.iconst (-1), 1) := by decide +kernel
theorem dX12_device_499 : decode cX12_device 499 = .ok (.ireturn, 1) := by decide +kernel
theorem dX12_byteOf_0 : decode cX12_byteOf 0 = .ok (.aload_n 0, 1) := by decide +kernel
theorem dX12_byteOf_1 : decode cX12_byteOf 1 = .ok (.iconst 0, 1) := by decide +kernel
theorem dX12_byteOf_2 : decode cX12_byteOf 2 = .ok (.putfield 1, 3) := by decide +kernel
theorem dX12_byteOf_5 : decode cX12_byteOf 5 = .ok (.iload_n 1, 1) := by decide +kernel
theorem dX12_byteOf_6 : decode cX12_byteOf 6 = .ok (.iconst 2, 1) := by decide +kernel
theorem dX12_byteOf_7 : decode cX12_byteOf 7 = .ok (.invokestatic 413, 3) := by decide +kernel
theorem dX12_byteOf_10 : decode cX12_byteOf 10 = .ok (.ifCond .eq 7, 3) := by decide +kernel
theorem dX12_byteOf_13 : decode cX12_byteOf 13 = .ok (.iload_n 3, 1) := by decide +kernel
theorem dX12_byteOf_14 : decode cX12_byteOf 14 = .ok (.ifCond .ge 5, 3) := by decide +kernel
theorem dX12_byteOf_17 : decode cX12_byteOf 17 = .ok (.iconst (-1), 1) := by decide +kernel
theorem dX12_byteOf_18 : decode cX12_byteOf 18 = .ok (.ireturn, 1) := by decide +kernel
theorem dX12_byteOf_19 : decode cX12_byteOf 19 = .ok (.iload_n 2, 1) := by decide +kernel
theorem dX12_byteOf_20 : decode cX12_byteOf 20 = .ok (.iconst 4, 1) := by decide +kernel
theorem dX12_byteOf_21 : decode cX12_byteOf 21 = .ok (.if_icmp .ne 26, 3) := by decide +kernel
theorem dX12_byteOf_24 : decode cX12_byteOf 24 = .ok (.iload_n 3, 1) := by decide +kernel
theorem dX12_byteOf_25 : decode cX12_byteOf 25 = .ok (.aload_n 0, 1) := by decide +kernel
theorem dX12_byteOf_26 : decode cX12_byteOf 26 = .ok (.getfield 7, 3) := by decide +kernel
theorem dX12_byteOf_29 : decode cX12_byteOf 29 = .ok (.if_icmp .ge 16, 3) := by decide +kernel
theorem dX12_byteOf_32 : decode cX12_byteOf 32 = .ok (.aload_n 0, 1) := by decide +kernel
theorem dX12_byteOf_33 : decode cX12_byteOf 33 = .ok (.getfield 10, 3) := by decide +kernel
theorem dX12_byteOf_36 : decode cX12_byteOf 36 = .ok (.iload_n 3, 1) := by decide +kernel
theorem dX12_byteOf_37 : decode cX12_byteOf 37 = .ok (.baload, 1) := by decide +kernel
theorem dX12_byteOf_38 : decode cX12_byteOf 38 = .ok (.sipush 255, 3) := by decide +kernel
theorem dX12_byteOf_41 : decode cX12_byteOf 41 = .ok (.iand, 1) := by decide +kernel
theorem dX12_byteOf_42 : decode cX12_byteOf 42 = .ok (.goto 4, 3) := by decide +kernel
theorem dX12_byteOf_45 : decode cX12_byteOf 45 = .ok (.iconst (-1), 1) := by decide +kernel
theorem dX12_byteOf_46 : decode cX12_byteOf 46 = .ok (.ireturn, 1) := by decide +kernel
theorem dX12_byteOf_47 : decode cX12_byteOf 47 = .ok (.iload_n 2, 1) := by decide +kernel
theorem dX12_byteOf_48 : decode cX12_byteOf 48 = .ok (.tableswitch 167 0 3 #[32, 62, 97, 132], 32) := by decide +kernel
theorem dX12_byteOf_80 : decode cX12_byteOf 80 = .ok (.iload_n 3, 1) := by decide +kernel
theorem dX12_byteOf_81 : decode cX12_byteOf 81 = .ok (.aload_n 0, 1) := by decide +kernel
theorem dX12_byteOf_82 : decode cX12_byteOf 82 = .ok (.getfield 91, 3) := by decide +kernel
theorem dX12_byteOf_85 : decode cX12_byteOf 85 = .ok (.iload_n 1, 1) := by decide +kernel
theorem dX12_byteOf_86 : decode cX12_byteOf 86 = .ok (.iaload, 1) := by decide +kernel
theorem dX12_byteOf_87 : decode cX12_byteOf 87 = .ok (.if_icmp .ge 21, 3) := by decide +kernel
theorem dX12_byteOf_90 : decode cX12_byteOf 90 = .ok (.aload_n 0, 1) := by decide +kernel
theorem dX12_byteOf_91 : decode cX12_byteOf 91 = .ok (.getfield 85, 3) := by decide +kernel
theorem dX12_byteOf_94 : decode cX12_byteOf 94 = .ok (.bipush 32, 2) := by decide +kernel
theorem dX12_byteOf_96 : decode cX12_byteOf 96 = .ok (.iload_n 1, 1) := by decide +kernel
theorem dX12_byteOf_97 : decode cX12_byteOf 97 = .ok (.imul, 1) := by decide +kernel
theorem dX12_byteOf_98 : decode cX12_byteOf 98 = .ok (.iload_n 3, 1) := by decide +kernel
theorem dX12_byteOf_99 : decode cX12_byteOf 99 = .ok (.iadd, 1) := by decide +kernel
theorem dX12_byteOf_100 : decode cX12_byteOf 100 = .ok (.baload, 1) := by decide +kernel
theorem dX12_byteOf_101 : decode cX12_byteOf 101 = .ok (.sipush 255, 3) := by decide +kernel
theorem dX12_byteOf_104 : decode cX12_byteOf 104 = .ok (.iand, 1) := by decide +kernel
theorem dX12_byteOf_105 : decode cX12_byteOf 105 = .ok (.goto 4, 3) := by decide +kernel
theorem dX12_byteOf_108 : decode cX12_byteOf 108 = .ok (.iconst (-1), 1) := by decide +kernel
theorem dX12_byteOf_109 : decode cX12_byteOf 109 = .ok (.ireturn, 1) := by decide +kernel
theorem dX12_byteOf_110 : decode cX12_byteOf 110 = .ok (.iload_n 3, 1) := by decide +kernel
theorem dX12_byteOf_111 : decode cX12_byteOf 111 = .ok (.bipush 16, 2) := by decide +kernel
theorem dX12_byteOf_113 : decode cX12_byteOf 113 = .ok (.if_icmp .ge 30, 3) := by decide +kernel
theorem dX12_byteOf_116 : decode cX12_byteOf 116 = .ok (.aload_n 0, 1) := by decide +kernel
theorem dX12_byteOf_117 : decode cX12_byteOf 117 = .ok (.getfield 245, 3) := by decide +kernel
theorem dX12_byteOf_120 : decode cX12_byteOf 120 = .ok (.iload_n 1, 1) := by decide +kernel
theorem dX12_byteOf_121 : decode cX12_byteOf 121 = .ok (.baload, 1) := by decide +kernel
theorem dX12_byteOf_122 : decode cX12_byteOf 122 = .ok (.ifCond .eq 21, 3) := by decide +kernel
theorem dX12_byteOf_125 : decode cX12_byteOf 125 = .ok (.aload_n 0, 1) := by decide +kernel
theorem dX12_byteOf_126 : decode cX12_byteOf 126 = .ok (.getfield 206, 3) := by decide +kernel
theorem dX12_byteOf_129 : decode cX12_byteOf 129 = .ok (.bipush 16, 2) := by decide +kernel
theorem dX12_byteOf_131 : decode cX12_byteOf 131 = .ok (.iload_n 1, 1) := by decide +kernel
theorem dX12_byteOf_132 : decode cX12_byteOf 132 = .ok (.imul, 1) := by decide +kernel
theorem dX12_byteOf_133 : decode cX12_byteOf 133 = .ok (.iload_n 3, 1) := by decide +kernel
theorem dX12_byteOf_134 : decode cX12_byteOf 134 = .ok (.iadd, 1) := by decide +kernel
theorem dX12_byteOf_135 : decode cX12_byteOf 135 = .ok (.baload, 1) := by decide +kernel
theorem dX12_byteOf_136 : decode cX12_byteOf 136 = .ok (.sipush 255, 3) := by decide +kernel
theorem dX12_byteOf_139 : decode cX12_byteOf 139 = .ok (.iand, 1) := by decide +kernel
theorem dX12_byteOf_140 : decode cX12_byteOf 140 = .ok (.goto 4, 3) := by decide +kernel
theorem dX12_byteOf_143 : decode cX12_byteOf 143 = .ok (.iconst (-1), 1) := by decide +kernel
theorem dX12_byteOf_144 : decode cX12_byteOf 144 = .ok (.ireturn, 1) := by decide +kernel
theorem dX12_byteOf_145 : decode cX12_byteOf 145 = .ok (.iload_n 3, 1) := by decide +kernel
theorem dX12_byteOf_146 : decode cX12_byteOf 146 = .ok (.bipush 16, 2) := by decide +kernel
theorem dX12_byteOf_148 : decode cX12_byteOf 148 = .ok (.if_icmp .ge 30, 3) := by decide +kernel
theorem dX12_byteOf_151 : decode cX12_byteOf 151 = .ok (.aload_n 0, 1) := by decide +kernel
theorem dX12_byteOf_152 : decode cX12_byteOf 152 = .ok (.getfield 242, 3) := by decide +kernel
theorem dX12_byteOf_155 : decode cX12_byteOf 155 = .ok (.iload_n 1, 1) := by decide +kernel
theorem dX12_byteOf_156 : decode cX12_byteOf 156 = .ok (.baload, 1) := by decide +kernel
theorem dX12_byteOf_157 : decode cX12_byteOf 157 = .ok (.ifCond .eq 21, 3) := by decide +kernel
theorem dX12_byteOf_160 : decode cX12_byteOf 160 = .ok (.aload_n 0, 1) := by decide +kernel
theorem dX12_byteOf_161 : decode cX12_byteOf 161 = .ok (.getfield 209, 3) := by decide +kernel
theorem dX12_byteOf_164 : decode cX12_byteOf 164 = .ok (.bipush 16, 2) := by decide +kernel
theorem dX12_byteOf_166 : decode cX12_byteOf 166 = .ok (.iload_n 1, 1) := by decide +kernel
theorem dX12_byteOf_167 : decode cX12_byteOf 167 = .ok (.imul, 1) := by decide +kernel
theorem dX12_byteOf_168 : decode cX12_byteOf 168 = .ok (.iload_n 3, 1) := by decide +kernel
theorem dX12_byteOf_169 : decode cX12_byteOf 169 = .ok (.iadd, 1) := by decide +kernel
theorem dX12_byteOf_170 : decode cX12_byteOf 170 = .ok (.baload, 1) := by decide +kernel
theorem dX12_byteOf_171 : decode cX12_byteOf 171 = .ok (.sipush 255, 3) := by decide +kernel
theorem dX12_byteOf_174 : decode cX12_byteOf 174 = .ok (.iand, 1) := by decide +kernel
theorem dX12_byteOf_175 : decode cX12_byteOf 175 = .ok (.goto 4, 3) := by decide +kernel
theorem dX12_byteOf_178 : decode cX12_byteOf 178 = .ok (.iconst (-1), 1) := by decide +kernel
theorem dX12_byteOf_179 : decode cX12_byteOf 179 = .ok (.ireturn, 1) := by decide +kernel
theorem dX12_byteOf_180 : decode cX12_byteOf 180 = .ok (.iload_n 3, 1) := by decide +kernel
theorem dX12_byteOf_181 : decode cX12_byteOf 181 = .ok (.bipush 8, 2) := by decide +kernel
theorem dX12_byteOf_183 : decode cX12_byteOf 183 = .ok (.if_icmp .ge 30, 3) := by decide +kernel
theorem dX12_byteOf_186 : decode cX12_byteOf 186 = .ok (.aload_n 0, 1) := by decide +kernel
theorem dX12_byteOf_187 : decode cX12_byteOf 187 = .ok (.getfield 242, 3) := by decide +kernel
theorem dX12_byteOf_190 : decode cX12_byteOf 190 = .ok (.iload_n 1, 1) := by decide +kernel
theorem dX12_byteOf_191 : decode cX12_byteOf 191 = .ok (.baload, 1) := by decide +kernel
theorem dX12_byteOf_192 : decode cX12_byteOf 192 = .ok (.ifCond .eq 21, 3) := by decide +kernel
theorem dX12_byteOf_195 : decode cX12_byteOf 195 = .ok (.aload_n 0, 1) := by decide +kernel
theorem dX12_byteOf_196 : decode cX12_byteOf 196 = .ok (.getfield 212, 3) := by decide +kernel
theorem dX12_byteOf_199 : decode cX12_byteOf 199 = .ok (.bipush 8, 2) := by decide +kernel
theorem dX12_byteOf_201 : decode cX12_byteOf 201 = .ok (.iload_n 1, 1) := by decide +kernel
theorem dX12_byteOf_202 : decode cX12_byteOf 202 = .ok (.imul, 1) := by decide +kernel
theorem dX12_byteOf_203 : decode cX12_byteOf 203 = .ok (.iload_n 3, 1) := by decide +kernel
theorem dX12_byteOf_204 : decode cX12_byteOf 204 = .ok (.iadd, 1) := by decide +kernel
theorem dX12_byteOf_205 : decode cX12_byteOf 205 = .ok (.baload, 1) := by decide +kernel
theorem dX12_byteOf_206 : decode cX12_byteOf 206 = .ok (.sipush 255, 3) := by decide +kernel
theorem dX12_byteOf_209 : decode cX12_byteOf 209 = .ok (.iand, 1) := by decide +kernel
theorem dX12_byteOf_210 : decode cX12_byteOf 210 = .ok (.goto 4, 3) := by decide +kernel
theorem dX12_byteOf_213 : decode cX12_byteOf 213 = .ok (.iconst (-1), 1) := by decide +kernel
theorem dX12_byteOf_214 : decode cX12_byteOf 214 = .ok (.ireturn, 1) := by decide +kernel
theorem dX12_byteOf_215 : decode cX12_byteOf 215 = .ok (.iconst (-1), 1) := by decide +kernel
theorem dX12_byteOf_216 : decode cX12_byteOf 216 = .ok (.ireturn, 1) := by decide +kernel
theorem dX12_mayControl_0 : decode cX12_mayControl 0 = .ok (.iload_n 1, 1) := by decide +kernel
theorem dX12_mayControl_1 : decode cX12_mayControl 1 = .ok (.iconst 2, 1) := by decide +kernel
theorem dX12_mayControl_2 : decode cX12_mayControl 2 = .ok (.invokestatic 413, 3) := by decide +kernel
theorem dX12_mayControl_5 : decode cX12_mayControl 5 = .ok (.ifCond .eq 34, 3) := by decide +kernel
theorem dX12_mayControl_8 : decode cX12_mayControl 8 = .ok (.aload_n 0, 1) := by decide +kernel
theorem dX12_mayControl_9 : decode cX12_mayControl 9 = .ok (.iload_n 1, 1) := by decide +kernel
theorem dX12_mayControl_10 : decode cX12_mayControl 10 = .ok (.invokevirtual 662, 3) := by decide +kernel
theorem dX12_mayControl_13 : decode cX12_mayControl 13 = .ok (.ifCond .eq 26, 3) := by decide +kernel
theorem dX12_mayControl_16 : decode cX12_mayControl 16 = .ok (.aload_n 0, 1) := by decide +kernel
theorem dX12_mayControl_17 : decode cX12_mayControl 17 = .ok (.getfield 191, 3) := by decide +kernel
theorem dX12_mayControl_20 : decode cX12_mayControl 20 = .ok (.iload_n 1, 1) := by decide +kernel
theorem dX12_mayControl_21 : decode cX12_mayControl 21 = .ok (.iaload, 1) := by decide +kernel
theorem dX12_mayControl_22 : decode cX12_mayControl 22 = .ok (.iconst 4, 1) := by decide +kernel
theorem dX12_mayControl_23 : decode cX12_mayControl 23 = .ok (.if_icmp .gt 16, 3) := by decide +kernel
theorem dX12_mayControl_26 : decode cX12_mayControl 26 = .ok (.aload_n 0, 1) := by decide +kernel
theorem dX12_mayControl_27 : decode cX12_mayControl 27 = .ok (.getfield 224, 3) := by decide +kernel
theorem dX12_mayControl_30 : decode cX12_mayControl 30 = .ok (.iload_n 1, 1) := by decide +kernel
theorem dX12_mayControl_31 : decode cX12_mayControl 31 = .ok (.baload, 1) := by decide +kernel
theorem dX12_mayControl_32 : decode cX12_mayControl 32 = .ok (.ifCond .ne 7, 3) := by decide +kernel
theorem dX12_mayControl_35 : decode cX12_mayControl 35 = .ok (.iconst 1, 1) := by decide +kernel
theorem dX12_mayControl_36 : decode cX12_mayControl 36 = .ok (.goto 4, 3) := by decide +kernel
theorem dX12_mayControl_39 : decode cX12_mayControl 39 = .ok (.iconst 0, 1) := by decide +kernel
theorem dX12_mayControl_40 : decode cX12_mayControl 40 = .ok (.ireturn, 1) := by decide +kernel
theorem dX12_control_0 : decode cX12_control 0 = .ok (.aload_n 0, 1) := by decide +kernel
theorem dX12_control_1 : decode cX12_control 1 = .ok (.iconst 0, 1) := by decide +kernel
theorem dX12_control_2 : decode cX12_control 2 = .ok (.putfield 1, 3) := by decide +kernel
theorem dX12_control_5 : decode cX12_control 5 = .ok (.aload_n 0, 1) := by decide +kernel
theorem dX12_control_6 : decode cX12_control 6 = .ok (.iload_n 1, 1) := by decide +kernel
theorem dX12_control_7 : decode cX12_control 7 = .ok (.invokevirtual 683, 3) := by decide +kernel
theorem dX12_control_10 : decode cX12_control 10 = .ok (.ifCond .eq 24, 3) := by decide +kernel
theorem dX12_control_13 : decode cX12_control 13 = .ok (.iload_n 2, 1) := by decide +kernel
theorem dX12_control_14 : decode cX12_control 14 = .ok (.iconst 3, 1) := by decide +kernel
theorem dX12_control_15 : decode cX12_control 15 = .ok (.invokestatic 413, 3) := by decide +kernel
theorem dX12_control_18 : decode cX12_control 18 = .ok (.ifCond .eq 16, 3) := by decide +kernel
theorem dX12_control_21 : decode cX12_control 21 = .ok (.iload_n 2, 1) := by decide +kernel
theorem dX12_control_22 : decode cX12_control 22 = .ok (.ifCond .ne 14, 3) := by decide +kernel
theorem dX12_control_25 : decode cX12_control 25 = .ok (.aload_n 0, 1) := by decide +kernel
theorem dX12_control_26 : decode cX12_control 26 = .ok (.getfield 248, 3) := by decide +kernel
theorem dX12_control_29 : decode cX12_control 29 = .ok (.iload_n 1, 1) := by decide +kernel
theorem dX12_control_30 : decode cX12_control 30 = .ok (.baload, 1) := by decide +kernel
theorem dX12_control_31 : decode cX12_control 31 = .ok (.ifCond .eq 5, 3) := by decide +kernel
theorem dX12_control_34 : decode cX12_control 34 = .ok (.iconst 0, 1) := by decide +kernel
theorem dX12_control_35 : decode cX12_control 35 = .ok (.ireturn, 1) := by decide +kernel
theorem dX12_control_36 : decode cX12_control 36 = .ok (.iload_n 2, 1) := by decide +kernel
theorem dX12_control_37 : decode cX12_control 37 = .ok (.ifCond .ne 11, 3) := by decide +kernel
theorem dX12_control_40 : decode cX12_control 40 = .ok (.aload_n 0, 1) := by decide +kernel
theorem dX12_control_41 : decode cX12_control 41 = .ok (.iload_n 1, 1) := by decide +kernel
theorem dX12_control_42 : decode cX12_control 42 = .ok (.invokevirtual 507, 3) := by decide +kernel
theorem dX12_control_45 : decode cX12_control 45 = .ok (.goto 55, 3) := by decide +kernel
theorem dX12_control_48 : decode cX12_control 48 = .ok (.iload_n 2, 1) := by decide +kernel
theorem dX12_control_49 : decode cX12_control 49 = .ok (.iconst 1, 1) := by decide +kernel
theorem dX12_control_50 : decode cX12_control 50 = .ok (.if_icmp .ne 41, 3) := by decide +kernel
theorem dX12_control_53 : decode cX12_control 53 = .ok (.aload_n 0, 1) := by decide +kernel
theorem dX12_control_54 : decode cX12_control 54 = .ok (.getfield 260, 3) := by decide +kernel
theorem dX12_control_57 : decode cX12_control 57 = .ok (.iconst 0, 1) := by decide +kernel
theorem dX12_control_58 : decode cX12_control 58 = .ok (.bipush 8, 2) := by decide +kernel
theorem dX12_control_60 : decode cX12_control 60 = .ok (.bastore, 1) := by decide +kernel
theorem dX12_control_61 : decode cX12_control 61 = .ok (.aload_n 0, 1) := by decide +kernel
theorem dX12_control_62 : decode cX12_control 62 = .ok (.getfield 260, 3) := by decide +kernel
theorem dX12_control_65 : decode cX12_control 65 = .ok (.iconst 1, 1) := by decide +kernel
theorem dX12_control_66 : decode cX12_control 66 = .ok (.aload_n 0, 1) := by decide +kernel
theorem dX12_control_67 : decode cX12_control 67 = .ok (.getfield 76, 3) := by decide +kernel
theorem dX12_control_70 : decode cX12_control 70 = .ok (.iload_n 1, 1) := by decide +kernel
theorem dX12_control_71 : decode cX12_control 71 = .ok (.laload, 1) := by decide +kernel
theorem dX12_control_72 : decode cX12_control 72 = .ok (.bipush 8, 2) := by decide +kernel
theorem dX12_control_74 : decode cX12_control 74 = .ok (.invokestatic 432, 3) := by decide +kernel
theorem dX12_control_77 : decode cX12_control 77 = .ok (.aload_n 0, 1) := by decide +kernel
theorem dX12_control_78 : decode cX12_control 78 = .ok (.iload_n 1, 1) := by decide +kernel
theorem dX12_control_79 : decode cX12_control 79 = .ok (.aload_n 0, 1) := by decide +kernel
theorem dX12_control_80 : decode cX12_control 80 = .ok (.getfield 260, 3) := by decide +kernel
theorem dX12_control_83 : decode cX12_control 83 = .ok (.bipush 9, 2) := by decide +kernel
theorem dX12_control_85 : decode cX12_control 85 = .ok (.invokevirtual 436, 3) := by decide +kernel
theorem dX12_control_88 : decode cX12_control 88 = .ok (.goto 12, 3) := by decide +kernel
theorem dX12_control_91 : decode cX12_control 91 = .ok (.aload_n 0, 1) := by decide +kernel
theorem dX12_control_92 : decode cX12_control 92 = .ok (.iload_n 1, 1) := by decide +kernel
theorem dX12_control_93 : decode cX12_control 93 = .ok (.iconst 2, 1) := by decide +kernel
theorem dX12_control_94 : decode cX12_control 94 = .ok (.bipush 19, 2) := by decide +kernel
theorem dX12_control_96 : decode cX12_control 96 = .ok (.iconst 1, 1) := by decide +kernel
theorem dX12_control_97 : decode cX12_control 97 = .ok (.invokevirtual 486, 3) := by decide +kernel
theorem dX12_control_100 : decode cX12_control 100 = .ok (.iconst 1, 1) := by decide +kernel
theorem dX12_control_101 : decode cX12_control 101 = .ok (.ireturn, 1) := by decide +kernel
theorem dX12_map_0 : decode cX12_map 0 = .ok (.aload_n 0, 1) := by decide +kernel
theorem dX12_map_1 : decode cX12_map 1 = .ok (.iconst 0, 1) := by decide +kernel
theorem dX12_map_2 : decode cX12_map 2 = .ok (.putfield 1, 3) := by decide +kernel
theorem dX12_map_5 : decode cX12_map 5 = .ok (.aload_n 0, 1) := by decide +kernel
theorem dX12_map_6 : decode cX12_map 6 = .ok (.iload_n 1, 1) := by decide +kernel
theorem dX12_map_7 : decode cX12_map 7 = .ok (.invokevirtual 683, 3) := by decide +kernel
theorem dX12_map_10 : decode cX12_map 10 = .ok (.ifCond .eq 29, 3) := by decide +kernel
theorem dX12_map_13 : decode cX12_map 13 = .ok (.aload_n 0, 1) := by decide +kernel
theorem dX12_map_14 : decode cX12_map 14 = .ok (.getfield 45, 3) := by decide +kernel
theorem dX12_map_17 : decode cX12_map 17 = .ok (.iload_n 1, 1) := by decide +kernel
theorem dX12_map_18 : decode cX12_map 18 = .ok (.iaload, 1) := by decide +kernel
theorem dX12_map_19 : decode cX12_map 19 = .ok (.iconst 4, 1) := by decide +kernel
theorem dX12_map_20 : decode cX12_map 20 = .ok (.if_icmp .ne 19, 3) := by decide +kernel
theorem dX12_map_23 : decode cX12_map 23 = .ok (.aload_n 0, 1) := by decide +kernel
theorem dX12_map_24 : decode cX12_map 24 = .ok (.getfield 149, 3) := by decide +kernel
theorem dX12_map_27 : decode cX12_map 27 = .ok (.iload_n 1, 1) := by decide +kernel
theorem dX12_map_28 : decode cX12_map 28 = .ok (.baload, 1) := by decide +kernel
theorem dX12_map_29 : decode cX12_map 29 = .ok (.ifCond .ne 10, 3) := by decide +kernel
theorem dX12_map_32 : decode cX12_map 32 = .ok (.lload_n 2, 1) := by decide +kernel
theorem dX12_map_33 : decode cX12_map 33 = .ok (.invokestatic 497, 3) := by decide +kernel
theorem dX12_map_36 : decode cX12_map 36 = .ok (.ifCond .ne 5, 3) := by decide +kernel
theorem dX12_map_39 : decode cX12_map 39 = .ok (.iconst 0, 1) := by decide +kernel
theorem dX12_map_40 : decode cX12_map 40 = .ok (.ireturn, 1) := by decide +kernel
theorem dX12_map_41 : decode cX12_map 41 = .ok (.aload_n 0, 1) := by decide +kernel
theorem dX12_map_42 : decode cX12_map 42 = .ok (.getfield 73, 3) := by decide +kernel
theorem dX12_map_45 : decode cX12_map 45 = .ok (.iload_n 1, 1) := by decide +kernel
theorem dX12_map_46 : decode cX12_map 46 = .ok (.lload_n 2, 1) := by decide +kernel
theorem dX12_map_47 : decode cX12_map 47 = .ok (.lastore, 1) := by decide +kernel
theorem dX12_map_48 : decode cX12_map 48 = .ok (.aload_n 0, 1) := by decide +kernel
theorem dX12_map_49 : decode cX12_map 49 = .ok (.getfield 139, 3) := by decide +kernel
theorem dX12_map_52 : decode cX12_map 52 = .ok (.iload_n 1, 1) := by decide +kernel
theorem dX12_map_53 : decode cX12_map 53 = .ok (.aload_n 0, 1) := by decide +kernel
theorem dX12_map_54 : decode cX12_map 54 = .ok (.getfield 112, 3) := by decide +kernel
theorem dX12_map_57 : decode cX12_map 57 = .ok (.iload_n 1, 1) := by decide +kernel
theorem dX12_map_58 : decode cX12_map 58 = .ok (.iaload, 1) := by decide +kernel
theorem dX12_map_59 : decode cX12_map 59 = .ok (.bipush 8, 2) := by decide +kernel
theorem dX12_map_61 : decode cX12_map 61 = .ok (.iadd, 1) := by decide +kernel
theorem dX12_map_62 : decode cX12_map 62 = .ok (.ldc_w 493, 3) := by decide +kernel
theorem dX12_map_65 : decode cX12_map 65 = .ok (.iand, 1) := by decide +kernel
theorem dX12_map_66 : decode cX12_map 66 = .ok (.iastore, 1) := by decide +kernel
theorem dX12_map_67 : decode cX12_map 67 = .ok (.aload_n 0, 1) := by decide +kernel
theorem dX12_map_68 : decode cX12_map 68 = .ok (.getfield 149, 3) := by decide +kernel
theorem dX12_map_71 : decode cX12_map 71 = .ok (.iload_n 1, 1) := by decide +kernel
theorem dX12_map_72 : decode cX12_map 72 = .ok (.iconst 1, 1) := by decide +kernel
theorem dX12_map_73 : decode cX12_map 73 = .ok (.bastore, 1) := by decide +kernel
theorem dX12_map_74 : decode cX12_map 74 = .ok (.aload_n 0, 1) := by decide +kernel
theorem dX12_map_75 : decode cX12_map 75 = .ok (.getfield 260, 3) := by decide +kernel
theorem dX12_map_78 : decode cX12_map 78 = .ok (.iconst 0, 1) := by decide +kernel
theorem dX12_map_79 : decode cX12_map 79 = .ok (.iconst 1, 1) := by decide +kernel
theorem dX12_map_80 : decode cX12_map 80 = .ok (.bastore, 1) := by decide +kernel
theorem dX12_map_81 : decode cX12_map 81 = .ok (.aload_n 0, 1) := by decide +kernel
theorem dX12_map_82 : decode cX12_map 82 = .ok (.getfield 260, 3) := by decide +kernel
theorem dX12_map_85 : decode cX12_map 85 = .ok (.iconst 1, 1) := by decide +kernel
theorem dX12_map_86 : decode cX12_map 86 = .ok (.lload_n 2, 1) := by decide +kernel
theorem dX12_map_87 : decode cX12_map 87 = .ok (.iconst 5, 1) := by decide +kernel
theorem dX12_map_88 : decode cX12_map 88 = .ok (.invokestatic 432, 3) := by decide +kernel
theorem dX12_map_91 : decode cX12_map 91 = .ok (.aload_n 0, 1) := by decide +kernel
theorem dX12_map_92 : decode cX12_map 92 = .ok (.getfield 260, 3) := by decide +kernel
theorem dX12_map_95 : decode cX12_map 95 = .ok (.bipush 6, 2) := by decide +kernel
theorem dX12_map_97 : decode cX12_map 97 = .ok (.aload_n 0, 1) := by decide +kernel
theorem dX12_map_98 : decode cX12_map 98 = .ok (.getfield 139, 3) := by decide +kernel
theorem dX12_map_101 : decode cX12_map 101 = .ok (.iload_n 1, 1) := by decide +kernel
theorem dX12_map_102 : decode cX12_map 102 = .ok (.iaload, 1) := by decide +kernel
theorem dX12_map_103 : decode cX12_map 103 = .ok (.i2l, 1) := by decide +kernel
theorem dX12_map_104 : decode cX12_map 104 = .ok (.iconst 2, 1) := by decide +kernel
theorem dX12_map_105 : decode cX12_map 105 = .ok (.invokestatic 432, 3) := by decide +kernel
theorem dX12_map_108 : decode cX12_map 108 = .ok (.aload_n 0, 1) := by decide +kernel
theorem dX12_map_109 : decode cX12_map 109 = .ok (.iload_n 1, 1) := by decide +kernel
theorem dX12_map_110 : decode cX12_map 110 = .ok (.aload_n 0, 1) := by decide +kernel
theorem dX12_map_111 : decode cX12_map 111 = .ok (.getfield 260, 3) := by decide +kernel
theorem dX12_map_114 : decode cX12_map 114 = .ok (.bipush 8, 2) := by decide +kernel
theorem dX12_map_116 : decode cX12_map 116 = .ok (.invokevirtual 436, 3) := by decide +kernel
theorem dX12_map_119 : decode cX12_map 119 = .ok (.iconst 1, 1) := by decide +kernel
theorem dX12_map_120 : decode cX12_map 120 = .ok (.ireturn, 1) := by decide +kernel
theorem dX12_encrypt_0 : decode cX12_encrypt 0 = .ok (.aload_n 0, 1) := by decide +kernel
theorem dX12_encrypt_1 : decode cX12_encrypt 1 = .ok (.iconst 0, 1) := by decide +kernel
theorem dX12_encrypt_2 : decode cX12_encrypt 2 = .ok (.putfield 1, 3) := by decide +kernel
theorem dX12_encrypt_5 : decode cX12_encrypt 5 = .ok (.aload_n 0, 1) := by decide +kernel
theorem dX12_encrypt_6 : decode cX12_encrypt 6 = .ok (.iload_n 1, 1) := by decide +kernel
theorem dX12_encrypt_7 : decode cX12_encrypt 7 = .ok (.invokevirtual 683, 3) := by decide +kernel
theorem dX12_encrypt_10 : decode cX12_encrypt 10 = .ok (.ifCond .eq 31, 3) := by decide +kernel
theorem dX12_encrypt_13 : decode cX12_encrypt 13 = .ok (.aload_n 0, 1) := by decide +kernel
theorem dX12_encrypt_14 : decode cX12_encrypt 14 = .ok (.getfield 45, 3) := by decide +kernel
theorem dX12_encrypt_17 : decode cX12_encrypt 17 = .ok (.iload_n 1, 1) := by decide +kernel
theorem dX12_encrypt_18 : decode cX12_encrypt 18 = .ok (.iaload, 1) := by decide +kernel
theorem dX12_encrypt_19 : decode cX12_encrypt 19 = .ok (.iconst 4, 1) := by decide +kernel
theorem dX12_encrypt_20 : decode cX12_encrypt 20 = .ok (.if_icmp .ne 21, 3) := by decide +kernel
theorem dX12_encrypt_23 : decode cX12_encrypt 23 = .ok (.aload_n 0, 1) := by decide +kernel
theorem dX12_encrypt_24 : decode cX12_encrypt 24 = .ok (.getfield 245, 3) := by decide +kernel
theorem dX12_encrypt_27 : decode cX12_encrypt 27 = .ok (.iload_n 1, 1) := by decide +kernel
theorem dX12_encrypt_28 : decode cX12_encrypt 28 = .ok (.baload, 1) := by decide +kernel
theorem dX12_encrypt_29 : decode cX12_encrypt 29 = .ok (.ifCond .eq 12, 3) := by decide +kernel
theorem dX12_encrypt_32 : decode cX12_encrypt 32 = .ok (.aload_n 0, 1) := by decide +kernel
theorem dX12_encrypt_33 : decode cX12_encrypt 33 = .ok (.getfield 239, 3) := by decide +kernel
theorem dX12_encrypt_36 : decode cX12_encrypt 36 = .ok (.iload_n 1, 1) := by decide +kernel
theorem dX12_encrypt_37 : decode cX12_encrypt 37 = .ok (.baload, 1) := by decide +kernel
theorem dX12_encrypt_38 : decode cX12_encrypt 38 = .ok (.ifCond .eq 5, 3) := by decide +kernel
theorem dX12_encrypt_41 : decode cX12_encrypt 41 = .ok (.iconst 0, 1) := by decide +kernel
theorem dX12_encrypt_42 : decode cX12_encrypt 42 = .ok (.ireturn, 1) := by decide +kernel
theorem dX12_encrypt_43 : decode cX12_encrypt 43 = .ok (.aload_n 0, 1) := by decide +kernel
theorem dX12_encrypt_44 : decode cX12_encrypt 44 = .ok (.getfield 224, 3) := by decide +kernel
theorem dX12_encrypt_47 : decode cX12_encrypt 47 = .ok (.iload_n 1, 1) := by decide +kernel
theorem dX12_encrypt_48 : decode cX12_encrypt 48 = .ok (.iconst 1, 1) := by decide +kernel
theorem dX12_encrypt_49 : decode cX12_encrypt 49 = .ok (.bastore, 1) := by decide +kernel
theorem dX12_encrypt_50 : decode cX12_encrypt 50 = .ok (.aload_n 0, 1) := by decide +kernel
theorem dX12_encrypt_51 : decode cX12_encrypt 51 = .ok (.getfield 227, 3) := by decide +kernel
theorem dX12_encrypt_54 : decode cX12_encrypt 54 = .ok (.iload_n 1, 1) := by decide +kernel
theorem dX12_encrypt_55 : decode cX12_encrypt 55 = .ok (.iconst 1, 1) := by decide +kernel
theorem dX12_encrypt_56 : decode cX12_encrypt 56 = .ok (.bastore, 1) := by decide +kernel
theorem dX12_encrypt_57 : decode cX12_encrypt 57 = .ok (.aload_n 0, 1) := by decide +kernel
theorem dX12_encrypt_58 : decode cX12_encrypt 58 = .ok (.getfield 230, 3) := by decide +kernel
theorem dX12_encrypt_61 : decode cX12_encrypt 61 = .ok (.iload_n 1, 1) := by decide +kernel
theorem dX12_encrypt_62 : decode cX12_encrypt 62 = .ok (.iconst 0, 1) := by decide +kernel
theorem dX12_encrypt_63 : decode cX12_encrypt 63 = .ok (.bastore, 1) := by decide +kernel
theorem dX12_encrypt_64 : decode cX12_encrypt 64 = .ok (.aload_n 0, 1) := by decide +kernel
theorem dX12_encrypt_65 : decode cX12_encrypt 65 = .ok (.getfield 242, 3) := by decide +kernel
theorem dX12_encrypt_68 : decode cX12_encrypt 68 = .ok (.iload_n 1, 1) := by decide +kernel
theorem dX12_encrypt_69 : decode cX12_encrypt 69 = .ok (.iconst 0, 1) := by decide +kernel
theorem dX12_encrypt_70 : decode cX12_encrypt 70 = .ok (.bastore, 1) := by decide +kernel
theorem dX12_encrypt_71 : decode cX12_encrypt 71 = .ok (.aload_n 0, 1) := by decide +kernel
theorem dX12_encrypt_72 : decode cX12_encrypt 72 = .ok (.iload_n 1, 1) := by decide +kernel
theorem dX12_encrypt_73 : decode cX12_encrypt 73 = .ok (.invokevirtual 512, 3) := by decide +kernel
theorem dX12_encrypt_76 : decode cX12_encrypt 76 = .ok (.aload_n 0, 1) := by decide +kernel
theorem dX12_encrypt_77 : decode cX12_encrypt 77 = .ok (.iload_n 1, 1) := by decide +kernel
theorem dX12_encrypt_78 : decode cX12_encrypt 78 = .ok (.iconst 3, 1) := by decide +kernel
theorem dX12_encrypt_79 : decode cX12_encrypt 79 = .ok (.invokevirtual 519, 3) := by decide +kernel
theorem dX12_encrypt_82 : decode cX12_encrypt 82 = .ok (.iconst 1, 1) := by decide +kernel
theorem dX12_encrypt_83 : decode cX12_encrypt 83 = .ok (.ireturn, 1) := by decide +kernel
theorem dX12_pair_0 : decode cX12_pair 0 = .ok (.aload_n 0, 1) := by decide +kernel
theorem dX12_pair_1 : decode cX12_pair 1 = .ok (.iconst 0, 1) := by decide +kernel
theorem dX12_pair_2 : decode cX12_pair 2 = .ok (.putfield 1, 3) := by decide +kernel
theorem dX12_pair_5 : decode cX12_pair 5 = .ok (.iload_n 1, 1) := by decide +kernel
theorem dX12_pair_6 : decode cX12_pair 6 = .ok (.iconst 2, 1) := by decide +kernel
theorem dX12_pair_7 : decode cX12_pair 7 = .ok (.invokestatic 413, 3) := by decide +kernel
theorem dX12_pair_10 : decode cX12_pair 10 = .ok (.ifCond .eq 43, 3) := by decide +kernel
theorem dX12_pair_13 : decode cX12_pair 13 = .ok (.aload_n 0, 1) := by decide +kernel
theorem dX12_pair_14 : decode cX12_pair 14 = .ok (.getfield 45, 3) := by decide +kernel
theorem dX12_pair_17 : decode cX12_pair 17 = .ok (.iload_n 1, 1) := by decide +kernel
theorem dX12_pair_18 : decode cX12_pair 18 = .ok (.iaload, 1) := by decide +kernel
theorem dX12_pair_19 : decode cX12_pair 19 = .ok (.iconst 4, 1) := by decide +kernel
theorem dX12_pair_20 : decode cX12_pair 20 = .ok (.if_icmp .ne 33, 3) := by decide +kernel
theorem dX12_pair_23 : decode cX12_pair 23 = .ok (.aload_n 0, 1) := by decide +kernel
theorem dX12_pair_24 : decode cX12_pair 24 = .ok (.getfield 296, 3) := by decide +kernel
theorem dX12_pair_27 : decode cX12_pair 27 = .ok (.iload_n 1, 1) := by decide +kernel
theorem dX12_pair_28 : decode cX12_pair 28 = .ok (.iaload, 1) := by decide +kernel
theorem dX12_pair_29 : decode cX12_pair 29 = .ok (.ifCond .ne 24, 3) := by decide +kernel
theorem dX12_pair_32 : decode cX12_pair 32 = .ok (.iload_n 2, 1) := by decide +kernel
theorem dX12_pair_33 : decode cX12_pair 33 = .ok (.ldc_w 686, 3) := by decide +kernel
theorem dX12_pair_36 : decode cX12_pair 36 = .ok (.invokestatic 413, 3) := by decide +kernel
theorem dX12_pair_39 : decode cX12_pair 39 = .ok (.ifCond .eq 14, 3) := by decide +kernel
theorem dX12_pair_42 : decode cX12_pair 42 = .ok (.aload_n 0, 1) := by decide +kernel
theorem dX12_pair_43 : decode cX12_pair 43 = .ok (.getfield 275, 3) := by decide +kernel
theorem dX12_pair_46 : decode cX12_pair 46 = .ok (.iload_n 1, 1) := by decide +kernel
theorem dX12_pair_47 : decode cX12_pair 47 = .ok (.iaload, 1) := by decide +kernel
theorem dX12_pair_48 : decode cX12_pair 48 = .ok (.bipush 8, 2) := by decide +kernel
theorem dX12_pair_50 : decode cX12_pair 50 = .ok (.if_icmp .ne 5, 3) := by decide +kernel
theorem dX12_pair_53 : decode cX12_pair 53 = .ok (.iconst 0, 1) := by decide +kernel
theorem dX12_pair_54 : decode cX12_pair 54 = .ok (.ireturn, 1) := by decide +kernel
theorem dX12_pair_55 : decode cX12_pair 55 = .ok (.aload_n 0, 1) := by decide +kernel
theorem dX12_pair_56 : decode cX12_pair 56 = .ok (.getfield 302, 3) := by decide +kernel
theorem dX12_pair_59 : decode cX12_pair 59 = .ok (.iload_n 1, 1) := by decide +kernel
theorem dX12_pair_60 : decode cX12_pair 60 = .ok (.iload_n 2, 1) := by decide +kernel
theorem dX12_pair_61 : decode cX12_pair 61 = .ok (.iastore, 1) := by decide +kernel
theorem dX12_pair_62 : decode cX12_pair 62 = .ok (.aload_n 0, 1) := by decide +kernel
theorem dX12_pair_63 : decode cX12_pair 63 = .ok (.iload_n 1, 1) := by decide +kernel
theorem dX12_pair_64 : decode cX12_pair 64 = .ok (.iconst 1, 1) := by decide +kernel
theorem dX12_pair_65 : decode cX12_pair 65 = .ok (.invokevirtual 534, 3) := by decide +kernel
theorem dX12_pair_68 : decode cX12_pair 68 = .ok (.aload_n 0, 1) := by decide +kernel
theorem dX12_pair_69 : decode cX12_pair 69 = .ok (.getfield 296, 3) := by decide +kernel
theorem dX12_pair_72 : decode cX12_pair 72 = .ok (.iload_n 1, 1) := by decide +kernel
theorem dX12_pair_73 : decode cX12_pair 73 = .ok (.iconst 1, 1) := by decide +kernel
theorem dX12_pair_74 : decode cX12_pair 74 = .ok (.iastore, 1) := by decide +kernel
theorem dX12_pair_75 : decode cX12_pair 75 = .ok (.iconst 1, 1) := by decide +kernel
theorem dX12_pair_76 : decode cX12_pair 76 = .ok (.ireturn, 1) := by decide +kernel
theorem dX12_allow_0 : decode cX12_allow 0 = .ok (.aload_n 0, 1) := by decide +kernel
theorem dX12_allow_1 : decode cX12_allow 1 = .ok (.iconst 0, 1) := by decide +kernel
theorem dX12_allow_2 : decode cX12_allow 2 = .ok (.putfield 1, 3) := by decide +kernel
theorem dX12_allow_5 : decode cX12_allow 5 = .ok (.iload_n 1, 1) := by decide +kernel
theorem dX12_allow_6 : decode cX12_allow 6 = .ok (.iconst 2, 1) := by decide +kernel
theorem dX12_allow_7 : decode cX12_allow 7 = .ok (.invokestatic 413, 3) := by decide +kernel
theorem dX12_allow_10 : decode cX12_allow 10 = .ok (.ifCond .eq 18, 3) := by decide +kernel
theorem dX12_allow_13 : decode cX12_allow 13 = .ok (.iload_n 2, 1) := by decide +kernel
theorem dX12_allow_14 : decode cX12_allow 14 = .ok (.iconst (-1), 1) := by decide +kernel
theorem dX12_allow_15 : decode cX12_allow 15 = .ok (.if_icmp .eq 15, 3) := by decide +kernel
theorem dX12_allow_18 : decode cX12_allow 18 = .ok (.iload_n 2, 1) := by decide +kernel
theorem dX12_allow_19 : decode cX12_allow 19 = .ok (.ldc_w 686, 3) := by decide +kernel
theorem dX12_allow_22 : decode cX12_allow 22 = .ok (.invokestatic 413, 3) := by decide +kernel
theorem dX12_allow_25 : decode cX12_allow 25 = .ok (.ifCond .ne 5, 3) := by decide +kernel
theorem dX12_allow_28 : decode cX12_allow 28 = .ok (.iconst 0, 1) := by decide +kernel
theorem dX12_allow_29 : decode cX12_allow 29 = .ok (.ireturn, 1) := by decide +kernel
theorem dX12_allow_30 : decode cX12_allow 30 = .ok (.aload_n 0, 1) := by decide +kernel
theorem dX12_allow_31 : decode cX12_allow 31 = .ok (.getfield 299, 3) := by decide +kernel
theorem dX12_allow_34 : decode cX12_allow 34 = .ok (.iload_n 1, 1) := by decide +kernel
theorem dX12_allow_35 : decode cX12_allow 35 = .ok (.iload_n 2, 1) := by decide +kernel
theorem dX12_allow_36 : decode cX12_allow 36 = .ok (.iastore, 1) := by decide +kernel
theorem dX12_allow_37 : decode cX12_allow 37 = .ok (.iconst 1, 1) := by decide +kernel
theorem dX12_allow_38 : decode cX12_allow 38 = .ok (.ireturn, 1) := by decide +kernel
theorem dX12_features_0 : decode cX12_features 0 = .ok (.aload_n 0, 1) := by decide +kernel
theorem dX12_features_1 : decode cX12_features 1 = .ok (.iconst 0, 1) := by decide +kernel
theorem dX12_features_2 : decode cX12_features 2 = .ok (.putfield 1, 3) := by decide +kernel
theorem dX12_features_5 : decode cX12_features 5 = .ok (.iload_n 1, 1) := by decide +kernel
theorem dX12_features_6 : decode cX12_features 6 = .ok (.iconst 2, 1) := by decide +kernel
theorem dX12_features_7 : decode cX12_features 7 = .ok (.invokestatic 413, 3) := by decide +kernel
theorem dX12_features_10 : decode cX12_features 10 = .ok (.ifCond .ne 5, 3) := by decide +kernel
theorem dX12_features_13 : decode cX12_features 13 = .ok (.iconst 0, 1) := by decide +kernel
theorem dX12_features_14 : decode cX12_features 14 = .ok (.ireturn, 1) := by decide +kernel
theorem dX12_features_15 : decode cX12_features 15 = .ok (.aload_n 0, 1) := by decide +kernel
theorem dX12_features_16 : decode cX12_features 16 = .ok (.getfield 76, 3) := by decide +kernel
theorem dX12_features_19 : decode cX12_features 19 = .ok (.iload_n 1, 1) := by decide +kernel
theorem dX12_features_20 : decode cX12_features 20 = .ok (.lload_n 2, 1) := by decide +kernel
theorem dX12_features_21 : decode cX12_features 21 = .ok (.lastore, 1) := by decide +kernel
theorem dX12_features_22 : decode cX12_features 22 = .ok (.iconst 1, 1) := by decide +kernel
theorem dX12_features_23 : decode cX12_features 23 = .ok (.ireturn, 1) := by decide +kernel
theorem dX12_attribute_0 : decode cX12_attribute 0 = .ok (.aload_n 0, 1) := by decide +kernel
theorem dX12_attribute_1 : decode cX12_attribute 1 = .ok (.iconst 0, 1) := by decide +kernel
theorem dX12_attribute_2 : decode cX12_attribute 2 = .ok (.putfield 1, 3) := by decide +kernel
theorem dX12_attribute_5 : decode cX12_attribute 5 = .ok (.iload_n 1, 1) := by decide +kernel
theorem dX12_attribute_6 : decode cX12_attribute 6 = .ok (.iconst 2, 1) := by decide +kernel
theorem dX12_attribute_7 : decode cX12_attribute 7 = .ok (.invokestatic 413, 3) := by decide +kernel
theorem dX12_attribute_10 : decode cX12_attribute 10 = .ok (.ifCond .eq 42, 3) := by decide +kernel
theorem dX12_attribute_13 : decode cX12_attribute 13 = .ok (.aload_n 0, 1) := by decide +kernel
theorem dX12_attribute_14 : decode cX12_attribute 14 = .ok (.getfield 320, 3) := by decide +kernel
theorem dX12_attribute_17 : decode cX12_attribute 17 = .ok (.iload_n 1, 1) := by decide +kernel
theorem dX12_attribute_18 : decode cX12_attribute 18 = .ok (.iaload, 1) := by decide +kernel
theorem dX12_attribute_19 : decode cX12_attribute 19 = .ok (.bipush 20, 2) := by decide +kernel
theorem dX12_attribute_21 : decode cX12_attribute 21 = .ok (.if_icmp .eq 31, 3) := by decide +kernel
theorem dX12_attribute_24 : decode cX12_attribute 24 = .ok (.iload_n 2, 1) := by decide +kernel
theorem dX12_attribute_25 : decode cX12_attribute 25 = .ok (.ldc_w 687, 3) := by decide +kernel
theorem dX12_attribute_28 : decode cX12_attribute 28 = .ok (.invokestatic 413, 3) := by decide +kernel
theorem dX12_attribute_31 : decode cX12_attribute 31 = .ok (.ifCond .eq 21, 3) := by decide +kernel
theorem dX12_attribute_34 : decode cX12_attribute 34 = .ok (.iload_n 3, 1) := by decide +kernel
theorem dX12_attribute_35 : decode cX12_attribute 35 = .ok (.bipush 8, 2) := by decide +kernel
theorem dX12_attribute_37 : decode cX12_attribute 37 = .ok (.invokestatic 413, 3) := by decide +kernel
theorem dX12_attribute_40 : decode cX12_attribute 40 = .ok (.ifCond .eq 12, 3) := by decide +kernel
theorem dX12_attribute_43 : decode cX12_attribute 43 = .ok (.aload_n 0, 1) := by decide +kernel
theorem dX12_attribute_44 : decode cX12_attribute 44 = .ok (.getfield 7, 3) := by decide +kernel
theorem dX12_attribute_47 : decode cX12_attribute 47 = .ok (.bipush 40, 2) := by decide +kernel
theorem dX12_attribute_49 : decode cX12_attribute 49 = .ok (.if_icmp .le 5, 3) := by decide +kernel
theorem dX12_attribute_52 : decode cX12_attribute 52 = .ok (.iconst (-1), 1) := by decide +kernel
theorem dX12_attribute_53 : decode cX12_attribute 53 = .ok (.ireturn, 1) := by decide +kernel
theorem dX12_attribute_54 : decode cX12_attribute 54 = .ok (.aload_n 0, 1) := by decide +kernel
theorem dX12_attribute_55 : decode cX12_attribute 55 = .ok (.getfield 320, 3) := by decide +kernel
theorem dX12_attribute_58 : decode cX12_attribute 58 = .ok (.iload_n 1, 1) := by decide +kernel
theorem dX12_attribute_59 : decode cX12_attribute 59 = .ok (.dup2, 1) := by decide +kernel
theorem dX12_attribute_60 : decode cX12_attribute 60 = .ok (.iaload, 1) := by decide +kernel
theorem dX12_attribute_61 : decode cX12_attribute 61 = .ok (.iconst 1, 1) := by decide +kernel
theorem dX12_attribute_62 : decode cX12_attribute 62 = .ok (.iadd, 1) := by decide +kernel
theorem dX12_attribute_63 : decode cX12_attribute 63 = .ok (.iastore, 1) := by decide +kernel
theorem dX12_attribute_64 : decode cX12_attribute 64 = .ok (.aload_n 0, 1) := by decide +kernel
theorem dX12_attribute_65 : decode cX12_attribute 65 = .ok (.getfield 320, 3) := by decide +kernel
theorem dX12_attribute_68 : decode cX12_attribute 68 = .ok (.iload_n 1, 1) := by decide +kernel
theorem dX12_attribute_69 : decode cX12_attribute 69 = .ok (.iaload, 1) := by decide +kernel
theorem dX12_attribute_70 : decode cX12_attribute 70 = .ok (.istore 4, 2) := by decide +kernel
theorem dX12_attribute_72 : decode cX12_attribute 72 = .ok (.aload_n 0, 1) := by decide +kernel
theorem dX12_attribute_73 : decode cX12_attribute 73 = .ok (.getfield 323, 3) := by decide +kernel
theorem dX12_attribute_76 : decode cX12_attribute 76 = .ok (.aload_n 0, 1) := by decide +kernel
theorem dX12_attribute_77 : decode cX12_attribute 77 = .ok (.iload_n 1, 1) := by decide +kernel
theorem dX12_attribute_78 : decode cX12_attribute 78 = .ok (.iload 4, 2) := by decide +kernel
theorem dX12_attribute_80 : decode cX12_attribute 80 = .ok (.invokevirtual 547, 3) := by decide +kernel
theorem dX12_attribute_83 : decode cX12_attribute 83 = .ok (.iload_n 2, 1) := by decide +kernel
theorem dX12_attribute_84 : decode cX12_attribute 84 = .ok (.iastore, 1) := by decide +kernel
theorem dX12_attribute_85 : decode cX12_attribute 85 = .ok (.aload_n 0, 1) := by decide +kernel
theorem dX12_attribute_86 : decode cX12_attribute 86 = .ok (.getfield 326, 3) := by decide +kernel
theorem dX12_attribute_89 : decode cX12_attribute 89 = .ok (.aload_n 0, 1) := by decide +kernel
theorem dX12_attribute_90 : decode cX12_attribute 90 = .ok (.iload_n 1, 1) := by decide +kernel
theorem dX12_attribute_91 : decode cX12_attribute 91 = .ok (.iload 4, 2) := by decide +kernel
theorem dX12_attribute_93 : decode cX12_attribute 93 = .ok (.invokevirtual 547, 3) := by decide +kernel
theorem dX12_attribute_96 : decode cX12_attribute 96 = .ok (.iload_n 3, 1) := by decide +kernel
theorem dX12_attribute_97 : decode cX12_attribute 97 = .ok (.iastore, 1) := by decide +kernel
theorem dX12_attribute_98 : decode cX12_attribute 98 = .ok (.aload_n 0, 1) := by decide +kernel
theorem dX12_attribute_99 : decode cX12_attribute 99 = .ok (.iload_n 1, 1) := by decide +kernel
theorem dX12_attribute_100 : decode cX12_attribute 100 = .ok (.iload 4, 2) := by decide +kernel
theorem dX12_attribute_102 : decode cX12_attribute 102 = .ok (.invokevirtual 688, 3) := by decide +kernel
theorem dX12_attribute_105 : decode cX12_attribute 105 = .ok (.iload 4, 2) := by decide +kernel
theorem dX12_attribute_107 : decode cX12_attribute 107 = .ok (.ireturn, 1) := by decide +kernel
theorem dX12_becomes_0 : decode cX12_becomes 0 = .ok (.aload_n 0, 1) := by decide +kernel
theorem dX12_becomes_1 : decode cX12_becomes 1 = .ok (.getfield 329, 3) := by decide +kernel
theorem dX12_becomes_4 : decode cX12_becomes 4 = .ok (.aload_n 0, 1) := by decide +kernel
theorem dX12_becomes_5 : decode cX12_becomes 5 = .ok (.iload_n 1, 1) := by decide +kernel
theorem dX12_becomes_6 : decode cX12_becomes 6 = .ok (.iload_n 2, 1) := by decide +kernel
theorem dX12_becomes_7 : decode cX12_becomes 7 = .ok (.invokevirtual 547, 3) := by decide +kernel
theorem dX12_becomes_10 : decode cX12_becomes 10 = .ok (.aload_n 0, 1) := by decide +kernel
theorem dX12_becomes_11 : decode cX12_becomes 11 = .ok (.getfield 7, 3) := by decide +kernel
theorem dX12_becomes_14 : decode cX12_becomes 14 = .ok (.iastore, 1) := by decide +kernel
theorem dX12_becomes_15 : decode cX12_becomes 15 = .ok (.aload_n 0, 1) := by decide +kernel
theorem dX12_becomes_16 : decode cX12_becomes 16 = .ok (.getfield 10, 3) := by decide +kernel
theorem dX12_becomes_19 : decode cX12_becomes 19 = .ok (.iconst 0, 1) := by decide +kernel
theorem dX12_becomes_20 : decode cX12_becomes 20 = .ok (.aload_n 0, 1) := by decide +kernel
theorem dX12_becomes_21 : decode cX12_becomes 21 = .ok (.getfield 341, 3) := by decide +kernel
theorem dX12_becomes_24 : decode cX12_becomes 24 = .ok (.bipush 40, 2) := by decide +kernel
theorem dX12_becomes_26 : decode cX12_becomes 26 = .ok (.aload_n 0, 1) := by decide +kernel
theorem dX12_becomes_27 : decode cX12_becomes 27 = .ok (.iload_n 1, 1) := by decide +kernel
theorem dX12_becomes_28 : decode cX12_becomes 28 = .ok (.iload_n 2, 1) := by decide +kernel
theorem dX12_becomes_29 : decode cX12_becomes 29 = .ok (.invokevirtual 547, 3) := by decide +kernel
theorem dX12_becomes_32 : decode cX12_becomes 32 = .ok (.imul, 1) := by decide +kernel
theorem dX12_becomes_33 : decode cX12_becomes 33 = .ok (.aload_n 0, 1) := by decide +kernel
theorem dX12_becomes_34 : decode cX12_becomes 34 = .ok (.getfield 7, 3) := by decide +kernel
theorem dX12_becomes_37 : decode cX12_becomes 37 = .ok (.invokestatic 29, 3) := by decide +kernel
theorem dX12_becomes_40 : decode cX12_becomes 40 = .ok (.aload_n 0, 1) := by decide +kernel
theorem dX12_becomes_41 : decode cX12_becomes 41 = .ok (.iconst 0, 1) := by decide +kernel
theorem dX12_becomes_42 : decode cX12_becomes 42 = .ok (.putfield 7, 3) := by decide +kernel
theorem dX12_becomes_45 : decode cX12_becomes 45 = .ok (.return_, 1) := by decide +kernel
theorem dX12_set_0 : decode cX12_set 0 = .ok (.aload_n 0, 1) := by decide +kernel
theorem dX12_set_1 : decode cX12_set 1 = .ok (.iconst 0, 1) := by decide +kernel
theorem dX12_set_2 : decode cX12_set 2 = .ok (.putfield 1, 3) := by decide +kernel
theorem dX12_set_5 : decode cX12_set 5 = .ok (.iload_n 1, 1) := by decide +kernel
theorem dX12_set_6 : decode cX12_set 6 = .ok (.iconst 2, 1) := by decide +kernel
theorem dX12_set_7 : decode cX12_set 7 = .ok (.invokestatic 413, 3) := by decide +kernel
theorem dX12_set_10 : decode cX12_set 10 = .ok (.ifCond .eq 21, 3) := by decide +kernel
theorem dX12_set_13 : decode cX12_set 13 = .ok (.aload_n 0, 1) := by decide +kernel
theorem dX12_set_14 : decode cX12_set 14 = .ok (.iload_n 1, 1) := by decide +kernel
theorem dX12_set_15 : decode cX12_set 15 = .ok (.iload_n 2, 1) := by decide +kernel
theorem dX12_set_16 : decode cX12_set 16 = .ok (.invokevirtual 567, 3) := by decide +kernel
theorem dX12_set_19 : decode cX12_set 19 = .ok (.ifCond .eq 12, 3) := by decide +kernel
theorem dX12_set_22 : decode cX12_set 22 = .ok (.aload_n 0, 1) := by decide +kernel
theorem dX12_set_23 : decode cX12_set 23 = .ok (.getfield 7, 3) := by decide +kernel
theorem dX12_set_26 : decode cX12_set 26 = .ok (.bipush 40, 2) := by decide +kernel
theorem dX12_set_28 : decode cX12_set 28 = .ok (.if_icmp .le 5, 3) := by decide +kernel
theorem dX12_set_31 : decode cX12_set 31 = .ok (.iconst 0, 1) := by decide +kernel
theorem dX12_set_32 : decode cX12_set 32 = .ok (.ireturn, 1) := by decide +kernel
theorem dX12_set_33 : decode cX12_set 33 = .ok (.aload_n 0, 1) := by decide +kernel
theorem dX12_set_34 : decode cX12_set 34 = .ok (.iload_n 1, 1) := by decide +kernel
theorem dX12_set_35 : decode cX12_set 35 = .ok (.iload_n 2, 1) := by decide +kernel
theorem dX12_set_36 : decode cX12_set 36 = .ok (.invokevirtual 688, 3) := by decide +kernel
theorem dX12_set_39 : decode cX12_set 39 = .ok (.iconst 1, 1) := by decide +kernel
theorem dX12_set_40 : decode cX12_set 40 = .ok (.ireturn, 1) := by decide +kernel
theorem dX12_value_0 : decode cX12_value 0 = .ok (.iload_n 1, 1) := by decide +kernel
theorem dX12_value_1 : decode cX12_value 1 = .ok (.iconst 2, 1) := by decide +kernel
theorem dX12_value_2 : decode cX12_value 2 = .ok (.invokestatic 413, 3) := by decide +kernel
theorem dX12_value_5 : decode cX12_value 5 = .ok (.ifCond .eq 16, 3) := by decide +kernel
theorem dX12_value_8 : decode cX12_value 8 = .ok (.aload_n 0, 1) := by decide +kernel
theorem dX12_value_9 : decode cX12_value 9 = .ok (.iload_n 1, 1) := by decide +kernel
theorem dX12_value_10 : decode cX12_value 10 = .ok (.iload_n 2, 1) := by decide +kernel
theorem dX12_value_11 : decode cX12_value 11 = .ok (.invokevirtual 567, 3) := by decide +kernel
theorem dX12_value_14 : decode cX12_value 14 = .ok (.ifCond .eq 7, 3) := by decide +kernel
theorem dX12_value_17 : decode cX12_value 17 = .ok (.iconst 1, 1) := by decide +kernel
theorem dX12_value_18 : decode cX12_value 18 = .ok (.goto 4, 3) := by decide +kernel
theorem dX12_value_21 : decode cX12_value 21 = .ok (.iconst 0, 1) := by decide +kernel
theorem dX12_value_22 : decode cX12_value 22 = .ok (.istore 4, 2) := by decide +kernel
theorem dX12_value_24 : decode cX12_value 24 = .ok (.aload_n 0, 1) := by decide +kernel
theorem dX12_value_25 : decode cX12_value 25 = .ok (.iload 4, 2) := by decide +kernel
theorem dX12_value_27 : decode cX12_value 27 = .ok (.ifCond .eq 30, 3) := by decide +kernel
theorem dX12_value_30 : decode cX12_value 30 = .ok (.iload_n 3, 1) := by decide +kernel
theorem dX12_value_31 : decode cX12_value 31 = .ok (.iconst (-1), 1) := by decide +kernel
theorem dX12_value_32 : decode cX12_value 32 = .ok (.if_icmp .eq 21, 3) := by decide +kernel
theorem dX12_value_35 : decode cX12_value 35 = .ok (.iload_n 3, 1) := by decide +kernel
theorem dX12_value_36 : decode cX12_value 36 = .ok (.aload_n 0, 1) := by decide +kernel
theorem dX12_value_37 : decode cX12_value 37 = .ok (.getfield 329, 3) := by decide +kernel
theorem dX12_value_40 : decode cX12_value 40 = .ok (.aload_n 0, 1) := by decide +kernel
theorem dX12_value_41 : decode cX12_value 41 = .ok (.iload_n 1, 1) := by decide +kernel
theorem dX12_value_42 : decode cX12_value 42 = .ok (.iload_n 2, 1) := by decide +kernel
theorem dX12_value_43 : decode cX12_value 43 = .ok (.invokevirtual 547, 3) := by decide +kernel
theorem dX12_value_46 : decode cX12_value 46 = .ok (.iaload, 1) := by decide +kernel
theorem dX12_value_47 : decode cX12_value 47 = .ok (.invokestatic 413, 3) := by decide +kernel
theorem dX12_value_50 : decode cX12_value 50 = .ok (.ifCond .eq 7, 3) := by decide +kernel
theorem dX12_value_53 : decode cX12_value 53 = .ok (.iconst 0, 1) := by decide +kernel
theorem dX12_value_54 : decode cX12_value 54 = .ok (.goto 4, 3) := by decide +kernel
theorem dX12_value_57 : decode cX12_value 57 = .ok (.iconst 1, 1) := by decide +kernel
theorem dX12_value_58 : decode cX12_value 58 = .ok (.putfield 1, 3) := by decide +kernel
theorem dX12_value_61 : decode cX12_value 61 = .ok (.aload_n 0, 1) := by decide +kernel
theorem dX12_value_62 : decode cX12_value 62 = .ok (.getfield 1, 3) := by decide +kernel
theorem dX12_value_65 : decode cX12_value 65 = .ok (.ifCond .le 5, 3) := by decide +kernel
theorem dX12_value_68 : decode cX12_value 68 = .ok (.iconst 0, 1) := by decide +kernel
theorem dX12_value_69 : decode cX12_value 69 = .ok (.ireturn, 1) := by decide +kernel
theorem dX12_value_70 : decode cX12_value 70 = .ok (.iload_n 3, 1) := by decide +kernel
theorem dX12_value_71 : decode cX12_value 71 = .ok (.iconst (-1), 1) := by decide +kernel
theorem dX12_value_72 : decode cX12_value 72 = .ok (.if_icmp .ne 17, 3) := by decide +kernel
theorem dX12_value_75 : decode cX12_value 75 = .ok (.aload_n 0, 1) := by decide +kernel
theorem dX12_value_76 : decode cX12_value 76 = .ok (.getfield 329, 3) := by decide +kernel
theorem dX12_value_79 : decode cX12_value 79 = .ok (.aload_n 0, 1) := by decide +kernel
theorem dX12_value_80 : decode cX12_value 80 = .ok (.iload_n 1, 1) := by decide +kernel
theorem dX12_value_81 : decode cX12_value 81 = .ok (.iload_n 2, 1) := by decide +kernel
theorem dX12_value_82 : decode cX12_value 82 = .ok (.invokevirtual 547, 3) := by decide +kernel
theorem dX12_value_85 : decode cX12_value 85 = .ok (.iaload, 1) := by decide +kernel
theorem dX12_value_86 : decode cX12_value 86 = .ok (.goto 23, 3) := by decide +kernel
theorem dX12_value_89 : decode cX12_value 89 = .ok (.aload_n 0, 1) := by decide +kernel
theorem dX12_value_90 : decode cX12_value 90 = .ok (.getfield 341, 3) := by decide +kernel
theorem dX12_value_93 : decode cX12_value 93 = .ok (.bipush 40, 2) := by decide +kernel
theorem dX12_value_95 : decode cX12_value 95 = .ok (.aload_n 0, 1) := by decide +kernel
theorem dX12_value_96 : decode cX12_value 96 = .ok (.iload_n 1, 1) := by decide +kernel
theorem dX12_value_97 : decode cX12_value 97 = .ok (.iload_n 2, 1) := by decide +kernel
theorem dX12_value_98 : decode cX12_value 98 = .ok (.invokevirtual 547, 3) := by decide +kernel
theorem dX12_value_101 : decode cX12_value 101 = .ok (.imul, 1) := by decide +kernel
theorem dX12_value_102 : decode cX12_value 102 = .ok (.iload_n 3, 1) := by decide +kernel
theorem dX12_value_103 : decode cX12_value 103 = .ok (.iadd, 1) := by decide +kernel
theorem dX12_value_104 : decode cX12_value 104 = .ok (.baload, 1) := by decide +kernel
theorem dX12_value_105 : decode cX12_value 105 = .ok (.sipush 255, 3) := by decide +kernel
theorem dX12_value_108 : decode cX12_value 108 = .ok (.iand, 1) := by decide +kernel
theorem dX12_value_109 : decode cX12_value 109 = .ok (.ireturn, 1) := by decide +kernel
theorem dX12_mtu_0 : decode cX12_mtu 0 = .ok (.aload_n 0, 1) := by decide +kernel
theorem dX12_mtu_1 : decode cX12_mtu 1 = .ok (.iconst 0, 1) := by decide +kernel
theorem dX12_mtu_2 : decode cX12_mtu 2 = .ok (.putfield 1, 3) := by decide +kernel
theorem dX12_mtu_5 : decode cX12_mtu 5 = .ok (.iload_n 1, 1) := by decide +kernel
theorem dX12_mtu_6 : decode cX12_mtu 6 = .ok (.iconst 2, 1) := by decide +kernel
theorem dX12_mtu_7 : decode cX12_mtu 7 = .ok (.invokestatic 413, 3) := by decide +kernel
theorem dX12_mtu_10 : decode cX12_mtu 10 = .ok (.ifCond .eq 15, 3) := by decide +kernel
theorem dX12_mtu_13 : decode cX12_mtu 13 = .ok (.iload_n 2, 1) := by decide +kernel
theorem dX12_mtu_14 : decode cX12_mtu 14 = .ok (.bipush 23, 2) := by decide +kernel
theorem dX12_mtu_16 : decode cX12_mtu 16 = .ok (.if_icmp .lt 9, 3) := by decide +kernel
theorem dX12_mtu_19 : decode cX12_mtu 19 = .ok (.iload_n 2, 1) := by decide +kernel
theorem dX12_mtu_20 : decode cX12_mtu 20 = .ok (.bipush 64, 2) := by decide +kernel
theorem dX12_mtu_22 : decode cX12_mtu 22 = .ok (.if_icmp .le 5, 3) := by decide +kernel
theorem dX12_mtu_25 : decode cX12_mtu 25 = .ok (.iconst 0, 1) := by decide +kernel
theorem dX12_mtu_26 : decode cX12_mtu 26 = .ok (.ireturn, 1) := by decide +kernel
theorem dX12_mtu_27 : decode cX12_mtu 27 = .ok (.aload_n 0, 1) := by decide +kernel
theorem dX12_mtu_28 : decode cX12_mtu 28 = .ok (.getfield 335, 3) := by decide +kernel
theorem dX12_mtu_31 : decode cX12_mtu 31 = .ok (.iload_n 1, 1) := by decide +kernel
theorem dX12_mtu_32 : decode cX12_mtu 32 = .ok (.iload_n 2, 1) := by decide +kernel
theorem dX12_mtu_33 : decode cX12_mtu 33 = .ok (.iastore, 1) := by decide +kernel
theorem dX12_mtu_34 : decode cX12_mtu 34 = .ok (.iconst 1, 1) := by decide +kernel
theorem dX12_mtu_35 : decode cX12_mtu 35 = .ok (.ireturn, 1) := by decide +kernel
theorem dX12_job_0 : decode cX12_job 0 = .ok (.aload_n 0, 1) := by decide +kernel
theorem dX12_job_1 : decode cX12_job 1 = .ok (.iconst 0, 1) := by decide +kernel
theorem dX12_job_2 : decode cX12_job 2 = .ok (.putfield 1, 3) := by decide +kernel
theorem dX12_job_5 : decode cX12_job 5 = .ok (.iload_n 1, 1) := by decide +kernel
theorem dX12_job_6 : decode cX12_job 6 = .ok (.iconst 2, 1) := by decide +kernel
theorem dX12_job_7 : decode cX12_job 7 = .ok (.invokestatic 413, 3) := by decide +kernel
theorem dX12_job_10 : decode cX12_job 10 = .ok (.ifCond .eq 62, 3) := by decide +kernel
theorem dX12_job_13 : decode cX12_job 13 = .ok (.aload_n 0, 1) := by decide +kernel
theorem dX12_job_14 : decode cX12_job 14 = .ok (.iload_n 1, 1) := by decide +kernel
theorem dX12_job_15 : decode cX12_job 15 = .ok (.invokevirtual 662, 3) := by decide +kernel
theorem dX12_job_18 : decode cX12_job 18 = .ok (.ifCond .eq 54, 3) := by decide +kernel
theorem dX12_job_21 : decode cX12_job 21 = .ok (.iload_n 2, 1) := by decide +kernel
theorem dX12_job_22 : decode cX12_job 22 = .ok (.bipush 7, 2) := by decide +kernel
theorem dX12_job_24 : decode cX12_job 24 = .ok (.invokestatic 413, 3) := by decide +kernel
theorem dX12_job_27 : decode cX12_job 27 = .ok (.ifCond .eq 45, 3) := by decide +kernel
theorem dX12_job_30 : decode cX12_job 30 = .ok (.iload_n 3, 1) := by decide +kernel
theorem dX12_job_31 : decode cX12_job 31 = .ok (.ldc_w 687, 3) := by decide +kernel
theorem dX12_job_34 : decode cX12_job 34 = .ok (.invokestatic 413, 3) := by decide +kernel
theorem dX12_job_37 : decode cX12_job 37 = .ok (.ifCond .eq 35, 3) := by decide +kernel
theorem dX12_job_40 : decode cX12_job 40 = .ok (.iload 4, 2) := by decide +kernel
theorem dX12_job_42 : decode cX12_job 42 = .ok (.ldc_w 687, 3) := by decide +kernel
theorem dX12_job_45 : decode cX12_job 45 = .ok (.invokestatic 413, 3) := by decide +kernel
theorem dX12_job_48 : decode cX12_job 48 = .ok (.ifCond .eq 24, 3) := by decide +kernel
theorem dX12_job_51 : decode cX12_job 51 = .ok (.aload_n 0, 1) := by decide +kernel
theorem dX12_job_52 : decode cX12_job 52 = .ok (.getfield 365, 3) := by decide +kernel
theorem dX12_job_55 : decode cX12_job 55 = .ok (.iload_n 1, 1) := by decide +kernel
theorem dX12_job_56 : decode cX12_job 56 = .ok (.iaload, 1) := by decide +kernel
theorem dX12_job_57 : decode cX12_job 57 = .ok (.iconst (-1), 1) := by decide +kernel
theorem dX12_job_58 : decode cX12_job 58 = .ok (.if_icmp .ne 14, 3) := by decide +kernel
theorem dX12_job_61 : decode cX12_job 61 = .ok (.aload_n 0, 1) := by decide +kernel
theorem dX12_job_62 : decode cX12_job 62 = .ok (.getfield 275, 3) := by decide +kernel
theorem dX12_job_65 : decode cX12_job 65 = .ok (.iload_n 1, 1) := by decide +kernel
theorem dX12_job_66 : decode cX12_job 66 = .ok (.iaload, 1) := by decide +kernel
theorem dX12_job_67 : decode cX12_job 67 = .ok (.bipush 8, 2) := by decide +kernel
theorem dX12_job_69 : decode cX12_job 69 = .ok (.if_icmp .ne 5, 3) := by decide +kernel
theorem dX12_job_72 : decode cX12_job 72 = .ok (.iconst 0, 1) := by decide +kernel
theorem dX12_job_73 : decode cX12_job 73 = .ok (.ireturn, 1) := by decide +kernel
theorem dX12_job_74 : decode cX12_job 74 = .ok (.iload_n 2, 1) := by decide +kernel
theorem dX12_job_75 : decode cX12_job 75 = .ok (.iconst 5, 1) := by decide +kernel
theorem dX12_job_76 : decode cX12_job 76 = .ok (.if_icmp .eq 9, 3) := by decide +kernel
theorem dX12_job_79 : decode cX12_job 79 = .ok (.iload_n 2, 1) := by decide +kernel
theorem dX12_job_80 : decode cX12_job 80 = .ok (.bipush 6, 2) := by decide +kernel
theorem dX12_job_82 : decode cX12_job 82 = .ok (.if_icmp .ne 7, 3) := by decide +kernel
theorem dX12_job_85 : decode cX12_job 85 = .ok (.iconst 1, 1) := by decide +kernel
theorem dX12_job_86 : decode cX12_job 86 = .ok (.goto 4, 3) := by decide +kernel
theorem dX12_job_89 : decode cX12_job 89 = .ok (.iconst 0, 1) := by decide +kernel
theorem dX12_job_90 : decode cX12_job 90 = .ok (.istore 5, 2) := by decide +kernel
theorem dX12_job_92 : decode cX12_job 92 = .ok (.iload 5, 2) := by decide +kernel
theorem dX12_job_94 : decode cX12_job 94 = .ok (.ifCond .eq 14, 3) := by decide +kernel
theorem dX12_job_97 : decode cX12_job 97 = .ok (.aload_n 0, 1) := by decide +kernel
theorem dX12_job_98 : decode cX12_job 98 = .ok (.getfield 7, 3) := by decide +kernel
theorem dX12_job_101 : decode cX12_job 101 = .ok (.bipush 40, 2) := by decide +kernel
theorem dX12_job_103 : decode cX12_job 103 = .ok (.if_icmp .le 5, 3) := by decide +kernel
theorem dX12_job_106 : decode cX12_job 106 = .ok (.iconst 0, 1) := by decide +kernel
theorem dX12_job_107 : decode cX12_job 107 = .ok (.ireturn, 1) := by decide +kernel
theorem dX12_job_108 : decode cX12_job 108 = .ok (.aload_n 0, 1) := by decide +kernel
theorem dX12_job_109 : decode cX12_job 109 = .ok (.getfield 365, 3) := by decide +kernel
theorem dX12_job_112 : decode cX12_job 112 = .ok (.iload_n 1, 1) := by decide +kernel
theorem dX12_job_113 : decode cX12_job 113 = .ok (.iload_n 2, 1) := by decide +kernel
theorem dX12_job_114 : decode cX12_job 114 = .ok (.iastore, 1) := by decide +kernel
theorem dX12_job_115 : decode cX12_job 115 = .ok (.aload_n 0, 1) := by decide +kernel
theorem dX12_job_116 : decode cX12_job 116 = .ok (.getfield 368, 3) := by decide +kernel
theorem dX12_job_119 : decode cX12_job 119 = .ok (.iload_n 1, 1) := by decide +kernel
theorem dX12_job_120 : decode cX12_job 120 = .ok (.iload_n 3, 1) := by decide +kernel
theorem dX12_job_121 : decode cX12_job 121 = .ok (.iastore, 1) := by decide +kernel
theorem dX12_job_122 : decode cX12_job 122 = .ok (.aload_n 0, 1) := by decide +kernel
theorem dX12_job_123 : decode cX12_job 123 = .ok (.getfield 371, 3) := by decide +kernel
theorem dX12_job_126 : decode cX12_job 126 = .ok (.iload_n 1, 1) := by decide +kernel
theorem dX12_job_127 : decode cX12_job 127 = .ok (.iload 4, 2) := by decide +kernel
theorem dX12_job_129 : decode cX12_job 129 = .ok (.iastore, 1) := by decide +kernel
theorem dX12_job_130 : decode cX12_job 130 = .ok (.aload_n 0, 1) := by decide +kernel
theorem dX12_job_131 : decode cX12_job 131 = .ok (.getfield 377, 3) := by decide +kernel
theorem dX12_job_134 : decode cX12_job 134 = .ok (.iload_n 1, 1) := by decide +kernel
theorem dX12_job_135 : decode cX12_job 135 = .ok (.iconst 0, 1) := by decide +kernel
theorem dX12_job_136 : decode cX12_job 136 = .ok (.iastore, 1) := by decide +kernel
theorem dX12_job_137 : decode cX12_job 137 = .ok (.aload_n 0, 1) := by decide +kernel
theorem dX12_job_138 : decode cX12_job 138 = .ok (.getfield 380, 3) := by decide +kernel
theorem dX12_job_141 : decode cX12_job 141 = .ok (.iload_n 1, 1) := by decide +kernel
theorem dX12_job_142 : decode cX12_job 142 = .ok (.iload 5, 2) := by decide +kernel
theorem dX12_job_144 : decode cX12_job 144 = .ok (.ifCond .eq 10, 3) := by decide +kernel
theorem dX12_job_147 : decode cX12_job 147 = .ok (.aload_n 0, 1) := by decide +kernel
theorem dX12_job_148 : decode cX12_job 148 = .ok (.getfield 7, 3) := by decide +kernel
theorem dX12_job_151 : decode cX12_job 151 = .ok (.goto 4, 3) := by decide +kernel
theorem dX12_job_154 : decode cX12_job 154 = .ok (.iconst 0, 1) := by decide +kernel
theorem dX12_job_155 : decode cX12_job 155 = .ok (.iastore, 1) := by decide +kernel
theorem dX12_job_156 : decode cX12_job 156 = .ok (.aload_n 0, 1) := by decide +kernel
theorem dX12_job_157 : decode cX12_job 157 = .ok (.getfield 10, 3) := by decide +kernel
theorem dX12_job_160 : decode cX12_job 160 = .ok (.iconst 0, 1) := by decide +kernel
theorem dX12_job_161 : decode cX12_job 161 = .ok (.aload_n 0, 1) := by decide +kernel
theorem dX12_job_162 : decode cX12_job 162 = .ok (.getfield 383, 3) := by decide +kernel
theorem dX12_job_165 : decode cX12_job 165 = .ok (.bipush 40, 2) := by decide +kernel
theorem dX12_job_167 : decode cX12_job 167 = .ok (.iload_n 1, 1) := by decide +kernel
theorem dX12_job_168 : decode cX12_job 168 = .ok (.imul, 1) := by decide +kernel
theorem dX12_job_169 : decode cX12_job 169 = .ok (.aload_n 0, 1) := by decide +kernel
theorem dX12_job_170 : decode cX12_job 170 = .ok (.getfield 380, 3) := by decide +kernel
theorem dX12_job_173 : decode cX12_job 173 = .ok (.iload_n 1, 1) := by decide +kernel
theorem dX12_job_174 : decode cX12_job 174 = .ok (.iaload, 1) := by decide +kernel
theorem dX12_job_175 : decode cX12_job 175 = .ok (.invokestatic 29, 3) := by decide +kernel
theorem dX12_job_178 : decode cX12_job 178 = .ok (.iload 5, 2) := by decide +kernel
theorem dX12_job_180 : decode cX12_job 180 = .ok (.ifCond .eq 8, 3) := by decide +kernel
theorem dX12_job_183 : decode cX12_job 183 = .ok (.aload_n 0, 1) := by decide +kernel
theorem dX12_job_184 : decode cX12_job 184 = .ok (.iconst 0, 1) := by decide +kernel
theorem dX12_job_185 : decode cX12_job 185 = .ok (.putfield 7, 3) := by decide +kernel
theorem dX12_job_188 : decode cX12_job 188 = .ok (.aload_n 0, 1) := by decide +kernel
theorem dX12_job_189 : decode cX12_job 189 = .ok (.iload_n 1, 1) := by decide +kernel
theorem dX12_job_190 : decode cX12_job 190 = .ok (.iload_n 2, 1) := by decide +kernel
theorem dX12_job_191 : decode cX12_job 191 = .ok (.iconst 2, 1) := by decide +kernel
theorem dX12_job_192 : decode cX12_job 192 = .ok (.if_icmp .eq 8, 3) := by decide +kernel
theorem dX12_job_195 : decode cX12_job 195 = .ok (.iload_n 2, 1) := by decide +kernel
theorem dX12_job_196 : decode cX12_job 196 = .ok (.iconst 3, 1) := by decide +kernel
theorem dX12_job_197 : decode cX12_job 197 = .ok (.if_icmp .ne 7, 3) := by decide +kernel
theorem dX12_job_200 : decode cX12_job 200 = .ok (.iload_n 3, 1) := by decide +kernel
theorem dX12_job_201 : decode cX12_job 201 = .ok (.goto 4, 3) := by decide +kernel
theorem dX12_job_204 : decode cX12_job 204 = .ok (.iconst 1, 1) := by decide +kernel
theorem dX12_job_205 : decode cX12_job 205 = .ok (.invokevirtual 630, 3) := by decide +kernel
theorem dX12_job_208 : decode cX12_job 208 = .ok (.iconst 1, 1) := by decide +kernel
theorem dX12_job_209 : decode cX12_job 209 = .ok (.ireturn, 1) := by decide +kernel
theorem dX12_send_0 : decode cX12_send 0 = .ok (.aload_n 0, 1) := by decide +kernel
theorem dX12_send_1 : decode cX12_send 1 = .ok (.iconst 0, 1) := by decide +kernel
theorem dX12_send_2 : decode cX12_send 2 = .ok (.putfield 1, 3) := by decide +kernel
theorem dX12_send_5 : decode cX12_send 5 = .ok (.iload_n 1, 1) := by decide +kernel
theorem dX12_send_6 : decode cX12_send 6 = .ok (.iconst 2, 1) := by decide +kernel
theorem dX12_send_7 : decode cX12_send 7 = .ok (.invokestatic 413, 3) := by decide +kernel
theorem dX12_send_10 : decode cX12_send 10 = .ok (.ifCond .eq 40, 3) := by decide +kernel
theorem dX12_send_13 : decode cX12_send 13 = .ok (.aload_n 0, 1) := by decide +kernel
theorem dX12_send_14 : decode cX12_send 14 = .ok (.iload_n 1, 1) := by decide +kernel
theorem dX12_send_15 : decode cX12_send 15 = .ok (.invokevirtual 662, 3) := by decide +kernel
theorem dX12_send_18 : decode cX12_send 18 = .ok (.ifCond .eq 32, 3) := by decide +kernel
theorem dX12_send_21 : decode cX12_send 21 = .ok (.iload_n 2, 1) := by decide +kernel
theorem dX12_send_22 : decode cX12_send 22 = .ok (.iconst 3, 1) := by decide +kernel
theorem dX12_send_23 : decode cX12_send 23 = .ok (.invokestatic 413, 3) := by decide +kernel
theorem dX12_send_26 : decode cX12_send 26 = .ok (.ifCond .eq 24, 3) := by decide +kernel
theorem dX12_send_29 : decode cX12_send 29 = .ok (.iload_n 3, 1) := by decide +kernel
theorem dX12_send_30 : decode cX12_send 30 = .ok (.ldc_w 687, 3) := by decide +kernel
theorem dX12_send_33 : decode cX12_send 33 = .ok (.invokestatic 413, 3) := by decide +kernel
theorem dX12_send_36 : decode cX12_send 36 = .ok (.ifCond .eq 14, 3) := by decide +kernel
theorem dX12_send_39 : decode cX12_send 39 = .ok (.aload_n 0, 1) := by decide +kernel
theorem dX12_send_40 : decode cX12_send 40 = .ok (.getfield 275, 3) := by decide +kernel
theorem dX12_send_43 : decode cX12_send 43 = .ok (.iload_n 1, 1) := by decide +kernel
theorem dX12_send_44 : decode cX12_send 44 = .ok (.iaload, 1) := by decide +kernel
theorem dX12_send_45 : decode cX12_send 45 = .ok (.bipush 8, 2) := by decide +kernel
theorem dX12_send_47 : decode cX12_send 47 = .ok (.if_icmp .ne 5, 3) := by decide +kernel
theorem dX12_send_50 : decode cX12_send 50 = .ok (.iconst 0, 1) := by decide +kernel
theorem dX12_send_51 : decode cX12_send 51 = .ok (.ireturn, 1) := by decide +kernel
theorem dX12_send_52 : decode cX12_send 52 = .ok (.aload_n 0, 1) := by decide +kernel
theorem dX12_send_53 : decode cX12_send 53 = .ok (.getfield 332, 3) := by decide +kernel
theorem dX12_send_56 : decode cX12_send 56 = .ok (.iload_n 1, 1) := by decide +kernel
theorem dX12_send_57 : decode cX12_send 57 = .ok (.iaload, 1) := by decide +kernel
theorem dX12_send_58 : decode cX12_send 58 = .ok (.iconst 3, 1) := by decide +kernel
theorem dX12_send_59 : decode cX12_send 59 = .ok (.isub, 1) := by decide +kernel
theorem dX12_send_60 : decode cX12_send 60 = .ok (.istore 4, 2) := by decide +kernel
theorem dX12_send_62 : decode cX12_send 62 = .ok (.iload_n 2, 1) := by decide +kernel
theorem dX12_send_63 : decode cX12_send 63 = .ok (.ifCond .ne 12, 3) := by decide +kernel
theorem dX12_send_66 : decode cX12_send 66 = .ok (.aload_n 0, 1) := by decide +kernel
theorem dX12_send_67 : decode cX12_send 67 = .ok (.getfield 7, 3) := by decide +kernel
theorem dX12_send_70 : decode cX12_send 70 = .ok (.iload 4, 2) := by decide +kernel
theorem dX12_send_72 : decode cX12_send 72 = .ok (.if_icmp .gt 30, 3) := by decide +kernel
theorem dX12_send_75 : decode cX12_send 75 = .ok (.iload_n 2, 1) := by decide +kernel
theorem dX12_send_76 : decode cX12_send 76 = .ok (.ifCond .le 12, 3) := by decide +kernel
theorem dX12_send_79 : decode cX12_send 79 = .ok (.aload_n 0, 1) := by decide +kernel
theorem dX12_send_80 : decode cX12_send 80 = .ok (.iload_n 1, 1) := by decide +kernel
theorem dX12_send_81 : decode cX12_send 81 = .ok (.iload_n 3, 1) := by decide +kernel
theorem dX12_send_82 : decode cX12_send 82 = .ok (.invokevirtual 567, 3) := by decide +kernel
theorem dX12_send_85 : decode cX12_send 85 = .ok (.ifCond .eq 17, 3) := by decide +kernel
theorem dX12_send_88 : decode cX12_send 88 = .ok (.iload_n 2, 1) := by decide +kernel
theorem dX12_send_89 : decode cX12_send 89 = .ok (.iconst 2, 1) := by decide +kernel
theorem dX12_send_90 : decode cX12_send 90 = .ok (.if_icmp .ne 14, 3) := by decide +kernel
theorem dX12_send_93 : decode cX12_send 93 = .ok (.aload_n 0, 1) := by decide +kernel
theorem dX12_send_94 : decode cX12_send 94 = .ok (.getfield 362, 3) := by decide +kernel
theorem dX12_send_97 : decode cX12_send 97 = .ok (.iload_n 1, 1) := by decide +kernel
theorem dX12_send_98 : decode cX12_send 98 = .ok (.baload, 1) := by decide +kernel
theorem dX12_send_99 : decode cX12_send 99 = .ok (.ifCond .eq 5, 3) := by decide +kernel
theorem dX12_send_102 : decode cX12_send 102 = .ok (.iconst 0, 1) := by decide +kernel
theorem dX12_send_103 : decode cX12_send 103 = .ok (.ireturn, 1) := by decide +kernel
theorem dX12_send_104 : decode cX12_send 104 = .ok (.iload_n 2, 1) := by decide +kernel
theorem dX12_send_105 : decode cX12_send 105 = .ok (.ifCond .ne 10, 3) := by decide +kernel
theorem dX12_send_108 : decode cX12_send 108 = .ok (.aload_n 0, 1) := by decide +kernel
theorem dX12_send_109 : decode cX12_send 109 = .ok (.getfield 7, 3) := by decide +kernel
theorem dX12_send_112 : decode cX12_send 112 = .ok (.goto 19, 3) := by decide +kernel
theorem dX12_send_115 : decode cX12_send 115 = .ok (.iload 4, 2) := by decide +kernel
theorem dX12_send_117 : decode cX12_send 117 = .ok (.aload_n 0, 1) := by decide +kernel
theorem dX12_send_118 : decode cX12_send 118 = .ok (.getfield 329, 3) := by decide +kernel
theorem dX12_send_121 : decode cX12_send 121 = .ok (.aload_n 0, 1) := by decide +kernel
theorem dX12_send_122 : decode cX12_send 122 = .ok (.iload_n 1, 1) := by decide +kernel
theorem dX12_send_123 : decode cX12_send 123 = .ok (.iload_n 3, 1) := by decide +kernel
theorem dX12_send_124 : decode cX12_send 124 = .ok (.invokevirtual 547, 3) := by decide +kernel
theorem dX12_send_127 : decode cX12_send 127 = .ok (.iaload, 1) := by decide +kernel
theorem dX12_send_128 : decode cX12_send 128 = .ok (.invokestatic 404, 3) := by decide +kernel
theorem dX12_send_131 : decode cX12_send 131 = .ok (.istore 5, 2) := by decide +kernel
theorem dX12_send_133 : decode cX12_send 133 = .ok (.aload_n 0, 1) := by decide +kernel
theorem dX12_send_134 : decode cX12_send 134 = .ok (.getfield 290, 3) := by decide +kernel
theorem dX12_send_137 : decode cX12_send 137 = .ok (.iconst 0, 1) := by decide +kernel
theorem dX12_send_138 : decode cX12_send 138 = .ok (.iload_n 2, 1) := by decide +kernel
theorem dX12_send_139 : decode cX12_send 139 = .ok (.ifCond .ne 8, 3) := by decide +kernel
theorem dX12_send_142 : decode cX12_send 142 = .ok (.bipush 82, 2) := by decide +kernel
theorem dX12_send_144 : decode cX12_send 144 = .ok (.goto 15, 3) := by decide +kernel
theorem dX12_send_147 : decode cX12_send 147 = .ok (.iload_n 2, 1) := by decide +kernel
theorem dX12_send_148 : decode cX12_send 148 = .ok (.iconst 1, 1) := by decide +kernel
theorem dX12_send_149 : decode cX12_send 149 = .ok (.if_icmp .ne 8, 3) := by decide +kernel
theorem dX12_send_152 : decode cX12_send 152 = .ok (.bipush 27, 2) := by decide +kernel
theorem dX12_send_154 : decode cX12_send 154 = .ok (.goto 5, 3) := by decide +kernel
theorem dX12_send_157 : decode cX12_send 157 = .ok (.bipush 29, 2) := by decide +kernel
theorem dX12_send_159 : decode cX12_send 159 = .ok (.i2b, 1) := by decide +kernel
theorem dX12_send_160 : decode cX12_send 160 = .ok (.bastore, 1) := by decide +kernel
theorem dX12_send_161 : decode cX12_send 161 = .ok (.aload_n 0, 1) := by decide +kernel
theorem dX12_send_162 : decode cX12_send 162 = .ok (.getfield 290, 3) := by decide +kernel
theorem dX12_send_165 : decode cX12_send 165 = .ok (.iconst 1, 1) := by decide +kernel
theorem dX12_send_166 : decode cX12_send 166 = .ok (.iload_n 3, 1) := by decide +kernel
theorem dX12_send_167 : decode cX12_send 167 = .ok (.i2l, 1) := by decide +kernel
theorem dX12_send_168 : decode cX12_send 168 = .ok (.iconst 2, 1) := by decide +kernel
theorem dX12_send_169 : decode cX12_send 169 = .ok (.invokestatic 432, 3) := by decide +kernel
theorem dX12_send_172 : decode cX12_send 172 = .ok (.iload_n 2, 1) := by decide +kernel
theorem dX12_send_173 : decode cX12_send 173 = .ok (.ifCond .ne 21, 3) := by decide +kernel
theorem dX12_send_176 : decode cX12_send 176 = .ok (.aload_n 0, 1) := by decide +kernel
theorem dX12_send_177 : decode cX12_send 177 = .ok (.getfield 10, 3) := by decide +kernel
theorem dX12_send_180 : decode cX12_send 180 = .ok (.iconst 0, 1) := by decide +kernel
theorem dX12_send_181 : decode cX12_send 181 = .ok (.aload_n 0, 1) := by decide +kernel
theorem dX12_send_182 : decode cX12_send 182 = .ok (.getfield 290, 3) := by decide +kernel
theorem dX12_send_185 : decode cX12_send 185 = .ok (.iconst 3, 1) := by decide +kernel
theorem dX12_send_186 : decode cX12_send 186 = .ok (.iload 5, 2) := by decide +kernel
theorem dX12_send_188 : decode cX12_send 188 = .ok (.invokestatic 29, 3) := by decide +kernel
theorem dX12_send_191 : decode cX12_send 191 = .ok (.goto 26, 3) := by decide +kernel
theorem dX12_send_194 : decode cX12_send 194 = .ok (.aload_n 0, 1) := by decide +kernel
theorem dX12_send_195 : decode cX12_send 195 = .ok (.getfield 341, 3) := by decide +kernel
theorem dX12_send_198 : decode cX12_send 198 = .ok (.bipush 40, 2) := by decide +kernel
theorem dX12_send_200 : decode cX12_send 200 = .ok (.aload_n 0, 1) := by decide +kernel
theorem dX12_send_201 : decode cX12_send 201 = .ok (.iload_n 1, 1) := by decide +kernel
theorem dX12_send_202 : decode cX12_send 202 = .ok (.iload_n 3, 1) := by decide +kernel
theorem dX12_send_203 : decode cX12_send 203 = .ok (.invokevirtual 547, 3) := by decide +kernel
theorem dX12_send_206 : decode cX12_send 206 = .ok (.imul, 1) := by decide +kernel
theorem dX12_send_207 : decode cX12_send 207 = .ok (.aload_n 0, 1) := by decide +kernel
theorem dX12_send_208 : decode cX12_send 208 = .ok (.getfield 290, 3) := by decide +kernel
theorem dX12_send_211 : decode cX12_send 211 = .ok (.iconst 3, 1) := by decide +kernel
theorem dX12_send_212 : decode cX12_send 212 = .ok (.iload 5, 2) := by decide +kernel
theorem dX12_send_214 : decode cX12_send 214 = .ok (.invokestatic 29, 3) := by decide +kernel
theorem dX12_send_217 : decode cX12_send 217 = .ok (.aload_n 0, 1) := by decide +kernel
theorem dX12_send_218 : decode cX12_send 218 = .ok (.iload_n 1, 1) := by decide +kernel
theorem dX12_send_219 : decode cX12_send 219 = .ok (.iconst 4, 1) := by decide +kernel
theorem dX12_send_220 : decode cX12_send 220 = .ok (.iconst 3, 1) := by decide +kernel
theorem dX12_send_221 : decode cX12_send 221 = .ok (.iload 5, 2) := by decide +kernel
theorem dX12_send_223 : decode cX12_send 223 = .ok (.iadd, 1) := by decide +kernel
theorem dX12_send_224 : decode cX12_send 224 = .ok (.invokevirtual 527, 3) := by decide +kernel
theorem dX12_send_227 : decode cX12_send 227 = .ok (.iload_n 2, 1) := by decide +kernel
theorem dX12_send_228 : decode cX12_send 228 = .ok (.ifCond .ne 8, 3) := by decide +kernel
theorem dX12_send_231 : decode cX12_send 231 = .ok (.aload_n 0, 1) := by decide +kernel
theorem dX12_send_232 : decode cX12_send 232 = .ok (.iconst 0, 1) := by decide +kernel
theorem dX12_send_233 : decode cX12_send 233 = .ok (.putfield 7, 3) := by decide +kernel
theorem dX12_send_236 : decode cX12_send 236 = .ok (.iload_n 2, 1) := by decide +kernel
theorem dX12_send_237 : decode cX12_send 237 = .ok (.iconst 2, 1) := by decide +kernel
theorem dX12_send_238 : decode cX12_send 238 = .ok (.if_icmp .ne 10, 3) := by decide +kernel
theorem dX12_send_241 : decode cX12_send 241 = .ok (.aload_n 0, 1) := by decide +kernel
theorem dX12_send_242 : decode cX12_send 242 = .ok (.getfield 362, 3) := by decide +kernel
theorem dX12_send_245 : decode cX12_send 245 = .ok (.iload_n 1, 1) := by decide +kernel
theorem dX12_send_246 : decode cX12_send 246 = .ok (.iconst 1, 1) := by decide +kernel
theorem dX12_send_247 : decode cX12_send 247 = .ok (.bastore, 1) := by decide +kernel
theorem dX12_send_248 : decode cX12_send 248 = .ok (.iconst 1, 1) := by decide +kernel
theorem dX12_send_249 : decode cX12_send 249 = .ok (.ireturn, 1) := by decide +kernel
