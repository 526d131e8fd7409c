theorem dX10_endOf_53 : decode cX10_endOf 53 = .ok (.ireturn, 1) := by decide +kernel
theorem dX11_init_0 : decode cX11_init 0 = .ok (.aload_n 0, 1) := by decide +kernel
theorem dX11_init_1 : decode cX11_init 1 = .ok (.invokespecial 1, 3) := by decide +kernel
theorem dX11_init_4 : decode cX11_init 4 = .ok (.aload_n 0, 1) := by decide +kernel
theorem dX11_init_5 : decode cX11_init 5 = .ok (.iconst 2, 1) := by decide +kernel
theorem dX11_init_6 : decode cX11_init 6 = .ok (.anewarray 7, 3) := by decide +kernel
theorem dX11_init_9 : decode cX11_init 9 = .ok (.putfield 9, 3) := by decide +kernel
theorem dX11_init_12 : decode cX11_init 12 = .ok (.aload_n 0, 1) := by decide +kernel
theorem dX11_init_13 : decode cX11_init 13 = .ok (.new 15, 3) := by decide +kernel
theorem dX11_init_16 : decode cX11_init 16 = .ok (.dup, 1) := by decide +kernel
theorem dX11_init_17 : decode cX11_init 17 = .ok (.invokespecial 17, 3) := by decide +kernel
theorem dX11_init_20 : decode cX11_init 20 = .ok (.putfield 18, 3) := by decide +kernel
theorem dX11_init_23 : decode cX11_init 23 = .ok (.aload_n 0, 1) := by decide +kernel
theorem dX11_init_24 : decode cX11_init 24 = .ok (.new 22, 3) := by decide +kernel
theorem dX11_init_27 : decode cX11_init 27 = .ok (.dup, 1) := by decide +kernel
theorem dX11_init_28 : decode cX11_init 28 = .ok (.bipush 100, 2) := by decide +kernel
theorem dX11_init_30 : decode cX11_init 30 = .ok (.invokespecial 24, 3) := by decide +kernel
theorem dX11_init_33 : decode cX11_init 33 = .ok (.putfield 27, 3) := by decide +kernel
theorem dX11_init_36 : decode cX11_init 36 = .ok (.aload_n 0, 1) := by decide +kernel
theorem dX11_init_37 : decode cX11_init 37 = .ok (.new 22, 3) := by decide +kernel
theorem dX11_init_40 : decode cX11_init 40 = .ok (.dup, 1) := by decide +kernel
theorem dX11_init_41 : decode cX11_init 41 = .ok (.bipush 31, 2) := by decide +kernel
theorem dX11_init_43 : decode cX11_init 43 = .ok (.invokespecial 24, 3) := by decide +kernel
theorem dX11_init_46 : decode cX11_init 46 = .ok (.putfield 31, 3) := by decide +kernel
theorem dX11_init_49 : decode cX11_init 49 = .ok (.new 34, 3) := by decide +kernel
theorem dX11_init_52 : decode cX11_init 52 = .ok (.dup, 1) := by decide +kernel
theorem dX11_init_53 : decode cX11_init 53 = .ok (.invokespecial 36, 3) := by decide +kernel
theorem dX11_init_56 : decode cX11_init 56 = .ok (.astore 5, 2) := by decide +kernel
theorem dX11_init_58 : decode cX11_init 58 = .ok (.aload_n 0, 1) := by decide +kernel
theorem dX11_init_59 : decode cX11_init 59 = .ok (.getfield 9, 3) := by decide +kernel
theorem dX11_init_62 : decode cX11_init 62 = .ok (.iconst 0, 1) := by decide +kernel
theorem dX11_init_63 : decode cX11_init 63 = .ok (.new 7, 3) := by decide +kernel
theorem dX11_init_66 : decode cX11_init 66 = .ok (.dup, 1) := by decide +kernel
theorem dX11_init_67 : decode cX11_init 67 = .ok (.iconst 0, 1) := by decide +kernel
theorem dX11_init_68 : decode cX11_init 68 = .ok (.lload_n 1, 1) := by decide +kernel
theorem dX11_init_69 : decode cX11_init 69 = .ok (.ldc2_w 37, 3) := by decide +kernel
theorem dX11_init_72 : decode cX11_init 72 = .ok (.land, 1) := by decide +kernel
theorem dX11_init_73 : decode cX11_init 73 = .ok (.aload 5, 2) := by decide +kernel
theorem dX11_init_75 : decode cX11_init 75 = .ok (.invokespecial 39, 3) := by decide +kernel
theorem dX11_init_78 : decode cX11_init 78 = .ok (.aastore, 1) := by decide +kernel
theorem dX11_init_79 : decode cX11_init 79 = .ok (.aload_n 0, 1) := by decide +kernel
theorem dX11_init_80 : decode cX11_init 80 = .ok (.getfield 9, 3) := by decide +kernel
theorem dX11_init_83 : decode cX11_init 83 = .ok (.iconst 1, 1) := by decide +kernel
theorem dX11_init_84 : decode cX11_init 84 = .ok (.new 7, 3) := by decide +kernel
theorem dX11_init_87 : decode cX11_init 87 = .ok (.dup, 1) := by decide +kernel
theorem dX11_init_88 : decode cX11_init 88 = .ok (.iconst 1, 1) := by decide +kernel
theorem dX11_init_89 : decode cX11_init 89 = .ok (.lload_n 3, 1) := by decide +kernel
theorem dX11_init_90 : decode cX11_init 90 = .ok (.ldc2_w 37, 3) := by decide +kernel
theorem dX11_init_93 : decode cX11_init 93 = .ok (.land, 1) := by decide +kernel
theorem dX11_init_94 : decode cX11_init 94 = .ok (.aload 5, 2) := by decide +kernel
theorem dX11_init_96 : decode cX11_init 96 = .ok (.invokespecial 39, 3) := by decide +kernel
theorem dX11_init_99 : decode cX11_init 99 = .ok (.aastore, 1) := by decide +kernel
theorem dX11_init_100 : decode cX11_init 100 = .ok (.return_, 1) := by decide +kernel
theorem dX11_feed_0 : decode cX11_feed 0 = .ok (.aload_n 0, 1) := by decide +kernel
theorem dX11_feed_1 : decode cX11_feed 1 = .ok (.getfield 27, 3) := by decide +kernel
theorem dX11_feed_4 : decode cX11_feed 4 = .ok (.getfield 42, 3) := by decide +kernel
theorem dX11_feed_7 : decode cX11_feed 7 = .ok (.bipush 20, 2) := by decide +kernel
theorem dX11_feed_9 : decode cX11_feed 9 = .ok (.iadd, 1) := by decide +kernel
theorem dX11_feed_10 : decode cX11_feed 10 = .ok (.bipush 100, 2) := by decide +kernel
theorem dX11_feed_12 : decode cX11_feed 12 = .ok (.if_icmp .le 5, 3) := by decide +kernel
theorem dX11_feed_15 : decode cX11_feed 15 = .ok (.iconst (-1), 1) := by decide +kernel
theorem dX11_feed_16 : decode cX11_feed 16 = .ok (.ireturn, 1) := by decide +kernel
theorem dX11_feed_17 : decode cX11_feed 17 = .ok (.aload_n 0, 1) := by decide +kernel
theorem dX11_feed_18 : decode cX11_feed 18 = .ok (.getfield 27, 3) := by decide +kernel
theorem dX11_feed_21 : decode cX11_feed 21 = .ok (.iload_n 1, 1) := by decide +kernel
theorem dX11_feed_22 : decode cX11_feed 22 = .ok (.invokevirtual 46, 3) := by decide +kernel
theorem dX11_feed_25 : decode cX11_feed 25 = .ok (.aload_n 0, 1) := by decide +kernel
theorem dX11_feed_26 : decode cX11_feed 26 = .ok (.getfield 27, 3) := by decide +kernel
theorem dX11_feed_29 : decode cX11_feed 29 = .ok (.iload_n 2, 1) := by decide +kernel
theorem dX11_feed_30 : decode cX11_feed 30 = .ok (.invokevirtual 46, 3) := by decide +kernel
theorem dX11_feed_33 : decode cX11_feed 33 = .ok (.aload_n 0, 1) := by decide +kernel
theorem dX11_feed_34 : decode cX11_feed 34 = .ok (.getfield 27, 3) := by decide +kernel
theorem dX11_feed_37 : decode cX11_feed 37 = .ok (.iload_n 3, 1) := by decide +kernel
theorem dX11_feed_38 : decode cX11_feed 38 = .ok (.invokevirtual 46, 3) := by decide +kernel
theorem dX11_feed_41 : decode cX11_feed 41 = .ok (.aload_n 0, 1) := by decide +kernel
theorem dX11_feed_42 : decode cX11_feed 42 = .ok (.getfield 27, 3) := by decide +kernel
theorem dX11_feed_45 : decode cX11_feed 45 = .ok (.iload 4, 2) := by decide +kernel
theorem dX11_feed_47 : decode cX11_feed 47 = .ok (.invokevirtual 46, 3) := by decide +kernel
theorem dX11_feed_50 : decode cX11_feed 50 = .ok (.aload_n 0, 1) := by decide +kernel
theorem dX11_feed_51 : decode cX11_feed 51 = .ok (.getfield 27, 3) := by decide +kernel
theorem dX11_feed_54 : decode cX11_feed 54 = .ok (.iload 5, 2) := by decide +kernel
theorem dX11_feed_56 : decode cX11_feed 56 = .ok (.invokevirtual 46, 3) := by decide +kernel
theorem dX11_feed_59 : decode cX11_feed 59 = .ok (.aload_n 0, 1) := by decide +kernel
theorem dX11_feed_60 : decode cX11_feed 60 = .ok (.getfield 27, 3) := by decide +kernel
theorem dX11_feed_63 : decode cX11_feed 63 = .ok (.getfield 42, 3) := by decide +kernel
theorem dX11_feed_66 : decode cX11_feed 66 = .ok (.ireturn, 1) := by decide +kernel
theorem dX11_end_0 : decode cX11_end 0 = .ok (.iload_n 1, 1) := by decide +kernel
theorem dX11_end_1 : decode cX11_end 1 = .ok (.ifCond .lt 14, 3) := by decide +kernel
theorem dX11_end_4 : decode cX11_end 4 = .ok (.iload_n 1, 1) := by decide +kernel
theorem dX11_end_5 : decode cX11_end 5 = .ok (.aload_n 0, 1) := by decide +kernel
theorem dX11_end_6 : decode cX11_end 6 = .ok (.getfield 27, 3) := by decide +kernel
theorem dX11_end_9 : decode cX11_end 9 = .ok (.getfield 42, 3) := by decide +kernel
theorem dX11_end_12 : decode cX11_end 12 = .ok (.if_icmp .le 5, 3) := by decide +kernel
theorem dX11_end_15 : decode cX11_end 15 = .ok (.iconst (-1), 1) := by decide +kernel
theorem dX11_end_16 : decode cX11_end 16 = .ok (.ireturn, 1) := by decide +kernel
theorem dX11_end_17 : decode cX11_end 17 = .ok (.aload_n 0, 1) := by decide +kernel
theorem dX11_end_18 : decode cX11_end 18 = .ok (.getfield 27, 3) := by decide +kernel
theorem dX11_end_21 : decode cX11_end 21 = .ok (.iload_n 1, 1) := by decide +kernel
theorem dX11_end_22 : decode cX11_end 22 = .ok (.invokevirtual 49, 3) := by decide +kernel
theorem dX11_end_25 : decode cX11_end 25 = .ok (.iload_n 1, 1) := by decide +kernel
theorem dX11_end_26 : decode cX11_end 26 = .ok (.ireturn, 1) := by decide +kernel
theorem dX11_seed_0 : decode cX11_seed 0 = .ok (.aload_n 0, 1) := by decide +kernel
theorem dX11_seed_1 : decode cX11_seed 1 = .ok (.iload_n 1, 1) := by decide +kernel
theorem dX11_seed_2 : decode cX11_seed 2 = .ok (.invokevirtual 52, 3) := by decide +kernel
theorem dX11_seed_5 : decode cX11_seed 5 = .ok (.astore_n 3, 1) := by decide +kernel
theorem dX11_seed_6 : decode cX11_seed 6 = .ok (.aload_n 3, 1) := by decide +kernel
theorem dX11_seed_7 : decode cX11_seed 7 = .ok (.ifnonnull 5, 3) := by decide +kernel
theorem dX11_seed_10 : decode cX11_seed 10 = .ok (.iconst 0, 1) := by decide +kernel
theorem dX11_seed_11 : decode cX11_seed 11 = .ok (.ireturn, 1) := by decide +kernel
theorem dX11_seed_12 : decode cX11_seed 12 = .ok (.aload_n 3, 1) := by decide +kernel
theorem dX11_seed_13 : decode cX11_seed 13 = .ok (.iload_n 2, 1) := by decide +kernel
theorem dX11_seed_14 : decode cX11_seed 14 = .ok (.putfield 56, 3) := by decide +kernel
theorem dX11_seed_17 : decode cX11_seed 17 = .ok (.iconst 1, 1) := by decide +kernel
theorem dX11_seed_18 : decode cX11_seed 18 = .ok (.ireturn, 1) := by decide +kernel
theorem dX11_advertise_0 : decode cX11_advertise 0 = .ok (.aload_n 0, 1) := by decide +kernel
theorem dX11_advertise_1 : decode cX11_advertise 1 = .ok (.iload_n 1, 1) := by decide +kernel
theorem dX11_advertise_2 : decode cX11_advertise 2 = .ok (.invokevirtual 52, 3) := by decide +kernel
theorem dX11_advertise_5 : decode cX11_advertise 5 = .ok (.astore_n 3, 1) := by decide +kernel
theorem dX11_advertise_6 : decode cX11_advertise 6 = .ok (.aload_n 3, 1) := by decide +kernel
theorem dX11_advertise_7 : decode cX11_advertise 7 = .ok (.ifnull 34, 3) := by decide +kernel
theorem dX11_advertise_10 : decode cX11_advertise 10 = .ok (.aload_n 3, 1) := by decide +kernel
theorem dX11_advertise_11 : decode cX11_advertise 11 = .ok (.getfield 59, 3) := by decide +kernel
theorem dX11_advertise_14 : decode cX11_advertise 14 = .ok (.ifCond .ne 27, 3) := by decide +kernel
theorem dX11_advertise_17 : decode cX11_advertise 17 = .ok (.iload_n 2, 1) := by decide +kernel
theorem dX11_advertise_18 : decode cX11_advertise 18 = .ok (.iconst 5, 1) := by decide +kernel
theorem dX11_advertise_19 : decode cX11_advertise 19 = .ok (.if_icmp .lt 22, 3) := by decide +kernel
theorem dX11_advertise_22 : decode cX11_advertise 22 = .ok (.iload_n 2, 1) := by decide +kernel
theorem dX11_advertise_23 : decode cX11_advertise 23 = .ok (.sipush 1000, 3) := by decide +kernel
theorem dX11_advertise_26 : decode cX11_advertise 26 = .ok (.if_icmp .gt 15, 3) := by decide +kernel
theorem dX11_advertise_29 : decode cX11_advertise 29 = .ok (.aload_n 0, 1) := by decide +kernel
theorem dX11_advertise_30 : decode cX11_advertise 30 = .ok (.getfield 27, 3) := by decide +kernel
theorem dX11_advertise_33 : decode cX11_advertise 33 = .ok (.getfield 42, 3) := by decide +kernel
theorem dX11_advertise_36 : decode cX11_advertise 36 = .ok (.bipush 20, 2) := by decide +kernel
theorem dX11_advertise_38 : decode cX11_advertise 38 = .ok (.if_icmp .le 5, 3) := by decide +kernel
theorem dX11_advertise_41 : decode cX11_advertise 41 = .ok (.iconst 0, 1) := by decide +kernel
theorem dX11_advertise_42 : decode cX11_advertise 42 = .ok (.ireturn, 1) := by decide +kernel
theorem dX11_advertise_43 : decode cX11_advertise 43 = .ok (.aload_n 3, 1) := by decide +kernel
theorem dX11_advertise_44 : decode cX11_advertise 44 = .ok (.iconst 1, 1) := by decide +kernel
theorem dX11_advertise_45 : decode cX11_advertise 45 = .ok (.putfield 59, 3) := by decide +kernel
theorem dX11_advertise_48 : decode cX11_advertise 48 = .ok (.aload_n 3, 1) := by decide +kernel
theorem dX11_advertise_49 : decode cX11_advertise 49 = .ok (.iload_n 2, 1) := by decide +kernel
theorem dX11_advertise_50 : decode cX11_advertise 50 = .ok (.putfield 62, 3) := by decide +kernel
theorem dX11_advertise_53 : decode cX11_advertise 53 = .ok (.aload_n 3, 1) := by decide +kernel
theorem dX11_advertise_54 : decode cX11_advertise 54 = .ok (.aload_n 0, 1) := by decide +kernel
theorem dX11_advertise_55 : decode cX11_advertise 55 = .ok (.getfield 65, 3) := by decide +kernel
theorem dX11_advertise_58 : decode cX11_advertise 58 = .ok (.putfield 68, 3) := by decide +kernel
theorem dX11_advertise_61 : decode cX11_advertise 61 = .ok (.aload_n 3, 1) := by decide +kernel
theorem dX11_advertise_62 : decode cX11_advertise 62 = .ok (.getfield 71, 3) := by decide +kernel
theorem dX11_advertise_65 : decode cX11_advertise 65 = .ok (.aload_n 0, 1) := by decide +kernel
theorem dX11_advertise_66 : decode cX11_advertise 66 = .ok (.getfield 27, 3) := by decide +kernel
theorem dX11_advertise_69 : decode cX11_advertise 69 = .ok (.invokevirtual 74, 3) := by decide +kernel
theorem dX11_advertise_72 : decode cX11_advertise 72 = .ok (.aload_n 0, 1) := by decide +kernel
theorem dX11_advertise_73 : decode cX11_advertise 73 = .ok (.getfield 27, 3) := by decide +kernel
theorem dX11_advertise_76 : decode cX11_advertise 76 = .ok (.invokevirtual 78, 3) := by decide +kernel
theorem dX11_advertise_79 : decode cX11_advertise 79 = .ok (.iconst 1, 1) := by decide +kernel
theorem dX11_advertise_80 : decode cX11_advertise 80 = .ok (.ireturn, 1) := by decide +kernel
theorem dX11_scan_0 : decode cX11_scan 0 = .ok (.aload_n 0, 1) := by decide +kernel
theorem dX11_scan_1 : decode cX11_scan 1 = .ok (.iload_n 1, 1) := by decide +kernel
theorem dX11_scan_2 : decode cX11_scan 2 = .ok (.invokevirtual 52, 3) := by decide +kernel
theorem dX11_scan_5 : decode cX11_scan 5 = .ok (.astore_n 2, 1) := by decide +kernel
theorem dX11_scan_6 : decode cX11_scan 6 = .ok (.aload_n 2, 1) := by decide +kernel
theorem dX11_scan_7 : decode cX11_scan 7 = .ok (.ifnull 10, 3) := by decide +kernel
theorem dX11_scan_10 : decode cX11_scan 10 = .ok (.aload_n 2, 1) := by decide +kernel
theorem dX11_scan_11 : decode cX11_scan 11 = .ok (.getfield 59, 3) := by decide +kernel
theorem dX11_scan_14 : decode cX11_scan 14 = .ok (.ifCond .eq 5, 3) := by decide +kernel
theorem dX11_scan_17 : decode cX11_scan 17 = .ok (.iconst 0, 1) := by decide +kernel
theorem dX11_scan_18 : decode cX11_scan 18 = .ok (.ireturn, 1) := by decide +kernel
theorem dX11_scan_19 : decode cX11_scan 19 = .ok (.aload_n 2, 1) := by decide +kernel
theorem dX11_scan_20 : decode cX11_scan 20 = .ok (.iconst 2, 1) := by decide +kernel
theorem dX11_scan_21 : decode cX11_scan 21 = .ok (.putfield 59, 3) := by decide +kernel
theorem dX11_scan_24 : decode cX11_scan 24 = .ok (.iconst 1, 1) := by decide +kernel
theorem dX11_scan_25 : decode cX11_scan 25 = .ok (.ireturn, 1) := by decide +kernel
theorem dX11_connect_0 : decode cX11_connect 0 = .ok (.aload_n 0, 1) := by decide +kernel
theorem dX11_connect_1 : decode cX11_connect 1 = .ok (.iload_n 1, 1) := by decide +kernel
theorem dX11_connect_2 : decode cX11_connect 2 = .ok (.invokevirtual 52, 3) := by decide +kernel
theorem dX11_connect_5 : decode cX11_connect 5 = .ok (.astore 9, 2) := by decide +kernel
theorem dX11_connect_7 : decode cX11_connect 7 = .ok (.aload 9, 2) := by decide +kernel
theorem dX11_connect_9 : decode cX11_connect 9 = .ok (.ifnull 25, 3) := by decide +kernel
theorem dX11_connect_12 : decode cX11_connect 12 = .ok (.aload 9, 2) := by decide +kernel
theorem dX11_connect_14 : decode cX11_connect 14 = .ok (.getfield 59, 3) := by decide +kernel
theorem dX11_connect_17 : decode cX11_connect 17 = .ok (.ifCond .ne 17, 3) := by decide +kernel
theorem dX11_connect_20 : decode cX11_connect 20 = .ok (.iload 4, 2) := by decide +kernel
theorem dX11_connect_22 : decode cX11_connect 22 = .ok (.iload 5, 2) := by decide +kernel
theorem dX11_connect_24 : decode cX11_connect 24 = .ok (.iload 6, 2) := by decide +kernel
theorem dX11_connect_26 : decode cX11_connect 26 = .ok (.lload 7, 2) := by decide +kernel
theorem dX11_connect_28 : decode cX11_connect 28 = .ok (.invokestatic 81, 3) := by decide +kernel
theorem dX11_connect_31 : decode cX11_connect 31 = .ok (.ifCond .ne 5, 3) := by decide +kernel
theorem dX11_connect_34 : decode cX11_connect 34 = .ok (.iconst 0, 1) := by decide +kernel
theorem dX11_connect_35 : decode cX11_connect 35 = .ok (.ireturn, 1) := by decide +kernel
theorem dX11_connect_36 : decode cX11_connect 36 = .ok (.aload 9, 2) := by decide +kernel
theorem dX11_connect_38 : decode cX11_connect 38 = .ok (.iconst 3, 1) := by decide +kernel
theorem dX11_connect_39 : decode cX11_connect 39 = .ok (.putfield 59, 3) := by decide +kernel
theorem dX11_connect_42 : decode cX11_connect 42 = .ok (.aload 9, 2) := by decide +kernel
theorem dX11_connect_44 : decode cX11_connect 44 = .ok (.getfield 87, 3) := by decide +kernel
theorem dX11_connect_47 : decode cX11_connect 47 = .ok (.iload 4, 2) := by decide +kernel
theorem dX11_connect_49 : decode cX11_connect 49 = .ok (.iload 5, 2) := by decide +kernel
theorem dX11_connect_51 : decode cX11_connect 51 = .ok (.iload 6, 2) := by decide +kernel
theorem dX11_connect_53 : decode cX11_connect 53 = .ok (.lload 7, 2) := by decide +kernel
theorem dX11_connect_55 : decode cX11_connect 55 = .ok (.invokevirtual 91, 3) := by decide +kernel
theorem dX11_connect_58 : decode cX11_connect 58 = .ok (.aload 9, 2) := by decide +kernel
theorem dX11_connect_60 : decode cX11_connect 60 = .ok (.getfield 87, 3) := by decide +kernel
theorem dX11_connect_63 : decode cX11_connect 63 = .ok (.lload_n 2, 1) := by decide +kernel
theorem dX11_connect_64 : decode cX11_connect 64 = .ok (.ldc2_w 37, 3) := by decide +kernel
theorem dX11_connect_67 : decode cX11_connect 67 = .ok (.land, 1) := by decide +kernel
theorem dX11_connect_68 : decode cX11_connect 68 = .ok (.putfield 95, 3) := by decide +kernel
theorem dX11_connect_71 : decode cX11_connect 71 = .ok (.iconst 1, 1) := by decide +kernel
theorem dX11_connect_72 : decode cX11_connect 72 = .ok (.ireturn, 1) := by decide +kernel
theorem dX11_stop_0 : decode cX11_stop 0 = .ok (.aload_n 0, 1) := by decide +kernel
theorem dX11_stop_1 : decode cX11_stop 1 = .ok (.iload_n 1, 1) := by decide +kernel
theorem dX11_stop_2 : decode cX11_stop 2 = .ok (.invokevirtual 52, 3) := by decide +kernel
theorem dX11_stop_5 : decode cX11_stop 5 = .ok (.astore_n 2, 1) := by decide +kernel
theorem dX11_stop_6 : decode cX11_stop 6 = .ok (.aload_n 2, 1) := by decide +kernel
theorem dX11_stop_7 : decode cX11_stop 7 = .ok (.ifnull 17, 3) := by decide +kernel
theorem dX11_stop_10 : decode cX11_stop 10 = .ok (.aload_n 2, 1) := by decide +kernel
theorem dX11_stop_11 : decode cX11_stop 11 = .ok (.getfield 59, 3) := by decide +kernel
theorem dX11_stop_14 : decode cX11_stop 14 = .ok (.ifCond .eq 10, 3) := by decide +kernel
theorem dX11_stop_17 : decode cX11_stop 17 = .ok (.aload_n 2, 1) := by decide +kernel
theorem dX11_stop_18 : decode cX11_stop 18 = .ok (.invokevirtual 99, 3) := by decide +kernel
theorem dX11_stop_21 : decode cX11_stop 21 = .ok (.ifCond .eq 5, 3) := by decide +kernel
theorem dX11_stop_24 : decode cX11_stop 24 = .ok (.iconst 0, 1) := by decide +kernel
theorem dX11_stop_25 : decode cX11_stop 25 = .ok (.ireturn, 1) := by decide +kernel
theorem dX11_stop_26 : decode cX11_stop 26 = .ok (.aload_n 2, 1) := by decide +kernel
theorem dX11_stop_27 : decode cX11_stop 27 = .ok (.iconst 0, 1) := by decide +kernel
theorem dX11_stop_28 : decode cX11_stop 28 = .ok (.putfield 59, 3) := by decide +kernel
theorem dX11_stop_31 : decode cX11_stop 31 = .ok (.iconst 1, 1) := by decide +kernel
theorem dX11_stop_32 : decode cX11_stop 32 = .ok (.ireturn, 1) := by decide +kernel
theorem dX11_noise_0 : decode cX11_noise 0 = .ok (.aload_n 0, 1) := by decide +kernel
theorem dX11_noise_1 : decode cX11_noise 1 = .ok (.iload_n 1, 1) := by decide +kernel
theorem dX11_noise_2 : decode cX11_noise 2 = .ok (.invokevirtual 52, 3) := by decide +kernel
theorem dX11_noise_5 : decode cX11_noise 5 = .ok (.ifnull 19, 3) := by decide +kernel
theorem dX11_noise_8 : decode cX11_noise 8 = .ok (.aload_n 0, 1) := by decide +kernel
theorem dX11_noise_9 : decode cX11_noise 9 = .ok (.getfield 18, 3) := by decide +kernel
theorem dX11_noise_12 : decode cX11_noise 12 = .ok (.iload_n 1, 1) := by decide +kernel
theorem dX11_noise_13 : decode cX11_noise 13 = .ok (.iload_n 2, 1) := by decide +kernel
theorem dX11_noise_14 : decode cX11_noise 14 = .ok (.invokevirtual 103, 3) := by decide +kernel
theorem dX11_noise_17 : decode cX11_noise 17 = .ok (.ifCond .eq 7, 3) := by decide +kernel
theorem dX11_noise_20 : decode cX11_noise 20 = .ok (.iconst 1, 1) := by decide +kernel
theorem dX11_noise_21 : decode cX11_noise 21 = .ok (.goto 4, 3) := by decide +kernel
theorem dX11_noise_24 : decode cX11_noise 24 = .ok (.iconst 0, 1) := by decide +kernel
theorem dX11_noise_25 : decode cX11_noise 25 = .ok (.ireturn, 1) := by decide +kernel
theorem dX11_lose_0 : decode cX11_lose 0 = .ok (.aload_n 0, 1) := by decide +kernel
theorem dX11_lose_1 : decode cX11_lose 1 = .ok (.iload_n 1, 1) := by decide +kernel
theorem dX11_lose_2 : decode cX11_lose 2 = .ok (.invokevirtual 52, 3) := by decide +kernel
theorem dX11_lose_5 : decode cX11_lose 5 = .ok (.ifnull 19, 3) := by decide +kernel
theorem dX11_lose_8 : decode cX11_lose 8 = .ok (.aload_n 0, 1) := by decide +kernel
theorem dX11_lose_9 : decode cX11_lose 9 = .ok (.getfield 18, 3) := by decide +kernel
theorem dX11_lose_12 : decode cX11_lose 12 = .ok (.iload_n 1, 1) := by decide +kernel
theorem dX11_lose_13 : decode cX11_lose 13 = .ok (.iload_n 2, 1) := by decide +kernel
theorem dX11_lose_14 : decode cX11_lose 14 = .ok (.invokevirtual 107, 3) := by decide +kernel
theorem dX11_lose_17 : decode cX11_lose 17 = .ok (.ifCond .eq 7, 3) := by decide +kernel
theorem dX11_lose_20 : decode cX11_lose 20 = .ok (.iconst 1, 1) := by decide +kernel
theorem dX11_lose_21 : decode cX11_lose 21 = .ok (.goto 4, 3) := by decide +kernel
theorem dX11_lose_24 : decode cX11_lose 24 = .ok (.iconst 0, 1) := by decide +kernel
theorem dX11_lose_25 : decode cX11_lose 25 = .ok (.ireturn, 1) := by decide +kernel
theorem dX11_allow_0 : decode cX11_allow 0 = .ok (.aload_n 0, 1) := by decide +kernel
theorem dX11_allow_1 : decode cX11_allow 1 = .ok (.iload_n 1, 1) := by decide +kernel
theorem dX11_allow_2 : decode cX11_allow 2 = .ok (.invokevirtual 52, 3) := by decide +kernel
theorem dX11_allow_5 : decode cX11_allow 5 = .ok (.astore_n 3, 1) := by decide +kernel
theorem dX11_allow_6 : decode cX11_allow 6 = .ok (.aload_n 3, 1) := by decide +kernel
theorem dX11_allow_7 : decode cX11_allow 7 = .ok (.ifnull 14, 3) := by decide +kernel
theorem dX11_allow_10 : decode cX11_allow 10 = .ok (.iload_n 2, 1) := by decide +kernel
theorem dX11_allow_11 : decode cX11_allow 11 = .ok (.iconst (-1), 1) := by decide +kernel
theorem dX11_allow_12 : decode cX11_allow 12 = .ok (.if_icmp .lt 9, 3) := by decide +kernel
theorem dX11_allow_15 : decode cX11_allow 15 = .ok (.iload_n 2, 1) := by decide +kernel
theorem dX11_allow_16 : decode cX11_allow 16 = .ok (.ldc 110, 2) := by decide +kernel
theorem dX11_allow_18 : decode cX11_allow 18 = .ok (.if_icmp .le 5, 3) := by decide +kernel
theorem dX11_allow_21 : decode cX11_allow 21 = .ok (.iconst 0, 1) := by decide +kernel
theorem dX11_allow_22 : decode cX11_allow 22 = .ok (.ireturn, 1) := by decide +kernel
theorem dX11_allow_23 : decode cX11_allow 23 = .ok (.aload_n 3, 1) := by decide +kernel
theorem dX11_allow_24 : decode cX11_allow 24 = .ok (.getfield 111, 3) := by decide +kernel
theorem dX11_allow_27 : decode cX11_allow 27 = .ok (.iload_n 2, 1) := by decide +kernel
theorem dX11_allow_28 : decode cX11_allow 28 = .ok (.putfield 115, 3) := by decide +kernel
theorem dX11_allow_31 : decode cX11_allow 31 = .ok (.iconst 1, 1) := by decide +kernel
theorem dX11_allow_32 : decode cX11_allow 32 = .ok (.ireturn, 1) := by decide +kernel
theorem dX11_features_0 : decode cX11_features 0 = .ok (.aload_n 0, 1) := by decide +kernel
theorem dX11_features_1 : decode cX11_features 1 = .ok (.iload_n 1, 1) := by decide +kernel
theorem dX11_features_2 : decode cX11_features 2 = .ok (.invokevirtual 52, 3) := by decide +kernel
theorem dX11_features_5 : decode cX11_features 5 = .ok (.astore 4, 2) := by decide +kernel
theorem dX11_features_7 : decode cX11_features 7 = .ok (.aload 4, 2) := by decide +kernel
theorem dX11_features_9 : decode cX11_features 9 = .ok (.ifnonnull 5, 3) := by decide +kernel
theorem dX11_features_12 : decode cX11_features 12 = .ok (.iconst 0, 1) := by decide +kernel
theorem dX11_features_13 : decode cX11_features 13 = .ok (.ireturn, 1) := by decide +kernel
theorem dX11_features_14 : decode cX11_features 14 = .ok (.aload 4, 2) := by decide +kernel
theorem dX11_features_16 : decode cX11_features 16 = .ok (.lload_n 2, 1) := by decide +kernel
theorem dX11_features_17 : decode cX11_features 17 = .ok (.putfield 120, 3) := by decide +kernel
theorem dX11_features_20 : decode cX11_features 20 = .ok (.iconst 1, 1) := by decide +kernel
theorem dX11_features_21 : decode cX11_features 21 = .ok (.ireturn, 1) := by decide +kernel
theorem dX11_attribute_0 : decode cX11_attribute 0 = .ok (.aload_n 0, 1) := by decide +kernel
theorem dX11_attribute_1 : decode cX11_attribute 1 = .ok (.iload_n 1, 1) := by decide +kernel
theorem dX11_attribute_2 : decode cX11_attribute 2 = .ok (.invokevirtual 52, 3) := by decide +kernel
theorem dX11_attribute_5 : decode cX11_attribute 5 = .ok (.astore 4, 2) := by decide +kernel
theorem dX11_attribute_7 : decode cX11_attribute 7 = .ok (.aload 4, 2) := by decide +kernel
theorem dX11_attribute_9 : decode cX11_attribute 9 = .ok (.ifnull 35, 3) := by decide +kernel
theorem dX11_attribute_12 : decode cX11_attribute 12 = .ok (.iload_n 2, 1) := by decide +kernel
theorem dX11_attribute_13 : decode cX11_attribute 13 = .ok (.ifCond .lt 31, 3) := by decide +kernel
theorem dX11_attribute_16 : decode cX11_attribute 16 = .ok (.iload_n 2, 1) := by decide +kernel
theorem dX11_attribute_17 : decode cX11_attribute 17 = .ok (.ldc 123, 2) := by decide +kernel
theorem dX11_attribute_19 : decode cX11_attribute 19 = .ok (.if_icmp .gt 25, 3) := by decide +kernel
theorem dX11_attribute_22 : decode cX11_attribute 22 = .ok (.iload_n 3, 1) := by decide +kernel
theorem dX11_attribute_23 : decode cX11_attribute 23 = .ok (.ifCond .lt 21, 3) := by decide +kernel
theorem dX11_attribute_26 : decode cX11_attribute 26 = .ok (.iload_n 3, 1) := by decide +kernel
theorem dX11_attribute_27 : decode cX11_attribute 27 = .ok (.bipush 7, 2) := by decide +kernel
theorem dX11_attribute_29 : decode cX11_attribute 29 = .ok (.if_icmp .gt 15, 3) := by decide +kernel
theorem dX11_attribute_32 : decode cX11_attribute 32 = .ok (.aload_n 0, 1) := by decide +kernel
theorem dX11_attribute_33 : decode cX11_attribute 33 = .ok (.getfield 27, 3) := by decide +kernel
theorem dX11_attribute_36 : decode cX11_attribute 36 = .ok (.getfield 42, 3) := by decide +kernel
theorem dX11_attribute_39 : decode cX11_attribute 39 = .ok (.bipush 40, 2) := by decide +kernel
theorem dX11_attribute_41 : decode cX11_attribute 41 = .ok (.if_icmp .le 5, 3) := by decide +kernel
theorem dX11_attribute_44 : decode cX11_attribute 44 = .ok (.iconst (-1), 1) := by decide +kernel
theorem dX11_attribute_45 : decode cX11_attribute 45 = .ok (.ireturn, 1) := by decide +kernel
theorem dX11_attribute_46 : decode cX11_attribute 46 = .ok (.aload 4, 2) := by decide +kernel
theorem dX11_attribute_48 : decode cX11_attribute 48 = .ok (.getfield 124, 3) := by decide +kernel
theorem dX11_attribute_51 : decode cX11_attribute 51 = .ok (.iload_n 2, 1) := by decide +kernel
theorem dX11_attribute_52 : decode cX11_attribute 52 = .ok (.iload_n 3, 1) := by decide +kernel
theorem dX11_attribute_53 : decode cX11_attribute 53 = .ok (.aload_n 0, 1) := by decide +kernel
theorem dX11_attribute_54 : decode cX11_attribute 54 = .ok (.getfield 27, 3) := by decide +kernel
theorem dX11_attribute_57 : decode cX11_attribute 57 = .ok (.invokevirtual 128, 3) := by decide +kernel
theorem dX11_attribute_60 : decode cX11_attribute 60 = .ok (.istore 5, 2) := by decide +kernel
theorem dX11_attribute_62 : decode cX11_attribute 62 = .ok (.iload 5, 2) := by decide +kernel
theorem dX11_attribute_64 : decode cX11_attribute 64 = .ok (.iconst (-1), 1) := by decide +kernel
theorem dX11_attribute_65 : decode cX11_attribute 65 = .ok (.if_icmp .eq 10, 3) := by decide +kernel
theorem dX11_attribute_68 : decode cX11_attribute 68 = .ok (.aload_n 0, 1) := by decide +kernel
theorem dX11_attribute_69 : decode cX11_attribute 69 = .ok (.getfield 27, 3) := by decide +kernel
theorem dX11_attribute_72 : decode cX11_attribute 72 = .ok (.invokevirtual 78, 3) := by decide +kernel
theorem dX11_attribute_75 : decode cX11_attribute 75 = .ok (.iload 5, 2) := by decide +kernel
theorem dX11_attribute_77 : decode cX11_attribute 77 = .ok (.ireturn, 1) := by decide +kernel
theorem dX11_set_0 : decode cX11_set 0 = .ok (.aload_n 0, 1) := by decide +kernel
theorem dX11_set_1 : decode cX11_set 1 = .ok (.iload_n 1, 1) := by decide +kernel
theorem dX11_set_2 : decode cX11_set 2 = .ok (.invokevirtual 52, 3) := by decide +kernel
theorem dX11_set_5 : decode cX11_set 5 = .ok (.astore_n 3, 1) := by decide +kernel
theorem dX11_set_6 : decode cX11_set 6 = .ok (.aload_n 3, 1) := by decide +kernel
theorem dX11_set_7 : decode cX11_set 7 = .ok (.ifnonnull 7, 3) := by decide +kernel
theorem dX11_set_10 : decode cX11_set 10 = .ok (.aconst_null, 1) := by decide +kernel
theorem dX11_set_11 : decode cX11_set 11 = .ok (.goto 11, 3) := by decide +kernel
theorem dX11_set_14 : decode cX11_set 14 = .ok (.aload_n 3, 1) := by decide +kernel
theorem dX11_set_15 : decode cX11_set 15 = .ok (.getfield 124, 3) := by decide +kernel
theorem dX11_set_18 : decode cX11_set 18 = .ok (.iload_n 2, 1) := by decide +kernel
theorem dX11_set_19 : decode cX11_set 19 = .ok (.invokevirtual 134, 3) := by decide +kernel
theorem dX11_set_22 : decode cX11_set 22 = .ok (.astore 4, 2) := by decide +kernel
theorem dX11_set_24 : decode cX11_set 24 = .ok (.aload 4, 2) := by decide +kernel
theorem dX11_set_26 : decode cX11_set 26 = .ok (.ifnull 15, 3) := by decide +kernel
theorem dX11_set_29 : decode cX11_set 29 = .ok (.aload_n 0, 1) := by decide +kernel
theorem dX11_set_30 : decode cX11_set 30 = .ok (.getfield 27, 3) := by decide +kernel
theorem dX11_set_33 : decode cX11_set 33 = .ok (.getfield 42, 3) := by decide +kernel
theorem dX11_set_36 : decode cX11_set 36 = .ok (.bipush 40, 2) := by decide +kernel
theorem dX11_set_38 : decode cX11_set 38 = .ok (.if_icmp .le 5, 3) := by decide +kernel
theorem dX11_set_41 : decode cX11_set 41 = .ok (.iconst 0, 1) := by decide +kernel
theorem dX11_set_42 : decode cX11_set 42 = .ok (.ireturn, 1) := by decide +kernel
theorem dX11_set_43 : decode cX11_set 43 = .ok (.aload 4, 2) := by decide +kernel
theorem dX11_set_45 : decode cX11_set 45 = .ok (.aload_n 0, 1) := by decide +kernel
theorem dX11_set_46 : decode cX11_set 46 = .ok (.getfield 27, 3) := by decide +kernel
theorem dX11_set_49 : decode cX11_set 49 = .ok (.invokevirtual 74, 3) := by decide +kernel
theorem dX11_set_52 : decode cX11_set 52 = .ok (.aload_n 0, 1) := by decide +kernel
theorem dX11_set_53 : decode cX11_set 53 = .ok (.getfield 27, 3) := by decide +kernel
theorem dX11_set_56 : decode cX11_set 56 = .ok (.invokevirtual 78, 3) := by decide +kernel
theorem dX11_set_59 : decode cX11_set 59 = .ok (.iconst 1, 1) := by decide +kernel
theorem dX11_set_60 : decode cX11_set 60 = .ok (.ireturn, 1) := by decide +kernel
theorem dX11_mtu_0 : decode cX11_mtu 0 = .ok (.aload_n 0, 1) := by decide +kernel
theorem dX11_mtu_1 : decode cX11_mtu 1 = .ok (.iload_n 1, 1) := by decide +kernel
theorem dX11_mtu_2 : decode cX11_mtu 2 = .ok (.invokevirtual 52, 3) := by decide +kernel
theorem dX11_mtu_5 : decode cX11_mtu 5 = .ok (.astore_n 3, 1) := by decide +kernel
theorem dX11_mtu_6 : decode cX11_mtu 6 = .ok (.aload_n 3, 1) := by decide +kernel
theorem dX11_mtu_7 : decode cX11_mtu 7 = .ok (.ifnull 15, 3) := by decide +kernel
theorem dX11_mtu_10 : decode cX11_mtu 10 = .ok (.iload_n 2, 1) := by decide +kernel
theorem dX11_mtu_11 : decode cX11_mtu 11 = .ok (.bipush 23, 2) := by decide +kernel
theorem dX11_mtu_13 : decode cX11_mtu 13 = .ok (.if_icmp .lt 9, 3) := by decide +kernel
theorem dX11_mtu_16 : decode cX11_mtu 16 = .ok (.iload_n 2, 1) := by decide +kernel
theorem dX11_mtu_17 : decode cX11_mtu 17 = .ok (.bipush 64, 2) := by decide +kernel
theorem dX11_mtu_19 : decode cX11_mtu 19 = .ok (.if_icmp .le 5, 3) := by decide +kernel
theorem dX11_mtu_22 : decode cX11_mtu 22 = .ok (.iconst 0, 1) := by decide +kernel
theorem dX11_mtu_23 : decode cX11_mtu 23 = .ok (.ireturn, 1) := by decide +kernel
theorem dX11_mtu_24 : decode cX11_mtu 24 = .ok (.aload_n 3, 1) := by decide +kernel
theorem dX11_mtu_25 : decode cX11_mtu 25 = .ok (.getfield 124, 3) := by decide +kernel
theorem dX11_mtu_28 : decode cX11_mtu 28 = .ok (.iload_n 2, 1) := by decide +kernel
theorem dX11_mtu_29 : decode cX11_mtu 29 = .ok (.putfield 138, 3) := by decide +kernel
theorem dX11_mtu_32 : decode cX11_mtu 32 = .ok (.iconst 1, 1) := by decide +kernel
theorem dX11_mtu_33 : decode cX11_mtu 33 = .ok (.ireturn, 1) := by decide +kernel
theorem dX11_control_0 : decode cX11_control 0 = .ok (.aload_n 0, 1) := by decide +kernel
theorem dX11_control_1 : decode cX11_control 1 = .ok (.iload_n 1, 1) := by decide +kernel
theorem dX11_control_2 : decode cX11_control 2 = .ok (.invokevirtual 52, 3) := by decide +kernel
theorem dX11_control_5 : decode cX11_control 5 = .ok (.astore_n 3, 1) := by decide +kernel
theorem dX11_control_6 : decode cX11_control 6 = .ok (.aload_n 3, 1) := by decide +kernel
theorem dX11_control_7 : decode cX11_control 7 = .ok (.ifnull 17, 3) := by decide +kernel
theorem dX11_control_10 : decode cX11_control 10 = .ok (.aload_n 3, 1) := by decide +kernel
theorem dX11_control_11 : decode cX11_control 11 = .ok (.invokevirtual 99, 3) := by decide +kernel
theorem dX11_control_14 : decode cX11_control 14 = .ok (.ifCond .eq 10, 3) := by decide +kernel
theorem dX11_control_17 : decode cX11_control 17 = .ok (.aload_n 3, 1) := by decide +kernel
theorem dX11_control_18 : decode cX11_control 18 = .ok (.invokevirtual 141, 3) := by decide +kernel
theorem dX11_control_21 : decode cX11_control 21 = .ok (.ifCond .ne 5, 3) := by decide +kernel
theorem dX11_control_24 : decode cX11_control 24 = .ok (.iconst 0, 1) := by decide +kernel
theorem dX11_control_25 : decode cX11_control 25 = .ok (.ireturn, 1) := by decide +kernel
theorem dX11_control_26 : decode cX11_control 26 = .ok (.iload_n 2, 1) := by decide +kernel
theorem dX11_control_27 : decode cX11_control 27 = .ok (.tableswitch 81 0 2 #[25, 46, 66], 25) := by decide +kernel
theorem dX11_control_52 : decode cX11_control 52 = .ok (.aload_n 3, 1) := by decide +kernel
theorem dX11_control_53 : decode cX11_control 53 = .ok (.getfield 144, 3) := by decide +kernel
theorem dX11_control_56 : decode cX11_control 56 = .ok (.getfield 148, 3) := by decide +kernel
theorem dX11_control_59 : decode cX11_control 59 = .ok (.ifCond .eq 5, 3) := by decide +kernel
theorem dX11_control_62 : decode cX11_control 62 = .ok (.iconst 0, 1) := by decide +kernel
theorem dX11_control_63 : decode cX11_control 63 = .ok (.ireturn, 1) := by decide +kernel
theorem dX11_control_64 : decode cX11_control 64 = .ok (.aload_n 3, 1) := by decide +kernel
theorem dX11_control_65 : decode cX11_control 65 = .ok (.getfield 144, 3) := by decide +kernel
theorem dX11_control_68 : decode cX11_control 68 = .ok (.invokevirtual 154, 3) := by decide +kernel
theorem dX11_control_71 : decode cX11_control 71 = .ok (.iconst 1, 1) := by decide +kernel
theorem dX11_control_72 : decode cX11_control 72 = .ok (.ireturn, 1) := by decide +kernel
theorem dX11_control_73 : decode cX11_control 73 = .ok (.aload_n 3, 1) := by decide +kernel
theorem dX11_control_74 : decode cX11_control 74 = .ok (.getfield 144, 3) := by decide +kernel
theorem dX11_control_77 : decode cX11_control 77 = .ok (.bipush 8, 2) := by decide +kernel
theorem dX11_control_79 : decode cX11_control 79 = .ok (.invokevirtual 157, 3) := by decide +kernel
theorem dX11_control_82 : decode cX11_control 82 = .ok (.aload_n 3, 1) := by decide +kernel
theorem dX11_control_83 : decode cX11_control 83 = .ok (.getfield 120, 3) := by decide +kernel
theorem dX11_control_86 : decode cX11_control 86 = .ok (.bipush 8, 2) := by decide +kernel
theorem dX11_control_88 : decode cX11_control 88 = .ok (.invokevirtual 160, 3) := by decide +kernel
theorem dX11_control_91 : decode cX11_control 91 = .ok (.iconst 1, 1) := by decide +kernel
theorem dX11_control_92 : decode cX11_control 92 = .ok (.ireturn, 1) := by decide +kernel
theorem dX11_control_93 : decode cX11_control 93 = .ok (.aload_n 3, 1) := by decide +kernel
theorem dX11_control_94 : decode cX11_control 94 = .ok (.getfield 144, 3) := by decide +kernel
theorem dX11_control_97 : decode cX11_control 97 = .ok (.iconst 2, 1) := by decide +kernel
theorem dX11_control_98 : decode cX11_control 98 = .ok (.invokevirtual 157, 3) := by decide +kernel
theorem dX11_control_101 : decode cX11_control 101 = .ok (.bipush 19, 2) := by decide +kernel
theorem dX11_control_103 : decode cX11_control 103 = .ok (.invokevirtual 164, 3) := by decide +kernel
theorem dX11_control_106 : decode cX11_control 106 = .ok (.iconst 1, 1) := by decide +kernel
theorem dX11_control_107 : decode cX11_control 107 = .ok (.ireturn, 1) := by decide +kernel
theorem dX11_control_108 : decode cX11_control 108 = .ok (.iconst 0, 1) := by decide +kernel
theorem dX11_control_109 : decode cX11_control 109 = .ok (.ireturn, 1) := by decide +kernel
theorem dX11_map_0 : decode cX11_map 0 = .ok (.aload_n 0, 1) := by decide +kernel
theorem dX11_map_1 : decode cX11_map 1 = .ok (.iload_n 1, 1) := by decide +kernel
theorem dX11_map_2 : decode cX11_map 2 = .ok (.invokevirtual 52, 3) := by decide +kernel
theorem dX11_map_5 : decode cX11_map 5 = .ok (.astore 4, 2) := by decide +kernel
theorem dX11_map_7 : decode cX11_map 7 = .ok (.aload 4, 2) := by decide +kernel
theorem dX11_map_9 : decode cX11_map 9 = .ok (.ifnull 38, 3) := by decide +kernel
theorem dX11_map_12 : decode cX11_map 12 = .ok (.aload 4, 2) := by decide +kernel
theorem dX11_map_14 : decode cX11_map 14 = .ok (.getfield 59, 3) := by decide +kernel
theorem dX11_map_17 : decode cX11_map 17 = .ok (.iconst 4, 1) := by decide +kernel
theorem dX11_map_18 : decode cX11_map 18 = .ok (.if_icmp .ne 29, 3) := by decide +kernel
theorem dX11_map_21 : decode cX11_map 21 = .ok (.aload 4, 2) := by decide +kernel
theorem dX11_map_23 : decode cX11_map 23 = .ok (.invokevirtual 141, 3) := by decide +kernel
theorem dX11_map_26 : decode cX11_map 26 = .ok (.ifCond .eq 21, 3) := by decide +kernel
theorem dX11_map_29 : decode cX11_map 29 = .ok (.aload 4, 2) := by decide +kernel
theorem dX11_map_31 : decode cX11_map 31 = .ok (.getfield 87, 3) := by decide +kernel
theorem dX11_map_34 : decode cX11_map 34 = .ok (.getfield 167, 3) := by decide +kernel
theorem dX11_map_37 : decode cX11_map 37 = .ok (.ifCond .ne 10, 3) := by decide +kernel
theorem dX11_map_40 : decode cX11_map 40 = .ok (.lload_n 2, 1) := by decide +kernel
theorem dX11_map_41 : decode cX11_map 41 = .ok (.invokestatic 170, 3) := by decide +kernel
theorem dX11_map_44 : decode cX11_map 44 = .ok (.ifCond .ne 5, 3) := by decide +kernel
theorem dX11_map_47 : decode cX11_map 47 = .ok (.iconst 0, 1) := by decide +kernel
theorem dX11_map_48 : decode cX11_map 48 = .ok (.ireturn, 1) := by decide +kernel
theorem dX11_map_49 : decode cX11_map 49 = .ok (.aload 4, 2) := by decide +kernel
theorem dX11_map_51 : decode cX11_map 51 = .ok (.getfield 87, 3) := by decide +kernel
theorem dX11_map_54 : decode cX11_map 54 = .ok (.lload_n 2, 1) := by decide +kernel
theorem dX11_map_55 : decode cX11_map 55 = .ok (.aload 4, 2) := by decide +kernel
theorem dX11_map_57 : decode cX11_map 57 = .ok (.getfield 87, 3) := by decide +kernel
theorem dX11_map_60 : decode cX11_map 60 = .ok (.getfield 174, 3) := by decide +kernel
theorem dX11_map_63 : decode cX11_map 63 = .ok (.bipush 8, 2) := by decide +kernel
theorem dX11_map_65 : decode cX11_map 65 = .ok (.iadd, 1) := by decide +kernel
theorem dX11_map_66 : decode cX11_map 66 = .ok (.ldc 123, 2) := by decide +kernel
theorem dX11_map_68 : decode cX11_map 68 = .ok (.iand, 1) := by decide +kernel
theorem dX11_map_69 : decode cX11_map 69 = .ok (.invokevirtual 177, 3) := by decide +kernel
theorem dX11_map_72 : decode cX11_map 72 = .ok (.aload 4, 2) := by decide +kernel
theorem dX11_map_74 : decode cX11_map 74 = .ok (.getfield 144, 3) := by decide +kernel
theorem dX11_map_77 : decode cX11_map 77 = .ok (.iconst 1, 1) := by decide +kernel
theorem dX11_map_78 : decode cX11_map 78 = .ok (.invokevirtual 157, 3) := by decide +kernel
theorem dX11_map_81 : decode cX11_map 81 = .ok (.astore 5, 2) := by decide +kernel
theorem dX11_map_83 : decode cX11_map 83 = .ok (.aload 5, 2) := by decide +kernel
theorem dX11_map_85 : decode cX11_map 85 = .ok (.lload_n 2, 1) := by decide +kernel
theorem dX11_map_86 : decode cX11_map 86 = .ok (.iconst 5, 1) := by decide +kernel
theorem dX11_map_87 : decode cX11_map 87 = .ok (.invokevirtual 160, 3) := by decide +kernel
theorem dX11_map_90 : decode cX11_map 90 = .ok (.aload 5, 2) := by decide +kernel
theorem dX11_map_92 : decode cX11_map 92 = .ok (.aload 4, 2) := by decide +kernel
theorem dX11_map_94 : decode cX11_map 94 = .ok (.getfield 87, 3) := by decide +kernel
theorem dX11_map_97 : decode cX11_map 97 = .ok (.getfield 180, 3) := by decide +kernel
theorem dX11_map_100 : decode cX11_map 100 = .ok (.i2l, 1) := by decide +kernel
theorem dX11_map_101 : decode cX11_map 101 = .ok (.iconst 2, 1) := by decide +kernel
theorem dX11_map_102 : decode cX11_map 102 = .ok (.invokevirtual 160, 3) := by decide +kernel
theorem dX11_map_105 : decode cX11_map 105 = .ok (.iconst 1, 1) := by decide +kernel
theorem dX11_map_106 : decode cX11_map 106 = .ok (.ireturn, 1) := by decide +kernel
theorem dX11_encrypt_0 : decode cX11_encrypt 0 = .ok (.aload_n 0, 1) := by decide +kernel
theorem dX11_encrypt_1 : decode cX11_encrypt 1 = .ok (.iload_n 1, 1) := by decide +kernel
theorem dX11_encrypt_2 : decode cX11_encrypt 2 = .ok (.invokevirtual 52, 3) := by decide +kernel
theorem dX11_encrypt_5 : decode cX11_encrypt 5 = .ok (.astore_n 2, 1) := by decide +kernel
theorem dX11_encrypt_6 : decode cX11_encrypt 6 = .ok (.aload_n 2, 1) := by decide +kernel
theorem dX11_encrypt_7 : decode cX11_encrypt 7 = .ok (.ifnull 38, 3) := by decide +kernel
theorem dX11_encrypt_10 : decode cX11_encrypt 10 = .ok (.aload_n 2, 1) := by decide +kernel
theorem dX11_encrypt_11 : decode cX11_encrypt 11 = .ok (.getfield 59, 3) := by decide +kernel
theorem dX11_encrypt_14 : decode cX11_encrypt 14 = .ok (.iconst 4, 1) := by decide +kernel
theorem dX11_encrypt_15 : decode cX11_encrypt 15 = .ok (.if_icmp .ne 30, 3) := by decide +kernel
theorem dX11_encrypt_18 : decode cX11_encrypt 18 = .ok (.aload_n 2, 1) := by decide +kernel
theorem dX11_encrypt_19 : decode cX11_encrypt 19 = .ok (.getfield 183, 3) := by decide +kernel
theorem dX11_encrypt_22 : decode cX11_encrypt 22 = .ok (.getfield 187, 3) := by decide +kernel
theorem dX11_encrypt_25 : decode cX11_encrypt 25 = .ok (.ifCond .eq 20, 3) := by decide +kernel
theorem dX11_encrypt_28 : decode cX11_encrypt 28 = .ok (.aload_n 2, 1) := by decide +kernel
theorem dX11_encrypt_29 : decode cX11_encrypt 29 = .ok (.getfield 183, 3) := by decide +kernel
theorem dX11_encrypt_32 : decode cX11_encrypt 32 = .ok (.getfield 192, 3) := by decide +kernel
theorem dX11_encrypt_35 : decode cX11_encrypt 35 = .ok (.ifCond .ne 10, 3) := by decide +kernel
theorem dX11_encrypt_38 : decode cX11_encrypt 38 = .ok (.aload_n 2, 1) := by decide +kernel
theorem dX11_encrypt_39 : decode cX11_encrypt 39 = .ok (.invokevirtual 141, 3) := by decide +kernel
theorem dX11_encrypt_42 : decode cX11_encrypt 42 = .ok (.ifCond .ne 5, 3) := by decide +kernel
theorem dX11_encrypt_45 : decode cX11_encrypt 45 = .ok (.iconst 0, 1) := by decide +kernel
theorem dX11_encrypt_46 : decode cX11_encrypt 46 = .ok (.ireturn, 1) := by decide +kernel
theorem dX11_encrypt_47 : decode cX11_encrypt 47 = .ok (.aload_n 2, 1) := by decide +kernel
theorem dX11_encrypt_48 : decode cX11_encrypt 48 = .ok (.getfield 183, 3) := by decide +kernel
theorem dX11_encrypt_51 : decode cX11_encrypt 51 = .ok (.iconst 1, 1) := by decide +kernel
theorem dX11_encrypt_52 : decode cX11_encrypt 52 = .ok (.putfield 195, 3) := by decide +kernel
theorem dX11_encrypt_55 : decode cX11_encrypt 55 = .ok (.aload_n 2, 1) := by decide +kernel
theorem dX11_encrypt_56 : decode cX11_encrypt 56 = .ok (.getfield 183, 3) := by decide +kernel
theorem dX11_encrypt_59 : decode cX11_encrypt 59 = .ok (.iconst 1, 1) := by decide +kernel
theorem dX11_encrypt_60 : decode cX11_encrypt 60 = .ok (.putfield 198, 3) := by decide +kernel
theorem dX11_encrypt_63 : decode cX11_encrypt 63 = .ok (.aload_n 2, 1) := by decide +kernel
theorem dX11_encrypt_64 : decode cX11_encrypt 64 = .ok (.getfield 183, 3) := by decide +kernel
theorem dX11_encrypt_67 : decode cX11_encrypt 67 = .ok (.iconst 0, 1) := by decide +kernel
theorem dX11_encrypt_68 : decode cX11_encrypt 68 = .ok (.putfield 201, 3) := by decide +kernel
theorem dX11_encrypt_71 : decode cX11_encrypt 71 = .ok (.aload_n 2, 1) := by decide +kernel
theorem dX11_encrypt_72 : decode cX11_encrypt 72 = .ok (.aload_n 2, 1) := by decide +kernel
theorem dX11_encrypt_73 : decode cX11_encrypt 73 = .ok (.getfield 183, 3) := by decide +kernel
theorem dX11_encrypt_76 : decode cX11_encrypt 76 = .ok (.getfield 204, 3) := by decide +kernel
theorem dX11_encrypt_79 : decode cX11_encrypt 79 = .ok (.iconst 0, 1) := by decide +kernel
theorem dX11_encrypt_80 : decode cX11_encrypt 80 = .ok (.bipush 8, 2) := by decide +kernel
theorem dX11_encrypt_82 : decode cX11_encrypt 82 = .ok (.invokevirtual 208, 3) := by decide +kernel
theorem dX11_encrypt_85 : decode cX11_encrypt 85 = .ok (.aload_n 2, 1) := by decide +kernel
theorem dX11_encrypt_86 : decode cX11_encrypt 86 = .ok (.aload_n 2, 1) := by decide +kernel
theorem dX11_encrypt_87 : decode cX11_encrypt 87 = .ok (.getfield 183, 3) := by decide +kernel
theorem dX11_encrypt_90 : decode cX11_encrypt 90 = .ok (.getfield 212, 3) := by decide +kernel
theorem dX11_encrypt_93 : decode cX11_encrypt 93 = .ok (.iconst 0, 1) := by decide +kernel
theorem dX11_encrypt_94 : decode cX11_encrypt 94 = .ok (.iconst 4, 1) := by decide +kernel
theorem dX11_encrypt_95 : decode cX11_encrypt 95 = .ok (.invokevirtual 208, 3) := by decide +kernel
theorem dX11_encrypt_98 : decode cX11_encrypt 98 = .ok (.aload_n 2, 1) := by decide +kernel
theorem dX11_encrypt_99 : decode cX11_encrypt 99 = .ok (.getfield 183, 3) := by decide +kernel
theorem dX11_encrypt_102 : decode cX11_encrypt 102 = .ok (.aload_n 2, 1) := by decide +kernel
theorem dX11_encrypt_103 : decode cX11_encrypt 103 = .ok (.getfield 144, 3) := by decide +kernel
theorem dX11_encrypt_106 : decode cX11_encrypt 106 = .ok (.iconst 3, 1) := by decide +kernel
theorem dX11_encrypt_107 : decode cX11_encrypt 107 = .ok (.invokevirtual 157, 3) := by decide +kernel
theorem dX11_encrypt_110 : decode cX11_encrypt 110 = .ok (.iconst 0, 1) := by decide +kernel
theorem dX11_encrypt_111 : decode cX11_encrypt 111 = .ok (.invokevirtual 215, 3) := by decide +kernel
theorem dX11_encrypt_114 : decode cX11_encrypt 114 = .ok (.iconst 1, 1) := by decide +kernel
theorem dX11_encrypt_115 : decode cX11_encrypt 115 = .ok (.ireturn, 1) := by decide +kernel
theorem dX11_pair_0 : decode cX11_pair 0 = .ok (.aload_n 0, 1) := by decide +kernel
theorem dX11_pair_1 : decode cX11_pair 1 = .ok (.iload_n 1, 1) := by decide +kernel
theorem dX11_pair_2 : decode cX11_pair 2 = .ok (.invokevirtual 52, 3) := by decide +kernel
theorem dX11_pair_5 : decode cX11_pair 5 = .ok (.astore_n 3, 1) := by decide +kernel
theorem dX11_pair_6 : decode cX11_pair 6 = .ok (.aload_n 3, 1) := by decide +kernel
theorem dX11_pair_7 : decode cX11_pair 7 = .ok (.ifnull 41, 3) := by decide +kernel
theorem dX11_pair_10 : decode cX11_pair 10 = .ok (.aload_n 3, 1) := by decide +kernel
theorem dX11_pair_11 : decode cX11_pair 11 = .ok (.getfield 59, 3) := by decide +kernel
theorem dX11_pair_14 : decode cX11_pair 14 = .ok (.iconst 4, 1) := by decide +kernel
theorem dX11_pair_15 : decode cX11_pair 15 = .ok (.if_icmp .ne 33, 3) := by decide +kernel
theorem dX11_pair_18 : decode cX11_pair 18 = .ok (.aload_n 3, 1) := by decide +kernel
theorem dX11_pair_19 : decode cX11_pair 19 = .ok (.getfield 111, 3) := by decide +kernel
theorem dX11_pair_22 : decode cX11_pair 22 = .ok (.getfield 219, 3) := by decide +kernel
theorem dX11_pair_25 : decode cX11_pair 25 = .ok (.ifCond .ne 23, 3) := by decide +kernel
theorem dX11_pair_28 : decode cX11_pair 28 = .ok (.aload_n 3, 1) := by decide +kernel
theorem dX11_pair_29 : decode cX11_pair 29 = .ok (.getfield 144, 3) := by decide +kernel
theorem dX11_pair_32 : decode cX11_pair 32 = .ok (.invokevirtual 222, 3) := by decide +kernel
theorem dX11_pair_35 : decode cX11_pair 35 = .ok (.ifCond .ne 13, 3) := by decide +kernel
theorem dX11_pair_38 : decode cX11_pair 38 = .ok (.iload_n 2, 1) := by decide +kernel
theorem dX11_pair_39 : decode cX11_pair 39 = .ok (.ifCond .lt 9, 3) := by decide +kernel
theorem dX11_pair_42 : decode cX11_pair 42 = .ok (.iload_n 2, 1) := by decide +kernel
theorem dX11_pair_43 : decode cX11_pair 43 = .ok (.ldc 110, 2) := by decide +kernel
theorem dX11_pair_45 : decode cX11_pair 45 = .ok (.if_icmp .le 5, 3) := by decide +kernel
theorem dX11_pair_48 : decode cX11_pair 48 = .ok (.iconst 0, 1) := by decide +kernel
theorem dX11_pair_49 : decode cX11_pair 49 = .ok (.ireturn, 1) := by decide +kernel
theorem dX11_pair_50 : decode cX11_pair 50 = .ok (.aload_n 3, 1) := by decide +kernel
theorem dX11_pair_51 : decode cX11_pair 51 = .ok (.getfield 225, 3) := by decide +kernel
theorem dX11_pair_54 : decode cX11_pair 54 = .ok (.invokevirtual 78, 3) := by decide +kernel
theorem dX11_pair_57 : decode cX11_pair 57 = .ok (.aload_n 3, 1) := by decide +kernel
theorem dX11_pair_58 : decode cX11_pair 58 = .ok (.getfield 111, 3) := by decide +kernel
theorem dX11_pair_61 : decode cX11_pair 61 = .ok (.iload_n 2, 1) := by decide +kernel
theorem dX11_pair_62 : decode cX11_pair 62 = .ok (.aload_n 3, 1) := by decide +kernel
theorem dX11_pair_63 : decode cX11_pair 63 = .ok (.getfield 225, 3) := by decide +kernel
theorem dX11_pair_66 : decode cX11_pair 66 = .ok (.invokevirtual 228, 3) := by decide +kernel
theorem dX11_pair_69 : decode cX11_pair 69 = .ok (.aload_n 3, 1) := by decide +kernel
theorem dX11_pair_70 : decode cX11_pair 70 = .ok (.getfield 144, 3) := by decide +kernel
theorem dX11_pair_73 : decode cX11_pair 73 = .ok (.bipush 6, 2) := by decide +kernel
theorem dX11_pair_75 : decode cX11_pair 75 = .ok (.aload_n 3, 1) := by decide +kernel
theorem dX11_pair_76 : decode cX11_pair 76 = .ok (.getfield 225, 3) := by decide +kernel
theorem dX11_pair_79 : decode cX11_pair 79 = .ok (.invokevirtual 232, 3) := by decide +kernel
theorem dX11_pair_82 : decode cX11_pair 82 = .ok (.iconst 1, 1) := by decide +kernel
theorem dX11_pair_83 : decode cX11_pair 83 = .ok (.ireturn, 1) := by decide +kernel
theorem dX11_job_0 : decode cX11_job 0 = .ok (.aload_n 0, 1) := by decide +kernel
theorem dX11_job_1 : decode cX11_job 1 = .ok (.iload_n 1, 1) := by decide +kernel
theorem dX11_job_2 : decode cX11_job 2 = .ok (.invokevirtual 52, 3) := by decide +kernel
theorem dX11_job_5 : decode cX11_job 5 = .ok (.astore 5, 2) := by decide +kernel
theorem dX11_job_7 : decode cX11_job 7 = .ok (.aload 5, 2) := by decide +kernel
theorem dX11_job_9 : decode cX11_job 9 = .ok (.ifnull 44, 3) := by decide +kernel
theorem dX11_job_12 : decode cX11_job 12 = .ok (.aload 5, 2) := by decide +kernel
theorem dX11_job_14 : decode cX11_job 14 = .ok (.invokevirtual 99, 3) := by decide +kernel
theorem dX11_job_17 : decode cX11_job 17 = .ok (.ifCond .eq 36, 3) := by decide +kernel
theorem dX11_job_20 : decode cX11_job 20 = .ok (.aload 5, 2) := by decide +kernel
theorem dX11_job_22 : decode cX11_job 22 = .ok (.getfield 235, 3) := by decide +kernel
theorem dX11_job_25 : decode cX11_job 25 = .ok (.getfield 239, 3) := by decide +kernel
theorem dX11_job_28 : decode cX11_job 28 = .ok (.iconst (-1), 1) := by decide +kernel
theorem dX11_job_29 : decode cX11_job 29 = .ok (.if_icmp .ne 24, 3) := by decide +kernel
theorem dX11_job_32 : decode cX11_job 32 = .ok (.aload 5, 2) := by decide +kernel
theorem dX11_job_34 : decode cX11_job 34 = .ok (.getfield 144, 3) := by decide +kernel
theorem dX11_job_37 : decode cX11_job 37 = .ok (.invokevirtual 222, 3) := by decide +kernel
theorem dX11_job_40 : decode cX11_job 40 = .ok (.ifCond .ne 13, 3) := by decide +kernel
theorem dX11_job_43 : decode cX11_job 43 = .ok (.iload_n 2, 1) := by decide +kernel
theorem dX11_job_44 : decode cX11_job 44 = .ok (.ifCond .lt 9, 3) := by decide +kernel
theorem dX11_job_47 : decode cX11_job 47 = .ok (.iload_n 2, 1) := by decide +kernel
theorem dX11_job_48 : decode cX11_job 48 = .ok (.bipush 6, 2) := by decide +kernel
theorem dX11_job_50 : decode cX11_job 50 = .ok (.if_icmp .le 5, 3) := by decide +kernel
theorem dX11_job_53 : decode cX11_job 53 = .ok (.iconst 0, 1) := by decide +kernel
theorem dX11_job_54 : decode cX11_job 54 = .ok (.ireturn, 1) := by decide +kernel
theorem dX11_job_55 : decode cX11_job 55 = .ok (.iload_n 3, 1) := by decide +kernel
theorem dX11_job_56 : decode cX11_job 56 = .ok (.ifCond .lt 21, 3) := by decide +kernel
theorem dX11_job_59 : decode cX11_job 59 = .ok (.iload_n 3, 1) := by decide +kernel
theorem dX11_job_60 : decode cX11_job 60 = .ok (.ldc 123, 2) := by decide +kernel
theorem dX11_job_62 : decode cX11_job 62 = .ok (.if_icmp .gt 15, 3) := by decide +kernel
theorem dX11_job_65 : decode cX11_job 65 = .ok (.iload 4, 2) := by decide +kernel
theorem dX11_job_67 : decode cX11_job 67 = .ok (.ifCond .lt 10, 3) := by decide +kernel
theorem dX11_job_70 : decode cX11_job 70 = .ok (.iload 4, 2) := by decide +kernel
theorem dX11_job_72 : decode cX11_job 72 = .ok (.ldc 123, 2) := by decide +kernel
theorem dX11_job_74 : decode cX11_job 74 = .ok (.if_icmp .le 5, 3) := by decide +kernel
theorem dX11_job_77 : decode cX11_job 77 = .ok (.iconst 0, 1) := by decide +kernel
theorem dX11_job_78 : decode cX11_job 78 = .ok (.ireturn, 1) := by decide +kernel
theorem dX11_job_79 : decode cX11_job 79 = .ok (.iload_n 2, 1) := by decide +kernel
theorem dX11_job_80 : decode cX11_job 80 = .ok (.iconst 5, 1) := by decide +kernel
theorem dX11_job_81 : decode cX11_job 81 = .ok (.if_icmp .eq 9, 3) := by decide +kernel
theorem dX11_job_84 : decode cX11_job 84 = .ok (.iload_n 2, 1) := by decide +kernel
theorem dX11_job_85 : decode cX11_job 85 = .ok (.bipush 6, 2) := by decide +kernel
theorem dX11_job_87 : decode cX11_job 87 = .ok (.if_icmp .ne 7, 3) := by decide +kernel
theorem dX11_job_90 : decode cX11_job 90 = .ok (.iconst 1, 1) := by decide +kernel
theorem dX11_job_91 : decode cX11_job 91 = .ok (.goto 4, 3) := by decide +kernel
theorem dX11_job_94 : decode cX11_job 94 = .ok (.iconst 0, 1) := by decide +kernel
theorem dX11_job_95 : decode cX11_job 95 = .ok (.istore 6, 2) := by decide +kernel
theorem dX11_job_97 : decode cX11_job 97 = .ok (.iload 6, 2) := by decide +kernel
theorem dX11_job_99 : decode cX11_job 99 = .ok (.ifCond .eq 17, 3) := by decide +kernel
theorem dX11_job_102 : decode cX11_job 102 = .ok (.aload_n 0, 1) := by decide +kernel
theorem dX11_job_103 : decode cX11_job 103 = .ok (.getfield 27, 3) := by decide +kernel
theorem dX11_job_106 : decode cX11_job 106 = .ok (.getfield 42, 3) := by decide +kernel
theorem dX11_job_109 : decode cX11_job 109 = .ok (.bipush 40, 2) := by decide +kernel
theorem dX11_job_111 : decode cX11_job 111 = .ok (.if_icmp .le 5, 3) := by decide +kernel
theorem dX11_job_114 : decode cX11_job 114 = .ok (.iconst 0, 1) := by decide +kernel
theorem dX11_job_115 : decode cX11_job 115 = .ok (.ireturn, 1) := by decide +kernel
theorem dX11_job_116 : decode cX11_job 116 = .ok (.aload 5, 2) := by decide +kernel
theorem dX11_job_118 : decode cX11_job 118 = .ok (.getfield 235, 3) := by decide +kernel
theorem dX11_job_121 : decode cX11_job 121 = .ok (.iload_n 2, 1) := by decide +kernel
theorem dX11_job_122 : decode cX11_job 122 = .ok (.iload_n 3, 1) := by decide +kernel
theorem dX11_job_123 : decode cX11_job 123 = .ok (.iload 4, 2) := by decide +kernel
theorem dX11_job_125 : decode cX11_job 125 = .ok (.invokevirtual 244, 3) := by decide +kernel
theorem dX11_job_128 : decode cX11_job 128 = .ok (.iload 6, 2) := by decide +kernel
theorem dX11_job_130 : decode cX11_job 130 = .ok (.ifCond .eq 25, 3) := by decide +kernel
theorem dX11_job_133 : decode cX11_job 133 = .ok (.aload 5, 2) := by decide +kernel
theorem dX11_job_135 : decode cX11_job 135 = .ok (.getfield 235, 3) := by decide +kernel
theorem dX11_job_138 : decode cX11_job 138 = .ok (.getfield 248, 3) := by decide +kernel
theorem dX11_job_141 : decode cX11_job 141 = .ok (.aload_n 0, 1) := by decide +kernel
theorem dX11_job_142 : decode cX11_job 142 = .ok (.getfield 27, 3) := by decide +kernel
theorem dX11_job_145 : decode cX11_job 145 = .ok (.invokevirtual 74, 3) := by decide +kernel
theorem dX11_job_148 : decode cX11_job 148 = .ok (.aload_n 0, 1) := by decide +kernel
theorem dX11_job_149 : decode cX11_job 149 = .ok (.getfield 27, 3) := by decide +kernel
theorem dX11_job_152 : decode cX11_job 152 = .ok (.invokevirtual 78, 3) := by decide +kernel
theorem dX11_job_155 : decode cX11_job 155 = .ok (.aload 5, 2) := by decide +kernel
theorem dX11_job_157 : decode cX11_job 157 = .ok (.getfield 225, 3) := by decide +kernel
theorem dX11_job_160 : decode cX11_job 160 = .ok (.invokevirtual 78, 3) := by decide +kernel
theorem dX11_job_163 : decode cX11_job 163 = .ok (.aload 5, 2) := by decide +kernel
theorem dX11_job_165 : decode cX11_job 165 = .ok (.getfield 235, 3) := by decide +kernel
theorem dX11_job_168 : decode cX11_job 168 = .ok (.aload 5, 2) := by decide +kernel
theorem dX11_job_170 : decode cX11_job 170 = .ok (.getfield 235, 3) := by decide +kernel
theorem dX11_job_173 : decode cX11_job 173 = .ok (.invokevirtual 251, 3) := by decide +kernel
theorem dX11_job_176 : decode cX11_job 176 = .ok (.aload 5, 2) := by decide +kernel
theorem dX11_job_178 : decode cX11_job 178 = .ok (.getfield 124, 3) := by decide +kernel
theorem dX11_job_181 : decode cX11_job 181 = .ok (.aload 5, 2) := by decide +kernel
theorem dX11_job_183 : decode cX11_job 183 = .ok (.getfield 225, 3) := by decide +kernel
theorem dX11_job_186 : decode cX11_job 186 = .ok (.invokevirtual 255, 3) := by decide +kernel
theorem dX11_job_189 : decode cX11_job 189 = .ok (.aload 5, 2) := by decide +kernel
theorem dX11_job_191 : decode cX11_job 191 = .ok (.getfield 144, 3) := by decide +kernel
theorem dX11_job_194 : decode cX11_job 194 = .ok (.iconst 4, 1) := by decide +kernel
theorem dX11_job_195 : decode cX11_job 195 = .ok (.aload 5, 2) := by decide +kernel
theorem dX11_job_197 : decode cX11_job 197 = .ok (.getfield 225, 3) := by decide +kernel
theorem dX11_job_200 : decode cX11_job 200 = .ok (.invokevirtual 232, 3) := by decide +kernel
theorem dX11_job_203 : decode cX11_job 203 = .ok (.iconst 1, 1) := by decide +kernel
theorem dX11_job_204 : decode cX11_job 204 = .ok (.ireturn, 1) := by decide +kernel
theorem dX11_send_0 : decode cX11_send 0 = .ok (.aload_n 0, 1) := by decide +kernel
theorem dX11_send_1 : decode cX11_send 1 = .ok (.iload_n 1, 1) := by decide +kernel
theorem dX11_send_2 : decode cX11_send 2 = .ok (.invokevirtual 52, 3) := by decide +kernel
theorem dX11_send_5 : decode cX11_send 5 = .ok (.astore 4, 2) := by decide +kernel
theorem dX11_send_7 : decode cX11_send 7 = .ok (.aload 4, 2) := by decide +kernel
theorem dX11_send_9 : decode cX11_send 9 = .ok (.ifnull 22, 3) := by decide +kernel
theorem dX11_send_12 : decode cX11_send 12 = .ok (.aload 4, 2) := by decide +kernel
theorem dX11_send_14 : decode cX11_send 14 = .ok (.invokevirtual 99, 3) := by decide +kernel
theorem dX11_send_17 : decode cX11_send 17 = .ok (.ifCond .eq 14, 3) := by decide +kernel
theorem dX11_send_20 : decode cX11_send 20 = .ok (.aload 4, 2) := by decide +kernel
theorem dX11_send_22 : decode cX11_send 22 = .ok (.getfield 144, 3) := by decide +kernel
theorem dX11_send_25 : decode cX11_send 25 = .ok (.invokevirtual 222, 3) := by decide +kernel
theorem dX11_send_28 : decode cX11_send 28 = .ok (.ifCond .eq 5, 3) := by decide +kernel
theorem dX11_send_31 : decode cX11_send 31 = .ok (.iconst 0, 1) := by decide +kernel
theorem dX11_send_32 : decode cX11_send 32 = .ok (.ireturn, 1) := by decide +kernel
theorem dX11_send_33 : decode cX11_send 33 = .ok (.aload 4, 2) := by decide +kernel
theorem dX11_send_35 : decode cX11_send 35 = .ok (.getfield 124, 3) := by decide +kernel
theorem dX11_send_38 : decode cX11_send 38 = .ok (.getfield 259, 3) := by decide +kernel
theorem dX11_send_41 : decode cX11_send 41 = .ok (.iconst 3, 1) := by decide +kernel
theorem dX11_send_42 : decode cX11_send 42 = .ok (.isub, 1) := by decide +kernel
theorem dX11_send_43 : decode cX11_send 43 = .ok (.istore 5, 2) := by decide +kernel
theorem dX11_send_45 : decode cX11_send 45 = .ok (.iload_n 2, 1) := by decide +kernel
theorem dX11_send_46 : decode cX11_send 46 = .ok (.ifCond .ne 50, 3) := by decide +kernel
theorem dX11_send_49 : decode cX11_send 49 = .ok (.iload_n 3, 1) := by decide +kernel
theorem dX11_send_50 : decode cX11_send 50 = .ok (.ifCond .lt 21, 3) := by decide +kernel
theorem dX11_send_53 : decode cX11_send 53 = .ok (.iload_n 3, 1) := by decide +kernel
theorem dX11_send_54 : decode cX11_send 54 = .ok (.ldc 123, 2) := by decide +kernel
theorem dX11_send_56 : decode cX11_send 56 = .ok (.if_icmp .gt 15, 3) := by decide +kernel
theorem dX11_send_59 : decode cX11_send 59 = .ok (.aload_n 0, 1) := by decide +kernel
theorem dX11_send_60 : decode cX11_send 60 = .ok (.getfield 27, 3) := by decide +kernel
theorem dX11_send_63 : decode cX11_send 63 = .ok (.getfield 42, 3) := by decide +kernel
theorem dX11_send_66 : decode cX11_send 66 = .ok (.iload 5, 2) := by decide +kernel
theorem dX11_send_68 : decode cX11_send 68 = .ok (.if_icmp .le 5, 3) := by decide +kernel
theorem dX11_send_71 : decode cX11_send 71 = .ok (.iconst 0, 1) := by decide +kernel
theorem dX11_send_72 : decode cX11_send 72 = .ok (.ireturn, 1) := by decide +kernel
theorem dX11_send_73 : decode cX11_send 73 = .ok (.aload 4, 2) := by decide +kernel
theorem dX11_send_75 : decode cX11_send 75 = .ok (.bipush 82, 2) := by decide +kernel
theorem dX11_send_77 : decode cX11_send 77 = .ok (.iload_n 3, 1) := by decide +kernel
theorem dX11_send_78 : decode cX11_send 78 = .ok (.aload_n 0, 1) := by decide +kernel
theorem dX11_send_79 : decode cX11_send 79 = .ok (.getfield 27, 3) := by decide +kernel
theorem dX11_send_82 : decode cX11_send 82 = .ok (.iload 5, 2) := by decide +kernel
theorem dX11_send_84 : decode cX11_send 84 = .ok (.invokevirtual 262, 3) := by decide +kernel
theorem dX11_send_87 : decode cX11_send 87 = .ok (.aload_n 0, 1) := by decide +kernel
theorem dX11_send_88 : decode cX11_send 88 = .ok (.getfield 27, 3) := by decide +kernel
theorem dX11_send_91 : decode cX11_send 91 = .ok (.invokevirtual 78, 3) := by decide +kernel
theorem dX11_send_94 : decode cX11_send 94 = .ok (.iconst 1, 1) := by decide +kernel
theorem dX11_send_95 : decode cX11_send 95 = .ok (.ireturn, 1) := by decide +kernel
theorem dX11_send_96 : decode cX11_send 96 = .ok (.aload 4, 2) := by decide +kernel
theorem dX11_send_98 : decode cX11_send 98 = .ok (.getfield 124, 3) := by decide +kernel
theorem dX11_send_101 : decode cX11_send 101 = .ok (.iload_n 3, 1) := by decide +kernel
theorem dX11_send_102 : decode cX11_send 102 = .ok (.invokevirtual 134, 3) := by decide +kernel
theorem dX11_send_105 : decode cX11_send 105 = .ok (.astore 6, 2) := by decide +kernel
theorem dX11_send_107 : decode cX11_send 107 = .ok (.aload 6, 2) := by decide +kernel
theorem dX11_send_109 : decode cX11_send 109 = .ok (.ifnull 29, 3) := by decide +kernel
theorem dX11_send_112 : decode cX11_send 112 = .ok (.iload_n 2, 1) := by decide +kernel
theorem dX11_send_113 : decode cX11_send 113 = .ok (.iconst 1, 1) := by decide +kernel
theorem dX11_send_114 : decode cX11_send 114 = .ok (.if_icmp .eq 8, 3) := by decide +kernel
theorem dX11_send_117 : decode cX11_send 117 = .ok (.iload_n 2, 1) := by decide +kernel
theorem dX11_send_118 : decode cX11_send 118 = .ok (.iconst 2, 1) := by decide +kernel
theorem dX11_send_119 : decode cX11_send 119 = .ok (.if_icmp .ne 19, 3) := by decide +kernel
theorem dX11_send_122 : decode cX11_send 122 = .ok (.iload_n 2, 1) := by decide +kernel
theorem dX11_send_123 : decode cX11_send 123 = .ok (.iconst 2, 1) := by decide +kernel
theorem dX11_send_124 : decode cX11_send 124 = .ok (.if_icmp .ne 16, 3) := by decide +kernel
theorem dX11_send_127 : decode cX11_send 127 = .ok (.aload 4, 2) := by decide +kernel
theorem dX11_send_129 : decode cX11_send 129 = .ok (.getfield 124, 3) := by decide +kernel
theorem dX11_send_132 : decode cX11_send 132 = .ok (.getfield 266, 3) := by decide +kernel
theorem dX11_send_135 : decode cX11_send 135 = .ok (.ifCond .eq 5, 3) := by decide +kernel
theorem dX11_send_138 : decode cX11_send 138 = .ok (.iconst 0, 1) := by decide +kernel
theorem dX11_send_139 : decode cX11_send 139 = .ok (.ireturn, 1) := by decide +kernel
theorem dX11_send_140 : decode cX11_send 140 = .ok (.aload 4, 2) := by decide +kernel
theorem dX11_send_142 : decode cX11_send 142 = .ok (.iload_n 2, 1) := by decide +kernel
theorem dX11_send_143 : decode cX11_send 143 = .ok (.iconst 1, 1) := by decide +kernel
theorem dX11_send_144 : decode cX11_send 144 = .ok (.if_icmp .ne 8, 3) := by decide +kernel
theorem dX11_send_147 : decode cX11_send 147 = .ok (.bipush 27, 2) := by decide +kernel
theorem dX11_send_149 : decode cX11_send 149 = .ok (.goto 5, 3) := by decide +kernel
theorem dX11_send_152 : decode cX11_send 152 = .ok (.bipush 29, 2) := by decide +kernel
theorem dX11_send_154 : decode cX11_send 154 = .ok (.iload_n 3, 1) := by decide +kernel
theorem dX11_send_155 : decode cX11_send 155 = .ok (.aload 6, 2) := by decide +kernel
theorem dX11_send_157 : decode cX11_send 157 = .ok (.iload 5, 2) := by decide +kernel
theorem dX11_send_159 : decode cX11_send 159 = .ok (.invokevirtual 262, 3) := by decide +kernel
theorem dX11_send_162 : decode cX11_send 162 = .ok (.iload_n 2, 1) := by decide +kernel
theorem dX11_send_163 : decode cX11_send 163 = .ok (.iconst 2, 1) := by decide +kernel
theorem dX11_send_164 : decode cX11_send 164 = .ok (.if_icmp .ne 12, 3) := by decide +kernel
theorem dX11_send_167 : decode cX11_send 167 = .ok (.aload 4, 2) := by decide +kernel
theorem dX11_send_169 : decode cX11_send 169 = .ok (.getfield 124, 3) := by decide +kernel
theorem dX11_send_172 : decode cX11_send 172 = .ok (.iconst 1, 1) := by decide +kernel
theorem dX11_send_173 : decode cX11_send 173 = .ok (.putfield 266, 3) := by decide +kernel
theorem dX11_send_176 : decode cX11_send 176 = .ok (.iconst 1, 1) := by decide +kernel
theorem dX11_send_177 : decode cX11_send 177 = .ok (.ireturn, 1) := by decide +kernel
theorem dX11_take_0 : decode cX11_take 0 = .ok (.aload_n 0, 1) := by decide +kernel
theorem dX11_take_1 : decode cX11_take 1 = .ok (.iload_n 1, 1) := by decide +kernel
theorem dX11_take_2 : decode cX11_take 2 = .ok (.invokevirtual 52, 3) := by decide +kernel
theorem dX11_take_5 : decode cX11_take 5 = .ok (.astore_n 2, 1) := by decide +kernel
theorem dX11_take_6 : decode cX11_take 6 = .ok (.aload_n 2, 1) := by decide +kernel
theorem dX11_take_7 : decode cX11_take 7 = .ok (.ifnull 17, 3) := by decide +kernel
theorem dX11_take_10 : decode cX11_take 10 = .ok (.aload_n 2, 1) := by decide +kernel
theorem dX11_take_11 : decode cX11_take 11 = .ok (.getfield 269, 3) := by decide +kernel
theorem dX11_take_14 : decode cX11_take 14 = .ok (.invokevirtual 273, 3) := by decide +kernel
theorem dX11_take_17 : decode cX11_take 17 = .ok (.ifCond .eq 7, 3) := by decide +kernel
theorem dX11_take_20 : decode cX11_take 20 = .ok (.iconst 1, 1) := by decide +kernel
theorem dX11_take_21 : decode cX11_take 21 = .ok (.goto 4, 3) := by decide +kernel
theorem dX11_take_24 : decode cX11_take 24 = .ok (.iconst 0, 1) := by decide +kernel
theorem dX11_take_25 : decode cX11_take 25 = .ok (.ireturn, 1) := by decide +kernel
theorem dX11_air_0 : decode cX11_air 0 = .ok (.aload_n 0, 1) := by decide +kernel
theorem dX11_air_1 : decode cX11_air 1 = .ok (.getfield 18, 3) := by decide +kernel
theorem dX11_air_4 : decode cX11_air 4 = .ok (.iload_n 1, 1) := by decide +kernel
theorem dX11_air_5 : decode cX11_air 5 = .ok (.iload_n 2, 1) := by decide +kernel
theorem dX11_air_6 : decode cX11_air 6 = .ok (.invokevirtual 278, 3) := by decide +kernel
theorem dX11_air_9 : decode cX11_air 9 = .ok (.istore_n 3, 1) := by decide +kernel
theorem dX11_air_10 : decode cX11_air 10 = .ok (.iload_n 3, 1) := by decide +kernel
theorem dX11_air_11 : decode cX11_air 11 = .ok (.iconst (-1), 1) := by decide +kernel
theorem dX11_air_12 : decode cX11_air 12 = .ok (.if_icmp .ne 14, 3) := by decide +kernel
theorem dX11_air_15 : decode cX11_air 15 = .ok (.new 282, 3) := by decide +kernel
theorem dX11_air_18 : decode cX11_air 18 = .ok (.dup, 1) := by decide +kernel
theorem dX11_air_19 : decode cX11_air 19 = .ok (.ldc_w 284, 3) := by decide +kernel
theorem dX11_air_22 : decode cX11_air 22 = .ok (.invokespecial 286, 3) := by decide +kernel
theorem dX11_air_25 : decode cX11_air 25 = .ok (.athrow, 1) := by decide +kernel
theorem dX11_air_26 : decode cX11_air 26 = .ok (.iload_n 3, 1) := by decide +kernel
theorem dX11_air_27 : decode cX11_air 27 = .ok (.ireturn, 1) := by decide +kernel
theorem dX11_value_0 : decode cX11_value 0 = .ok (.aload_n 0, 1) := by decide +kernel
theorem dX11_value_1 : decode cX11_value 1 = .ok (.iload_n 1, 1) := by decide +kernel
theorem dX11_value_2 : decode cX11_value 2 = .ok (.invokevirtual 52, 3) := by decide +kernel
theorem dX11_value_5 : decode cX11_value 5 = .ok (.astore 4, 2) := by decide +kernel
theorem dX11_value_7 : decode cX11_value 7 = .ok (.aload 4, 2) := by decide +kernel
theorem dX11_value_9 : decode cX11_value 9 = .ok (.ifnonnull 7, 3) := by decide +kernel
theorem dX11_value_12 : decode cX11_value 12 = .ok (.aconst_null, 1) := by decide +kernel
theorem dX11_value_13 : decode cX11_value 13 = .ok (.goto 12, 3) := by decide +kernel
theorem dX11_value_16 : decode cX11_value 16 = .ok (.aload 4, 2) := by decide +kernel
theorem dX11_value_18 : decode cX11_value 18 = .ok (.getfield 124, 3) := by decide +kernel
theorem dX11_value_21 : decode cX11_value 21 = .ok (.iload_n 2, 1) := by decide +kernel
theorem dX11_value_22 : decode cX11_value 22 = .ok (.invokevirtual 134, 3) := by decide +kernel
theorem dX11_value_25 : decode cX11_value 25 = .ok (.astore 5, 2) := by decide +kernel
theorem dX11_value_27 : decode cX11_value 27 = .ok (.aload 5, 2) := by decide +kernel
theorem dX11_value_29 : decode cX11_value 29 = .ok (.ifnull 17, 3) := by decide +kernel
theorem dX11_value_32 : decode cX11_value 32 = .ok (.iload_n 3, 1) := by decide +kernel
theorem dX11_value_33 : decode cX11_value 33 = .ok (.iconst (-1), 1) := by decide +kernel
theorem dX11_value_34 : decode cX11_value 34 = .ok (.if_icmp .lt 12, 3) := by decide +kernel
theorem dX11_value_37 : decode cX11_value 37 = .ok (.iload_n 3, 1) := by decide +kernel
theorem dX11_value_38 : decode cX11_value 38 = .ok (.aload 5, 2) := by decide +kernel
theorem dX11_value_40 : decode cX11_value 40 = .ok (.getfield 42, 3) := by decide +kernel
theorem dX11_value_43 : decode cX11_value 43 = .ok (.if_icmp .lt 14, 3) := by decide +kernel
theorem dX11_value_46 : decode cX11_value 46 = .ok (.new 282, 3) := by decide +kernel
theorem dX11_value_49 : decode cX11_value 49 = .ok (.dup, 1) := by decide +kernel
theorem dX11_value_50 : decode cX11_value 50 = .ok (.ldc_w 289, 3) := by decide +kernel
theorem dX11_value_53 : decode cX11_value 53 = .ok (.invokespecial 286, 3) := by decide +kernel
theorem dX11_value_56 : decode cX11_value 56 = .ok (.athrow, 1) := by decide +kernel
theorem dX11_value_57 : decode cX11_value 57 = .ok (.iload_n 3, 1) := by decide +kernel
theorem dX11_value_58 : decode cX11_value 58 = .ok (.iconst (-1), 1) := by decide +kernel
theorem dX11_value_59 : decode cX11_value 59 = .ok (.if_icmp .ne 11, 3) := by decide +kernel
theorem dX11_value_62 : decode cX11_value 62 = .ok (.aload 5, 2) := by decide +kernel
theorem dX11_value_64 : decode cX11_value 64 = .ok (.getfield 42, 3) := by decide +kernel
theorem dX11_value_67 : decode cX11_value 67 = .ok (.goto 9, 3) := by decide +kernel
theorem dX11_value_70 : decode cX11_value 70 = .ok (.aload 5, 2) := by decide +kernel
theorem dX11_value_72 : decode cX11_value 72 = .ok (.iload_n 3, 1) := by decide +kernel
theorem dX11_value_73 : decode cX11_value 73 = .ok (.invokevirtual 291, 3) := by decide +kernel
theorem dX11_value_76 : decode cX11_value 76 = .ok (.ireturn, 1) := by decide +kernel
theorem dX11_completion_0 : decode cX11_completion 0 = .ok (.aload_n 0, 1) := by decide +kernel
theorem dX11_completion_1 : decode cX11_completion 1 = .ok (.iload_n 1, 1) := by decide +kernel
theorem dX11_completion_2 : decode cX11_completion 2 = .ok (.invokevirtual 52, 3) := by decide +kernel
theorem dX11_completion_5 : decode cX11_completion 5 = .ok (.astore_n 3, 1) := by decide +kernel
theorem dX11_completion_6 : decode cX11_completion 6 = .ok (.aload_n 3, 1) := by decide +kernel
theorem dX11_completion_7 : decode cX11_completion 7 = .ok (.ifnonnull 7, 3) := by decide +kernel
theorem dX11_completion_10 : decode cX11_completion 10 = .ok (.iconst (-1), 1) := by decide +kernel
theorem dX11_completion_11 : decode cX11_completion 11 = .ok (.goto 11, 3) := by decide +kernel
theorem dX11_completion_14 : decode cX11_completion 14 = .ok (.aload_n 3, 1) := by decide +kernel
theorem dX11_completion_15 : decode cX11_completion 15 = .ok (.getfield 269, 3) := by decide +kernel
theorem dX11_completion_18 : decode cX11_completion 18 = .ok (.iload_n 2, 1) := by decide +kernel
theorem dX11_completion_19 : decode cX11_completion 19 = .ok (.invokevirtual 295, 3) := by decide +kernel
theorem dX11_completion_22 : decode cX11_completion 22 = .ok (.ireturn, 1) := by decide +kernel
theorem dX11_number_0 : decode cX11_number 0 = .ok (.aload_n 0, 1) := by decide +kernel
theorem dX11_number_1 : decode cX11_number 1 = .ok (.iload_n 1, 1) := by decide +kernel
theorem dX11_number_2 : decode cX11_number 2 = .ok (.invokevirtual 52, 3) := by decide +kernel
theorem dX11_number_5 : decode cX11_number 5 = .ok (.astore_n 3, 1) := by decide +kernel
theorem dX11_number_6 : decode cX11_number 6 = .ok (.aload_n 3, 1) := by decide +kernel
theorem dX11_number_7 : decode cX11_number 7 = .ok (.ifnonnull 7, 3) := by decide +kernel
theorem dX11_number_10 : decode cX11_number 10 = .ok (.ldc2_w 297, 3) := by decide +kernel
theorem dX11_number_13 : decode cX11_number 13 = .ok (.lreturn, 1) := by decide +kernel
theorem dX11_number_14 : decode cX11_number 14 = .ok (.iload_n 2, 1) := by decide +kernel
theorem dX11_number_15 : decode cX11_number 15 = .ok (.tableswitch 54 0 2 #[25, 44, 49], 25) := by decide +kernel
theorem dX11_number_40 : decode cX11_number 40 = .ok (.aload_n 3, 1) := by decide +kernel
theorem dX11_number_41 : decode cX11_number 41 = .ok (.invokevirtual 99, 3) := by decide +kernel
theorem dX11_number_44 : decode cX11_number 44 = .ok (.ifCond .eq 13, 3) := by decide +kernel
theorem dX11_number_47 : decode cX11_number 47 = .ok (.aload_n 3, 1) := by decide +kernel
theorem dX11_number_48 : decode cX11_number 48 = .ok (.getfield 87, 3) := by decide +kernel
theorem dX11_number_51 : decode cX11_number 51 = .ok (.getfield 299, 3) := by decide +kernel
theorem dX11_number_54 : decode cX11_number 54 = .ok (.goto 4, 3) := by decide +kernel
theorem dX11_number_57 : decode cX11_number 57 = .ok (.lconst 0, 1) := by decide +kernel
theorem dX11_number_58 : decode cX11_number 58 = .ok (.lreturn, 1) := by decide +kernel
theorem dX11_number_59 : decode cX11_number 59 = .ok (.aload_n 3, 1) := by decide +kernel
theorem dX11_number_60 : decode cX11_number 60 = .ok (.getfield 302, 3) := by decide +kernel
theorem dX11_number_63 : decode cX11_number 63 = .ok (.lreturn, 1) := by decide +kernel
theorem dX11_number_64 : decode cX11_number 64 = .ok (.aload_n 3, 1) := by decide +kernel
theorem dX11_number_65 : decode cX11_number 65 = .ok (.getfield 305, 3) := by decide +kernel
theorem dX11_number_68 : decode cX11_number 68 = .ok (.lreturn, 1) := by decide +kernel
theorem dX11_number_69 : decode cX11_number 69 = .ok (.ldc2_w 297, 3) := by decide +kernel
theorem dX11_number_72 : decode cX11_number 72 = .ok (.lreturn, 1) := by decide +kernel
theorem dX11_byteOf_0 : decode cX11_byteOf 0 = .ok (.aload_n 0, 1) := by decide +kernel
theorem dX11_byteOf_1 : decode cX11_byteOf 1 = .ok (.iload_n 1, 1) := by decide +kernel
theorem dX11_byteOf_2 : decode cX11_byteOf 2 = .ok (.invokevirtual 52, 3) := by decide +kernel
theorem dX11_byteOf_5 : decode cX11_byteOf 5 = .ok (.astore 4, 2) := by decide +kernel
theorem dX11_byteOf_7 : decode cX11_byteOf 7 = .ok (.aload 4, 2) := by decide +kernel
theorem dX11_byteOf_9 : decode cX11_byteOf 9 = .ok (.ifnonnull 5, 3) := by decide +kernel
theorem dX11_byteOf_12 : decode cX11_byteOf 12 = .ok (.iconst (-1), 1) := by decide +kernel
theorem dX11_byteOf_13 : decode cX11_byteOf 13 = .ok (.ireturn, 1) := by decide +kernel
theorem dX11_byteOf_14 : decode cX11_byteOf 14 = .ok (.iload_n 2, 1) := by decide +kernel
theorem dX11_byteOf_15 : decode cX11_byteOf 15 = .ok (.tableswitch 136 0 4 #[33, 43, 71, 99, 127], 33) := by decide +kernel
theorem dX11_byteOf_48 : decode cX11_byteOf 48 = .ok (.aload 4, 2) := by decide +kernel
theorem dX11_byteOf_50 : decode cX11_byteOf 50 = .ok (.getfield 308, 3) := by decide +kernel
theorem dX11_byteOf_53 : decode cX11_byteOf 53 = .ok (.iload_n 3, 1) := by decide +kernel
theorem dX11_byteOf_54 : decode cX11_byteOf 54 = .ok (.invokevirtual 291, 3) := by decide +kernel
theorem dX11_byteOf_57 : decode cX11_byteOf 57 = .ok (.ireturn, 1) := by decide +kernel
theorem dX11_byteOf_58 : decode cX11_byteOf 58 = .ok (.aload 4, 2) := by decide +kernel
theorem dX11_byteOf_60 : decode cX11_byteOf 60 = .ok (.getfield 183, 3) := by decide +kernel
theorem dX11_byteOf_63 : decode cX11_byteOf 63 = .ok (.getfield 187, 3) := by decide +kernel
theorem dX11_byteOf_66 : decode cX11_byteOf 66 = .ok (.ifCond .eq 18, 3) := by decide +kernel
theorem dX11_byteOf_69 : decode cX11_byteOf 69 = .ok (.aload 4, 2) := by decide +kernel
theorem dX11_byteOf_71 : decode cX11_byteOf 71 = .ok (.getfield 183, 3) := by decide +kernel
theorem dX11_byteOf_74 : decode cX11_byteOf 74 = .ok (.getfield 311, 3) := by decide +kernel
theorem dX11_byteOf_77 : decode cX11_byteOf 77 = .ok (.iload_n 3, 1) := by decide +kernel
theorem dX11_byteOf_78 : decode cX11_byteOf 78 = .ok (.invokestatic 314, 3) := by decide +kernel
theorem dX11_byteOf_81 : decode cX11_byteOf 81 = .ok (.goto 4, 3) := by decide +kernel
theorem dX11_byteOf_84 : decode cX11_byteOf 84 = .ok (.iconst (-1), 1) := by decide +kernel
theorem dX11_byteOf_85 : decode cX11_byteOf 85 = .ok (.ireturn, 1) := by decide +kernel
theorem dX11_byteOf_86 : decode cX11_byteOf 86 = .ok (.aload 4, 2) := by decide +kernel
theorem dX11_byteOf_88 : decode cX11_byteOf 88 = .ok (.getfield 183, 3) := by decide +kernel
theorem dX11_byteOf_91 : decode cX11_byteOf 91 = .ok (.getfield 201, 3) := by decide +kernel
theorem dX11_byteOf_94 : decode cX11_byteOf 94 = .ok (.ifCond .eq 18, 3) := by decide +kernel
theorem dX11_byteOf_97 : decode cX11_byteOf 97 = .ok (.aload 4, 2) := by decide +kernel
theorem dX11_byteOf_99 : decode cX11_byteOf 99 = .ok (.getfield 183, 3) := by decide +kernel
theorem dX11_byteOf_102 : decode cX11_byteOf 102 = .ok (.getfield 318, 3) := by decide +kernel
theorem dX11_byteOf_105 : decode cX11_byteOf 105 = .ok (.iload_n 3, 1) := by decide +kernel
theorem dX11_byteOf_106 : decode cX11_byteOf 106 = .ok (.invokestatic 314, 3) := by decide +kernel
theorem dX11_byteOf_109 : decode cX11_byteOf 109 = .ok (.goto 4, 3) := by decide +kernel
theorem dX11_byteOf_112 : decode cX11_byteOf 112 = .ok (.iconst (-1), 1) := by decide +kernel
theorem dX11_byteOf_113 : decode cX11_byteOf 113 = .ok (.ireturn, 1) := by decide +kernel
theorem dX11_byteOf_114 : decode cX11_byteOf 114 = .ok (.aload 4, 2) := by decide +kernel
theorem dX11_byteOf_116 : decode cX11_byteOf 116 = .ok (.getfield 183, 3) := by decide +kernel
theorem dX11_byteOf_119 : decode cX11_byteOf 119 = .ok (.getfield 201, 3) := by decide +kernel
theorem dX11_byteOf_122 : decode cX11_byteOf 122 = .ok (.ifCond .eq 18, 3) := by decide +kernel
theorem dX11_byteOf_125 : decode cX11_byteOf 125 = .ok (.aload 4, 2) := by decide +kernel
theorem dX11_byteOf_127 : decode cX11_byteOf 127 = .ok (.getfield 183, 3) := by decide +kernel
theorem dX11_byteOf_130 : decode cX11_byteOf 130 = .ok (.getfield 212, 3) := by decide +kernel
theorem dX11_byteOf_133 : decode cX11_byteOf 133 = .ok (.iload_n 3, 1) := by decide +kernel
theorem dX11_byteOf_134 : decode cX11_byteOf 134 = .ok (.invokestatic 314, 3) := by decide +kernel
theorem dX11_byteOf_137 : decode cX11_byteOf 137 = .ok (.goto 4, 3) := by decide +kernel
theorem dX11_byteOf_140 : decode cX11_byteOf 140 = .ok (.iconst (-1), 1) := by decide +kernel
theorem dX11_byteOf_141 : decode cX11_byteOf 141 = .ok (.ireturn, 1) := by decide +kernel
theorem dX11_byteOf_142 : decode cX11_byteOf 142 = .ok (.aload_n 0, 1) := by decide +kernel
theorem dX11_byteOf_143 : decode cX11_byteOf 143 = .ok (.getfield 27, 3) := by decide +kernel
theorem dX11_byteOf_146 : decode cX11_byteOf 146 = .ok (.iload_n 3, 1) := by decide +kernel
theorem dX11_byteOf_147 : decode cX11_byteOf 147 = .ok (.invokevirtual 291, 3) := by decide +kernel
theorem dX11_byteOf_150 : decode cX11_byteOf 150 = .ok (.ireturn, 1) := by decide +kernel
theorem dX11_byteOf_151 : decode cX11_byteOf 151 = .ok (.iconst (-1), 1) := by decide +kernel
theorem dX11_byteOf_152 : decode cX11_byteOf 152 = .ok (.ireturn, 1) := by decide +kernel
theorem dX11_device_0 : decode cX11_device 0 = .ok (.aload_n 0, 1) := by decide +kernel
theorem dX11_device_1 : decode cX11_device 1 = .ok (.iload_n 1, 1) := by decide +kernel
theorem dX11_device_2 : decode cX11_device 2 = .ok (.invokevirtual 52, 3) := by decide +kernel
theorem dX11_device_5 : decode cX11_device 5 = .ok (.astore_n 3, 1) := by decide +kernel
theorem dX11_device_6 : decode cX11_device 6 = .ok (.aload_n 3, 1) := by decide +kernel
theorem dX11_device_7 : decode cX11_device 7 = .ok (.ifnonnull 5, 3) := by decide +kernel
theorem dX11_device_10 : decode cX11_device 10 = .ok (.iconst (-1), 1) := by decide +kernel
theorem dX11_device_11 : decode cX11_device 11 = .ok (.ireturn, 1) := by decide +kernel
theorem dX11_device_12 : decode cX11_device 12 = .ok (.iload_n 2, 1) := by decide +kernel
theorem dX11_device_13 : decode cX11_device 13 = .ok (.iconst 1, 1) := by decide +kernel
theorem dX11_device_14 : decode cX11_device 14 = .ok (.if_icmp .lt 9, 3) := by decide +kernel
theorem dX11_device_17 : decode cX11_device 17 = .ok (.iload_n 2, 1) := by decide +kernel
theorem dX11_device_18 : decode cX11_device 18 = .ok (.bipush 8, 2) := by decide +kernel
theorem dX11_device_20 : decode cX11_device 20 = .ok (.if_icmp .le 9, 3) := by decide +kernel
theorem dX11_device_23 : decode cX11_device 23 = .ok (.iload_n 2, 1) := by decide +kernel
theorem dX11_device_24 : decode cX11_device 24 = .ok (.bipush 26, 2) := by decide +kernel
theorem dX11_device_26 : decode cX11_device 26 = .ok (.if_icmp .ne 10, 3) := by decide +kernel
theorem dX11_device_29 : decode cX11_device 29 = .ok (.aload_n 0, 1) := by decide +kernel
theorem dX11_device_30 : decode cX11_device 30 = .ok (.aload_n 3, 1) := by decide +kernel
theorem dX11_device_31 : decode cX11_device 31 = .ok (.iload_n 2, 1) := by decide +kernel
theorem dX11_device_32 : decode cX11_device 32 = .ok (.invokevirtual 321, 3) := by decide +kernel
theorem dX11_device_35 : decode cX11_device 35 = .ok (.ireturn, 1) := by decide +kernel
theorem dX11_device_36 : decode cX11_device 36 = .ok (.iload_n 2, 1) := by decide +kernel
theorem dX11_device_37 : decode cX11_device 37 = .ok (.bipush 9, 2) := by decide +kernel
theorem dX11_device_39 : decode cX11_device 39 = .ok (.if_icmp .lt 15, 3) := by decide +kernel
theorem dX11_device_42 : decode cX11_device 42 = .ok (.iload_n 2, 1) := by decide +kernel
theorem dX11_device_43 : decode cX11_device 43 = .ok (.bipush 20, 2) := by decide +kernel
theorem dX11_device_45 : decode cX11_device 45 = .ok (.if_icmp .gt 9, 3) := by decide +kernel
theorem dX11_device_48 : decode cX11_device 48 = .ok (.aload_n 3, 1) := by decide +kernel
theorem dX11_device_49 : decode cX11_device 49 = .ok (.iload_n 2, 1) := by decide +kernel
theorem dX11_device_50 : decode cX11_device 50 = .ok (.invokestatic 325, 3) := by decide +kernel
theorem dX11_device_53 : decode cX11_device 53 = .ok (.ireturn, 1) := by decide +kernel
theorem dX11_device_54 : decode cX11_device 54 = .ok (.iload_n 2, 1) := by decide +kernel
theorem dX11_device_55 : decode cX11_device 55 = .ok (.tableswitch 191 0 28 #[129, 191, 191, 191, 191, 191, 191, 191, 191, 191, 191, 191, 191, 191, 191, 191, 191, 191, 191, 191, 191, 134, 139, 147, 155, 163, 191, 171, 180], 129) := by decide +kernel
theorem dX11_device_184 : decode cX11_device 184 = .ok (.aload_n 3, 1) := by decide +kernel
theorem dX11_device_185 : decode cX11_device 185 = .ok (.getfield 59, 3) := by decide +kernel
theorem dX11_device_188 : decode cX11_device 188 = .ok (.ireturn, 1) := by decide +kernel
theorem dX11_device_189 : decode cX11_device 189 = .ok (.aload_n 3, 1) := by decide +kernel
theorem dX11_device_190 : decode cX11_device 190 = .ok (.getfield 328, 3) := by decide +kernel
theorem dX11_device_193 : decode cX11_device 193 = .ok (.ireturn, 1) := by decide +kernel
theorem dX11_device_194 : decode cX11_device 194 = .ok (.aload_n 3, 1) := by decide +kernel
theorem dX11_device_195 : decode cX11_device 195 = .ok (.getfield 308, 3) := by decide +kernel
theorem dX11_device_198 : decode cX11_device 198 = .ok (.getfield 42, 3) := by decide +kernel
theorem dX11_device_201 : decode cX11_device 201 = .ok (.ireturn, 1) := by decide +kernel
theorem dX11_device_202 : decode cX11_device 202 = .ok (.aload_n 3, 1) := by decide +kernel
theorem dX11_device_203 : decode cX11_device 203 = .ok (.getfield 124, 3) := by decide +kernel
theorem dX11_device_206 : decode cX11_device 206 = .ok (.getfield 331, 3) := by decide +kernel
theorem dX11_device_209 : decode cX11_device 209 = .ok (.ireturn, 1) := by decide +kernel
theorem dX11_device_210 : decode cX11_device 210 = .ok (.aload_n 3, 1) := by decide +kernel
theorem dX11_device_211 : decode cX11_device 211 = .ok (.getfield 269, 3) := by decide +kernel
theorem dX11_device_214 : decode cX11_device 214 = .ok (.getfield 334, 3) := by decide +kernel
theorem dX11_device_217 : decode cX11_device 217 = .ok (.ireturn, 1) := by decide +kernel
theorem dX11_device_218 : decode cX11_device 218 = .ok (.aload_n 3, 1) := by decide +kernel
theorem dX11_device_219 : decode cX11_device 219 = .ok (.getfield 269, 3) := by decide +kernel
theorem dX11_device_222 : decode cX11_device 222 = .ok (.getfield 335, 3) := by decide +kernel
theorem dX11_device_225 : decode cX11_device 225 = .ok (.ireturn, 1) := by decide +kernel
theorem dX11_device_226 : decode cX11_device 226 = .ok (.aload_n 0, 1) := by decide +kernel
theorem dX11_device_227 : decode cX11_device 227 = .ok (.getfield 18, 3) := by decide +kernel
theorem dX11_device_230 : decode cX11_device 230 = .ok (.iload_n 1, 1) := by decide +kernel
theorem dX11_device_231 : decode cX11_device 231 = .ok (.invokevirtual 338, 3) := by decide +kernel
theorem dX11_device_234 : decode cX11_device 234 = .ok (.ireturn, 1) := by decide +kernel
theorem dX11_device_235 : decode cX11_device 235 = .ok (.aload_n 3, 1) := by decide +kernel
theorem dX11_device_236 : decode cX11_device 236 = .ok (.getfield 124, 3) := by decide +kernel
theorem dX11_device_239 : decode cX11_device 239 = .ok (.getfield 266, 3) := by decide +kernel
theorem dX11_device_242 : decode cX11_device 242 = .ok (.invokestatic 341, 3) := by decide +kernel
theorem dX11_device_245 : decode cX11_device 245 = .ok (.ireturn, 1) := by decide +kernel
theorem dX11_device_246 : decode cX11_device 246 = .ok (.iconst (-1), 1) := by decide +kernel
theorem dX11_device_247 : decode cX11_device 247 = .ok (.ireturn, 1) := by decide +kernel
theorem dX11_linkFigure_0 : decode cX11_linkFigure 0 = .ok (.aload_n 1, 1) := by decide +kernel
theorem dX11_linkFigure_1 : decode cX11_linkFigure 1 = .ok (.invokevirtual 99, 3) := by decide +kernel
theorem dX11_linkFigure_4 : decode cX11_linkFigure 4 = .ok (.ifCond .ne 38, 3) := by decide +kernel
theorem dX11_linkFigure_7 : decode cX11_linkFigure 7 = .ok (.iload_n 2, 1) := by decide +kernel
theorem dX11_linkFigure_8 : decode cX11_linkFigure 8 = .ok (.bipush 8, 2) := by decide +kernel
theorem dX11_linkFigure_10 : decode cX11_linkFigure 10 = .ok (.if_icmp .ne 21, 3) := by decide +kernel
theorem dX11_linkFigure_13 : decode cX11_linkFigure 13 = .ok (.aload_n 1, 1) := by decide +kernel
theorem dX11_linkFigure_14 : decode cX11_linkFigure 14 = .ok (.getfield 59, 3) := by decide +kernel
theorem dX11_linkFigure_17 : decode cX11_linkFigure 17 = .ok (.iconst 1, 1) := by decide +kernel
theorem dX11_linkFigure_18 : decode cX11_linkFigure 18 = .ok (.if_icmp .ne 13, 3) := by decide +kernel
theorem dX11_linkFigure_21 : decode cX11_linkFigure 21 = .ok (.aload_n 1, 1) := by decide +kernel
theorem dX11_linkFigure_22 : decode cX11_linkFigure 22 = .ok (.getfield 68, 3) := by decide +kernel
theorem dX11_linkFigure_25 : decode cX11_linkFigure 25 = .ok (.aload_n 0, 1) := by decide +kernel
theorem dX11_linkFigure_26 : decode cX11_linkFigure 26 = .ok (.getfield 65, 3) := by decide +kernel
theorem dX11_linkFigure_29 : decode cX11_linkFigure 29 = .ok (.isub, 1) := by decide +kernel
theorem dX11_linkFigure_30 : decode cX11_linkFigure 30 = .ok (.ireturn, 1) := by decide +kernel
theorem dX11_linkFigure_31 : decode cX11_linkFigure 31 = .ok (.iload_n 2, 1) := by decide +kernel
theorem dX11_linkFigure_32 : decode cX11_linkFigure 32 = .ok (.iconst 2, 1) := by decide +kernel
theorem dX11_linkFigure_33 : decode cX11_linkFigure 33 = .ok (.if_icmp .ne 7, 3) := by decide +kernel
theorem dX11_linkFigure_36 : decode cX11_linkFigure 36 = .ok (.iconst (-1), 1) := by decide +kernel
theorem dX11_linkFigure_37 : decode cX11_linkFigure 37 = .ok (.goto 4, 3) := by decide +kernel
theorem dX11_linkFigure_40 : decode cX11_linkFigure 40 = .ok (.iconst 0, 1) := by decide +kernel
theorem dX11_linkFigure_41 : decode cX11_linkFigure 41 = .ok (.ireturn, 1) := by decide +kernel
theorem dX11_linkFigure_42 : decode cX11_linkFigure 42 = .ok (.aload_n 1, 1) := by decide +kernel
theorem dX11_linkFigure_43 : decode cX11_linkFigure 43 = .ok (.getfield 87, 3) := by decide +kernel
theorem dX11_linkFigure_46 : decode cX11_linkFigure 46 = .ok (.astore_n 3, 1) := by decide +kernel
theorem dX11_linkFigure_47 : decode cX11_linkFigure 47 = .ok (.iload_n 2, 1) := by decide +kernel
theorem dX11_linkFigure_48 : decode cX11_linkFigure 48 = .ok (.tableswitch 93 1 8 #[48, 53, 58, 63, 68, 73, 78, 83], 48) := by decide +kernel
theorem dX11_linkFigure_96 : decode cX11_linkFigure 96 = .ok (.aload_n 3, 1) := by decide +kernel
theorem dX11_linkFigure_97 : decode cX11_linkFigure 97 = .ok (.getfield 174, 3) := by decide +kernel
theorem dX11_linkFigure_100 : decode cX11_linkFigure 100 = .ok (.ireturn, 1) := by decide +kernel
theorem dX11_linkFigure_101 : decode cX11_linkFigure 101 = .ok (.aload_n 3, 1) := by decide +kernel
theorem dX11_linkFigure_102 : decode cX11_linkFigure 102 = .ok (.getfield 345, 3) := by decide +kernel
theorem dX11_linkFigure_105 : decode cX11_linkFigure 105 = .ok (.ireturn, 1) := by decide +kernel
theorem dX11_linkFigure_106 : decode cX11_linkFigure 106 = .ok (.aload_n 3, 1) := by decide +kernel
theorem dX11_linkFigure_107 : decode cX11_linkFigure 107 = .ok (.getfield 348, 3) := by decide +kernel
theorem dX11_linkFigure_110 : decode cX11_linkFigure 110 = .ok (.ireturn, 1) := by decide +kernel
theorem dX11_linkFigure_111 : decode cX11_linkFigure 111 = .ok (.aload_n 3, 1) := by decide +kernel
theorem dX11_linkFigure_112 : decode cX11_linkFigure 112 = .ok (.getfield 351, 3) := by decide +kernel
theorem dX11_linkFigure_115 : decode cX11_linkFigure 115 = .ok (.ireturn, 1) := by decide +kernel
theorem dX11_linkFigure_116 : decode cX11_linkFigure 116 = .ok (.aload_n 3, 1) := by decide +kernel
theorem dX11_linkFigure_117 : decode cX11_linkFigure 117 = .ok (.getfield 354, 3) := by decide +kernel
theorem dX11_linkFigure_120 : decode cX11_linkFigure 120 = .ok (.ireturn, 1) := by decide +kernel
theorem dX11_linkFigure_121 : decode cX11_linkFigure 121 = .ok (.aload_n 3, 1) := by decide +kernel
theorem dX11_linkFigure_122 : decode cX11_linkFigure 122 = .ok (.getfield 355, 3) := by decide +kernel
theorem dX11_linkFigure_125 : decode cX11_linkFigure 125 = .ok (.ireturn, 1) := by decide +kernel
theorem dX11_linkFigure_126 : decode cX11_linkFigure 126 = .ok (.aload_n 3, 1) := by decide +kernel
theorem dX11_linkFigure_127 : decode cX11_linkFigure 127 = .ok (.getfield 358, 3) := by decide +kernel
theorem dX11_linkFigure_130 : decode cX11_linkFigure 130 = .ok (.ireturn, 1) := by decide +kernel
theorem dX11_linkFigure_131 : decode cX11_linkFigure 131 = .ok (.aload_n 3, 1) := by decide +kernel
theorem dX11_linkFigure_132 : decode cX11_linkFigure 132 = .ok (.getfield 361, 3) := by decide +kernel
theorem dX11_linkFigure_135 : decode cX11_linkFigure 135 = .ok (.aload_n 0, 1) := by decide +kernel
theorem dX11_linkFigure_136 : decode cX11_linkFigure 136 = .ok (.getfield 65, 3) := by decide +kernel
theorem dX11_linkFigure_139 : decode cX11_linkFigure 139 = .ok (.isub, 1) := by decide +kernel
theorem dX11_linkFigure_140 : decode cX11_linkFigure 140 = .ok (.ireturn, 1) := by decide +kernel
theorem dX11_linkFigure_141 : decode cX11_linkFigure 141 = .ok (.aload_n 0, 1) := by decide +kernel
theorem dX11_linkFigure_142 : decode cX11_linkFigure 142 = .ok (.getfield 65, 3) := by decide +kernel
theorem dX11_linkFigure_145 : decode cX11_linkFigure 145 = .ok (.aload_n 3, 1) := by decide +kernel
theorem dX11_linkFigure_146 : decode cX11_linkFigure 146 = .ok (.getfield 364, 3) := by decide +kernel
theorem dX11_linkFigure_149 : decode cX11_linkFigure 149 = .ok (.isub, 1) := by decide +kernel
theorem dX11_linkFigure_150 : decode cX11_linkFigure 150 = .ok (.ireturn, 1) := by decide +kernel
theorem dX11_talkFigure_0 : decode cX11_talkFigure 0 = .ok (.iload_n 1, 1) := by decide +kernel
theorem dX11_talkFigure_1 : decode cX11_talkFigure 1 = .ok (.tableswitch 156 9 19 #[59, 67, 75, 83, 94, 105, 116, 124, 132, 140, 148], 59) := by decide +kernel
theorem dX11_talkFigure_60 : decode cX11_talkFigure 60 = .ok (.aload_n 0, 1) := by decide +kernel
theorem dX11_talkFigure_61 : decode cX11_talkFigure 61 = .ok (.getfield 144, 3) := by decide +kernel
theorem dX11_talkFigure_64 : decode cX11_talkFigure 64 = .ok (.getfield 367, 3) := by decide +kernel
theorem dX11_talkFigure_67 : decode cX11_talkFigure 67 = .ok (.ireturn, 1) := by decide +kernel
theorem dX11_talkFigure_68 : decode cX11_talkFigure 68 = .ok (.aload_n 0, 1) := by decide +kernel
theorem dX11_talkFigure_69 : decode cX11_talkFigure 69 = .ok (.getfield 144, 3) := by decide +kernel
theorem dX11_talkFigure_72 : decode cX11_talkFigure 72 = .ok (.getfield 370, 3) := by decide +kernel
theorem dX11_talkFigure_75 : decode cX11_talkFigure 75 = .ok (.ireturn, 1) := by decide +kernel
theorem dX11_talkFigure_76 : decode cX11_talkFigure 76 = .ok (.aload_n 0, 1) := by decide +kernel
theorem dX11_talkFigure_77 : decode cX11_talkFigure 77 = .ok (.getfield 144, 3) := by decide +kernel
theorem dX11_talkFigure_80 : decode cX11_talkFigure 80 = .ok (.getfield 373, 3) := by decide +kernel
theorem dX11_talkFigure_83 : decode cX11_talkFigure 83 = .ok (.ireturn, 1) := by decide +kernel
theorem dX11_talkFigure_84 : decode cX11_talkFigure 84 = .ok (.aload_n 0, 1) := by decide +kernel
theorem dX11_talkFigure_85 : decode cX11_talkFigure 85 = .ok (.getfield 144, 3) := by decide +kernel
theorem dX11_talkFigure_88 : decode cX11_talkFigure 88 = .ok (.getfield 376, 3) := by decide +kernel
theorem dX11_talkFigure_91 : decode cX11_talkFigure 91 = .ok (.getfield 42, 3) := by decide +kernel
theorem dX11_talkFigure_94 : decode cX11_talkFigure 94 = .ok (.ireturn, 1) := by decide +kernel
theorem dX11_talkFigure_95 : decode cX11_talkFigure 95 = .ok (.aload_n 0, 1) := by decide +kernel
theorem dX11_talkFigure_96 : decode cX11_talkFigure 96 = .ok (.getfield 183, 3) := by decide +kernel
theorem dX11_talkFigure_99 : decode cX11_talkFigure 99 = .ok (.getfield 195, 3) := by decide +kernel
theorem dX11_talkFigure_102 : decode cX11_talkFigure 102 = .ok (.invokestatic 341, 3) := by decide +kernel
theorem dX11_talkFigure_105 : decode cX11_talkFigure 105 = .ok (.ireturn, 1) := by decide +kernel
theorem dX11_talkFigure_106 : decode cX11_talkFigure 106 = .ok (.aload_n 0, 1) := by decide +kernel
theorem dX11_talkFigure_107 : decode cX11_talkFigure 107 = .ok (.getfield 183, 3) := by decide +kernel
theorem dX11_talkFigure_110 : decode cX11_talkFigure 110 = .ok (.getfield 192, 3) := by decide +kernel
theorem dX11_talkFigure_113 : decode cX11_talkFigure 113 = .ok (.invokestatic 341, 3) := by decide +kernel
theorem dX11_talkFigure_116 : decode cX11_talkFigure 116 = .ok (.ireturn, 1) := by decide +kernel
theorem dX11_talkFigure_117 : decode cX11_talkFigure 117 = .ok (.aload_n 0, 1) := by decide +kernel
theorem dX11_talkFigure_118 : decode cX11_talkFigure 118 = .ok (.getfield 183, 3) := by decide +kernel
theorem dX11_talkFigure_121 : decode cX11_talkFigure 121 = .ok (.getfield 379, 3) := by decide +kernel
theorem dX11_talkFigure_124 : decode cX11_talkFigure 124 = .ok (.ireturn, 1) := by decide +kernel
theorem dX11_talkFigure_125 : decode cX11_talkFigure 125 = .ok (.aload_n 0, 1) := by decide +kernel
theorem dX11_talkFigure_126 : decode cX11_talkFigure 126 = .ok (.getfield 183, 3) := by decide +kernel
theorem dX11_talkFigure_129 : decode cX11_talkFigure 129 = .ok (.getfield 382, 3) := by decide +kernel
theorem dX11_talkFigure_132 : decode cX11_talkFigure 132 = .ok (.ireturn, 1) := by decide +kernel
theorem dX11_talkFigure_133 : decode cX11_talkFigure 133 = .ok (.aload_n 0, 1) := by decide +kernel
theorem dX11_talkFigure_134 : decode cX11_talkFigure 134 = .ok (.getfield 124, 3) := by decide +kernel
theorem dX11_talkFigure_137 : decode cX11_talkFigure 137 = .ok (.getfield 259, 3) := by decide +kernel
theorem dX11_talkFigure_140 : decode cX11_talkFigure 140 = .ok (.ireturn, 1) := by decide +kernel
theorem dX11_talkFigure_141 : decode cX11_talkFigure 141 = .ok (.aload_n 0, 1) := by decide +kernel
theorem dX11_talkFigure_142 : decode cX11_talkFigure 142 = .ok (.getfield 111, 3) := by decide +kernel
theorem dX11_talkFigure_145 : decode cX11_talkFigure 145 = .ok (.getfield 219, 3) := by decide +kernel
theorem dX11_talkFigure_148 : decode cX11_talkFigure 148 = .ok (.ireturn, 1) := by decide +kernel
theorem dX11_talkFigure_149 : decode cX11_talkFigure 149 = .ok (.aload_n 0, 1) := by decide +kernel
theorem dX11_talkFigure_150 : decode cX11_talkFigure 150 = .ok (.getfield 235, 3) := by decide +kernel
theorem dX11_talkFigure_153 : decode cX11_talkFigure 153 = .ok (.getfield 239, 3) := by decide +kernel
theorem dX11_talkFigure_156 : decode cX11_talkFigure 156 = .ok (.ireturn, 1) := by decide +kernel
theorem dX11_talkFigure_157 : decode cX11_talkFigure 157 = .ok (.aload_n 0, 1) := by decide +kernel
theorem dX11_talkFigure_158 : decode cX11_talkFigure 158 = .ok (.getfield 124, 3) := by decide +kernel
theorem dX11_talkFigure_161 : decode cX11_talkFigure 161 = .ok (.getfield 385, 3) := by decide +kernel
theorem dX11_talkFigure_164 : decode cX11_talkFigure 164 = .ok (.ireturn, 1) := by decide +kernel
theorem dX11_flag_0 : decode cX11_flag 0 = .ok (.iload_n 0, 1) := by decide +kernel
theorem dX11_flag_1 : decode cX11_flag 1 = .ok (.ifCond .eq 7, 3) := by decide +kernel
theorem dX11_flag_4 : decode cX11_flag 4 = .ok (.iconst 1, 1) := by decide +kernel
theorem dX11_flag_5 : decode cX11_flag 5 = .ok (.goto 4, 3) := by decide +kernel
theorem dX11_flag_8 : decode cX11_flag 8 = .ok (.iconst 0, 1) := by decide +kernel
theorem dX11_flag_9 : decode cX11_flag 9 = .ok (.ireturn, 1) := by decide +kernel
theorem dX11_byteAt_0 : decode cX11_byteAt 0 = .ok (.iload_n 1, 1) := by decide +kernel
theorem dX11_byteAt_1 : decode cX11_byteAt 1 = .ok (.ifCond .lt 15, 3) := by decide +kernel
theorem dX11_byteAt_4 : decode cX11_byteAt 4 = .ok (.iload_n 1, 1) := by decide +kernel
theorem dX11_byteAt_5 : decode cX11_byteAt 5 = .ok (.aload_n 0, 1) := by decide +kernel
theorem dX11_byteAt_6 : decode cX11_byteAt 6 = .ok (.arraylength, 1) := by decide +kernel
theorem dX11_byteAt_7 : decode cX11_byteAt 7 = .ok (.if_icmp .ge 9, 3) := by decide +kernel
theorem dX11_byteAt_10 : decode cX11_byteAt 10 = .ok (.aload_n 0, 1) := by decide +kernel
theorem dX11_byteAt_11 : decode cX11_byteAt 11 = .ok (.iload_n 1, 1) := by decide +kernel
theorem dX11_byteAt_12 : decode cX11_byteAt 12 = .ok (.iaload, 1) := by decide +kernel
theorem dX11_byteAt_13 : decode cX11_byteAt 13 = .ok (.goto 4, 3) := by decide +kernel
theorem dX11_byteAt_16 : decode cX11_byteAt 16 = .ok (.iconst (-1), 1) := by decide +kernel
theorem dX11_byteAt_17 : decode cX11_byteAt 17 = .ok (.ireturn, 1) := by decide +kernel
theorem dX11_find_0 : decode cX11_find 0 = .ok (.iload_n 1, 1) := by decide +kernel
theorem dX11_find_1 : decode cX11_find 1 = .ok (.ifCond .eq 8, 3) := by decide +kernel
theorem dX11_find_4 : decode cX11_find 4 = .ok (.iload_n 1, 1) := by decide +kernel
theorem dX11_find_5 : decode cX11_find 5 = .ok (.iconst 1, 1) := by decide +kernel
theorem dX11_find_6 : decode cX11_find 6 = .ok (.if_icmp .ne 12, 3) := by decide +kernel
theorem dX11_find_9 : decode cX11_find 9 = .ok (.aload_n 0, 1) := by decide +kernel
theorem dX11_find_10 : decode cX11_find 10 = .ok (.getfield 9, 3) := by decide +kernel
theorem dX11_find_13 : decode cX11_find 13 = .ok (.iload_n 1, 1) := by decide +kernel
theorem dX11_find_14 : decode cX11_find 14 = .ok (.aaload, 1) := by decide +kernel
theorem dX11_find_15 : decode cX11_find 15 = .ok (.goto 4, 3) := by decide +kernel
theorem dX11_find_18 : decode cX11_find 18 = .ok (.aconst_null, 1) := by decide +kernel
theorem dX11_find_19 : decode cX11_find 19 = .ok (.areturn, 1) := by decide +kernel
theorem dX11_tick_0 : decode cX11_tick 0 = .ok (.iload_n 1, 1) := by decide +kernel
theorem dX11_tick_1 : decode cX11_tick 1 = .ok (.iconst 1, 1) := by decide +kernel
theorem dX11_tick_2 : decode cX11_tick 2 = .ok (.if_icmp .lt 10, 3) := by decide +kernel
theorem dX11_tick_5 : decode cX11_tick 5 = .ok (.iload_n 1, 1) := by decide +kernel
theorem dX11_tick_6 : decode cX11_tick 6 = .ok (.sipush 1000, 3) := by decide +kernel
theorem dX11_tick_9 : decode cX11_tick 9 = .ok (.if_icmp .le 14, 3) := by decide +kernel
theorem dX11_tick_12 : decode cX11_tick 12 = .ok (.new 388, 3) := by decide +kernel
theorem dX11_tick_15 : decode cX11_tick 15 = .ok (.dup, 1) := by decide +kernel
theorem dX11_tick_16 : decode cX11_tick 16 = .ok (.ldc_w 390, 3) := by decide +kernel
theorem dX11_tick_19 : decode cX11_tick 19 = .ok (.invokespecial 392, 3) := by decide +kernel
theorem dX11_tick_22 : decode cX11_tick 22 = .ok (.athrow, 1) := by decide +kernel
theorem dX11_tick_23 : decode cX11_tick 23 = .ok (.iconst 0, 1) := by decide +kernel
theorem dX11_tick_24 : decode cX11_tick 24 = .ok (.istore_n 2, 1) := by decide +kernel
theorem dX11_tick_25 : decode cX11_tick 25 = .ok (.iconst 0, 1) := by decide +kernel
theorem dX11_tick_26 : decode cX11_tick 26 = .ok (.istore_n 3, 1) := by decide +kernel
theorem dX11_tick_27 : decode cX11_tick 27 = .ok (.iload_n 3, 1) := by decide +kernel
theorem dX11_tick_28 : decode cX11_tick 28 = .ok (.iload_n 1, 1) := by decide +kernel
theorem dX11_tick_29 : decode cX11_tick 29 = .ok (.if_icmp .ge 164, 3) := by decide +kernel
theorem dX11_tick_32 : decode cX11_tick 32 = .ok (.aload_n 0, 1) := by decide +kernel
theorem dX11_tick_33 : decode cX11_tick 33 = .ok (.getfield 18, 3) := by decide +kernel
theorem dX11_tick_36 : decode cX11_tick 36 = .ok (.invokevirtual 393, 3) := by decide +kernel
theorem dX11_tick_39 : decode cX11_tick 39 = .ok (.aload_n 0, 1) := by decide +kernel
theorem dX11_tick_40 : decode cX11_tick 40 = .ok (.aload_n 0, 1) := by decide +kernel
theorem dX11_tick_41 : decode cX11_tick 41 = .ok (.getfield 9, 3) := by decide +kernel
theorem dX11_tick_44 : decode cX11_tick 44 = .ok (.iconst 0, 1) := by decide +kernel
theorem dX11_tick_45 : decode cX11_tick 45 = .ok (.aaload, 1) := by decide +kernel
theorem dX11_tick_46 : decode cX11_tick 46 = .ok (.aload_n 0, 1) := by decide +kernel
theorem dX11_tick_47 : decode cX11_tick 47 = .ok (.getfield 9, 3) := by decide +kernel
theorem dX11_tick_50 : decode cX11_tick 50 = .ok (.iconst 1, 1) := by decide +kernel
theorem dX11_tick_51 : decode cX11_tick 51 = .ok (.aaload, 1) := by decide +kernel
theorem dX11_tick_52 : decode cX11_tick 52 = .ok (.invokevirtual 394, 3) := by decide +kernel
theorem dX11_tick_55 : decode cX11_tick 55 = .ok (.aload_n 0, 1) := by decide +kernel
theorem dX11_tick_56 : decode cX11_tick 56 = .ok (.aload_n 0, 1) := by decide +kernel
theorem dX11_tick_57 : decode cX11_tick 57 = .ok (.getfield 9, 3) := by decide +kernel
theorem dX11_tick_60 : decode cX11_tick 60 = .ok (.iconst 1, 1) := by decide +kernel
theorem dX11_tick_61 : decode cX11_tick 61 = .ok (.aaload, 1) := by decide +kernel
theorem dX11_tick_62 : decode cX11_tick 62 = .ok (.aload_n 0, 1) := by decide +kernel
theorem dX11_tick_63 : decode cX11_tick 63 = .ok (.getfield 9, 3) := by decide +kernel
theorem dX11_tick_66 : decode cX11_tick 66 = .ok (.iconst 0, 1) := by decide +kernel
theorem dX11_tick_67 : decode cX11_tick 67 = .ok (.aaload, 1) := by decide +kernel
theorem dX11_tick_68 : decode cX11_tick 68 = .ok (.invokevirtual 394, 3) := by decide +kernel
theorem dX11_tick_71 : decode cX11_tick 71 = .ok (.aload_n 0, 1) := by decide +kernel
theorem dX11_tick_72 : decode cX11_tick 72 = .ok (.invokevirtual 398, 3) := by decide +kernel
theorem dX11_tick_75 : decode cX11_tick 75 = .ok (.iconst 0, 1) := by decide +kernel
theorem dX11_tick_76 : decode cX11_tick 76 = .ok (.istore 4, 2) := by decide +kernel
theorem dX11_tick_78 : decode cX11_tick 78 = .ok (.iload 4, 2) := by decide +kernel
theorem dX11_tick_80 : decode cX11_tick 80 = .ok (.aload_n 0, 1) := by decide +kernel
theorem dX11_tick_81 : decode cX11_tick 81 = .ok (.getfield 9, 3) := by decide +kernel
theorem dX11_tick_84 : decode cX11_tick 84 = .ok (.arraylength, 1) := by decide +kernel
theorem dX11_tick_85 : decode cX11_tick 85 = .ok (.if_icmp .ge 74, 3) := by decide +kernel
theorem dX11_tick_88 : decode cX11_tick 88 = .ok (.aload_n 0, 1) := by decide +kernel
theorem dX11_tick_89 : decode cX11_tick 89 = .ok (.getfield 9, 3) := by decide +kernel
theorem dX11_tick_92 : decode cX11_tick 92 = .ok (.iload 4, 2) := by decide +kernel
theorem dX11_tick_94 : decode cX11_tick 94 = .ok (.aaload, 1) := by decide +kernel
theorem dX11_tick_95 : decode cX11_tick 95 = .ok (.astore 5, 2) := by decide +kernel
theorem dX11_tick_97 : decode cX11_tick 97 = .ok (.aload_n 0, 1) := by decide +kernel
theorem dX11_tick_98 : decode cX11_tick 98 = .ok (.getfield 9, 3) := by decide +kernel
theorem dX11_tick_101 : decode cX11_tick 101 = .ok (.iconst 1, 1) := by decide +kernel
theorem dX11_tick_102 : decode cX11_tick 102 = .ok (.iload 4, 2) := by decide +kernel
theorem dX11_tick_104 : decode cX11_tick 104 = .ok (.isub, 1) := by decide +kernel
theorem dX11_tick_105 : decode cX11_tick 105 = .ok (.aaload, 1) := by decide +kernel
theorem dX11_tick_106 : decode cX11_tick 106 = .ok (.astore 6, 2) := by decide +kernel
theorem dX11_tick_108 : decode cX11_tick 108 = .ok (.aload_n 0, 1) := by decide +kernel
theorem dX11_tick_109 : decode cX11_tick 109 = .ok (.aload 5, 2) := by decide +kernel
theorem dX11_tick_111 : decode cX11_tick 111 = .ok (.aload 6, 2) := by decide +kernel
theorem dX11_tick_113 : decode cX11_tick 113 = .ok (.invokevirtual 401, 3) := by decide +kernel
theorem dX11_tick_116 : decode cX11_tick 116 = .ok (.ifCond .eq 37, 3) := by decide +kernel
theorem dX11_tick_119 : decode cX11_tick 119 = .ok (.aload_n 0, 1) := by decide +kernel
theorem dX11_tick_120 : decode cX11_tick 120 = .ok (.aload 6, 2) := by decide +kernel
theorem dX11_tick_122 : decode cX11_tick 122 = .ok (.invokevirtual 405, 3) := by decide +kernel
theorem dX11_tick_125 : decode cX11_tick 125 = .ok (.ifCond .eq 8, 3) := by decide +kernel
theorem dX11_tick_128 : decode cX11_tick 128 = .ok (.aload 6, 2) := by decide +kernel
theorem dX11_tick_130 : decode cX11_tick 130 = .ok (.invokestatic 409, 3) := by decide +kernel
theorem dX11_tick_133 : decode cX11_tick 133 = .ok (.aload_n 0, 1) := by decide +kernel
theorem dX11_tick_134 : decode cX11_tick 134 = .ok (.aload 6, 2) := by decide +kernel
theorem dX11_tick_136 : decode cX11_tick 136 = .ok (.invokevirtual 413, 3) := by decide +kernel
theorem dX11_tick_139 : decode cX11_tick 139 = .ok (.aload_n 0, 1) := by decide +kernel
theorem dX11_tick_140 : decode cX11_tick 140 = .ok (.aload 5, 2) := by decide +kernel
theorem dX11_tick_142 : decode cX11_tick 142 = .ok (.invokevirtual 405, 3) := by decide +kernel
theorem dX11_tick_145 : decode cX11_tick 145 = .ok (.ifCond .eq 8, 3) := by decide +kernel
theorem dX11_tick_148 : decode cX11_tick 148 = .ok (.aload 5, 2) := by decide +kernel
theorem dX11_tick_150 : decode cX11_tick 150 = .ok (.invokestatic 409, 3) := by decide +kernel
theorem dX11_tick_153 : decode cX11_tick 153 = .ok (.iinc 4 1, 3) := by decide +kernel
theorem dX11_tick_156 : decode cX11_tick 156 = .ok (.goto (-78), 3) := by decide +kernel
theorem dX11_tick_159 : decode cX11_tick 159 = .ok (.aload_n 0, 1) := by decide +kernel
theorem dX11_tick_160 : decode cX11_tick 160 = .ok (.invokevirtual 416, 3) := by decide +kernel
theorem dX11_tick_163 : decode cX11_tick 163 = .ok (.aload_n 0, 1) := by decide +kernel
theorem dX11_tick_164 : decode cX11_tick 164 = .ok (.invokevirtual 419, 3) := by decide +kernel
theorem dX11_tick_167 : decode cX11_tick 167 = .ok (.iload_n 2, 1) := by decide +kernel
theorem dX11_tick_168 : decode cX11_tick 168 = .ok (.aload_n 0, 1) := by decide +kernel
theorem dX11_tick_169 : decode cX11_tick 169 = .ok (.getfield 18, 3) := by decide +kernel
theorem dX11_tick_172 : decode cX11_tick 172 = .ok (.getfield 422, 3) := by decide +kernel
theorem dX11_tick_175 : decode cX11_tick 175 = .ok (.iadd, 1) := by decide +kernel
theorem dX11_tick_176 : decode cX11_tick 176 = .ok (.istore_n 2, 1) := by decide +kernel
theorem dX11_tick_177 : decode cX11_tick 177 = .ok (.aload_n 0, 1) := by decide +kernel
theorem dX11_tick_178 : decode cX11_tick 178 = .ok (.dup, 1) := by decide +kernel
theorem dX11_tick_179 : decode cX11_tick 179 = .ok (.getfield 65, 3) := by decide +kernel
theorem dX11_tick_182 : decode cX11_tick 182 = .ok (.iconst 1, 1) := by decide +kernel
theorem dX11_tick_183 : decode cX11_tick 183 = .ok (.iadd, 1) := by decide +kernel
theorem dX11_tick_184 : decode cX11_tick 184 = .ok (.putfield 65, 3) := by decide +kernel
theorem dX11_tick_187 : decode cX11_tick 187 = .ok (.iinc 3 1, 3) := by decide +kernel
theorem dX11_tick_190 : decode cX11_tick 190 = .ok (.goto (-163), 3) := by decide +kernel
theorem dX11_tick_193 : decode cX11_tick 193 = .ok (.iload_n 2, 1) := by decide +kernel
theorem dX11_tick_194 : decode cX11_tick 194 = .ok (.ireturn, 1) := by decide +kernel
theorem dX11_spread_0 : decode cX11_spread 0 = .ok (.aload_n 1, 1) := by decide +kernel
theorem dX11_spread_1 : decode cX11_spread 1 = .ok (.getfield 59, 3) := by decide +kernel
theorem dX11_spread_4 : decode cX11_spread 4 = .ok (.iconst 1, 1) := by decide +kernel
theorem dX11_spread_5 : decode cX11_spread 5 = .ok (.if_icmp .ne 14, 3) := by decide +kernel
theorem dX11_spread_8 : decode cX11_spread 8 = .ok (.aload_n 1, 1) := by decide +kernel
theorem dX11_spread_9 : decode cX11_spread 9 = .ok (.getfield 68, 3) := by decide +kernel
theorem dX11_spread_12 : decode cX11_spread 12 = .ok (.aload_n 0, 1) := by decide +kernel
theorem dX11_spread_13 : decode cX11_spread 13 = .ok (.getfield 65, 3) := by decide +kernel
theorem dX11_spread_16 : decode cX11_spread 16 = .ok (.if_icmp .eq 4, 3) := by decide +kernel
theorem dX11_spread_19 : decode cX11_spread 19 = .ok (.return_, 1) := by decide +kernel
theorem dX11_spread_20 : decode cX11_spread 20 = .ok (.aload_n 1, 1) := by decide +kernel
theorem dX11_spread_21 : decode cX11_spread 21 = .ok (.aload_n 0, 1) := by decide +kernel
theorem dX11_spread_22 : decode cX11_spread 22 = .ok (.getfield 65, 3) := by decide +kernel
theorem dX11_spread_25 : decode cX11_spread 25 = .ok (.aload_n 1, 1) := by decide +kernel
theorem dX11_spread_26 : decode cX11_spread 26 = .ok (.getfield 62, 3) := by decide +kernel
theorem dX11_spread_29 : decode cX11_spread 29 = .ok (.iadd, 1) := by decide +kernel
theorem dX11_spread_30 : decode cX11_spread 30 = .ok (.aload_n 1, 1) := by decide +kernel
theorem dX11_spread_31 : decode cX11_spread 31 = .ok (.invokevirtual 423, 3) := by decide +kernel
theorem dX11_spread_34 : decode cX11_spread 34 = .ok (.iconst 3, 1) := by decide +kernel
theorem dX11_spread_35 : decode cX11_spread 35 = .ok (.iand, 1) := by decide +kernel
theorem dX11_spread_36 : decode cX11_spread 36 = .ok (.iadd, 1) := by decide +kernel
theorem dX11_spread_37 : decode cX11_spread 37 = .ok (.putfield 68, 3) := by decide +kernel
theorem dX11_spread_40 : decode cX11_spread 40 = .ok (.bipush 37, 2) := by decide +kernel
theorem dX11_spread_42 : decode cX11_spread 42 = .ok (.istore_n 3, 1) := by decide +kernel
theorem dX11_spread_43 : decode cX11_spread 43 = .ok (.iload_n 3, 1) := by decide +kernel
theorem dX11_spread_44 : decode cX11_spread 44 = .ok (.bipush 39, 2) := by decide +kernel
theorem dX11_spread_46 : decode cX11_spread 46 = .ok (.if_icmp .gt 141, 3) := by decide +kernel
theorem dX11_spread_49 : decode cX11_spread 49 = .ok (.aload_n 1, 1) := by decide +kernel
theorem dX11_spread_50 : decode cX11_spread 50 = .ok (.getfield 59, 3) := by decide +kernel
theorem dX11_spread_53 : decode cX11_spread 53 = .ok (.iconst 1, 1) := by decide +kernel
theorem dX11_spread_54 : decode cX11_spread 54 = .ok (.if_icmp .ne 133, 3) := by decide +kernel
theorem dX11_spread_57 : decode cX11_spread 57 = .ok (.aload_n 0, 1) := by decide +kernel
theorem dX11_spread_58 : decode cX11_spread 58 = .ok (.getfield 31, 3) := by decide +kernel
theorem dX11_spread_61 : decode cX11_spread 61 = .ok (.invokevirtual 78, 3) := by decide +kernel
theorem dX11_spread_64 : decode cX11_spread 64 = .ok (.aload_n 0, 1) := by decide +kernel
theorem dX11_spread_65 : decode cX11_spread 65 = .ok (.getfield 31, 3) := by decide +kernel
theorem dX11_spread_68 : decode cX11_spread 68 = .ok (.aload_n 1, 1) := by decide +kernel
theorem dX11_spread_69 : decode cX11_spread 69 = .ok (.getfield 305, 3) := by decide +kernel
theorem dX11_spread_72 : decode cX11_spread 72 = .ok (.bipush 6, 2) := by decide +kernel
theorem dX11_spread_74 : decode cX11_spread 74 = .ok (.invokevirtual 160, 3) := by decide +kernel
theorem dX11_spread_77 : decode cX11_spread 77 = .ok (.aload_n 0, 1) := by decide +kernel
theorem dX11_spread_78 : decode cX11_spread 78 = .ok (.getfield 31, 3) := by decide +kernel
theorem dX11_spread_81 : decode cX11_spread 81 = .ok (.aload_n 1, 1) := by decide +kernel
theorem dX11_spread_82 : decode cX11_spread 82 = .ok (.getfield 71, 3) := by decide +kernel
theorem dX11_spread_85 : decode cX11_spread 85 = .ok (.iconst 0, 1) := by decide +kernel
theorem dX11_spread_86 : decode cX11_spread 86 = .ok (.aload_n 1, 1) := by decide +kernel
theorem dX11_spread_87 : decode cX11_spread 87 = .ok (.getfield 71, 3) := by decide +kernel
theorem dX11_spread_90 : decode cX11_spread 90 = .ok (.getfield 42, 3) := by decide +kernel
theorem dX11_spread_93 : decode cX11_spread 93 = .ok (.invokevirtual 426, 3) := by decide +kernel
theorem dX11_spread_96 : decode cX11_spread 96 = .ok (.aload_n 0, 1) := by decide +kernel
theorem dX11_spread_97 : decode cX11_spread 97 = .ok (.getfield 18, 3) := by decide +kernel
theorem dX11_spread_100 : decode cX11_spread 100 = .ok (.aload_n 1, 1) := by decide +kernel
theorem dX11_spread_101 : decode cX11_spread 101 = .ok (.getfield 430, 3) := by decide +kernel
theorem dX11_spread_104 : decode cX11_spread 104 = .ok (.iload_n 3, 1) := by decide +kernel
theorem dX11_spread_105 : decode cX11_spread 105 = .ok (.ldc_w 433, 3) := by decide +kernel
theorem dX11_spread_108 : decode cX11_spread 108 = .ok (.ldc_w 434, 3) := by decide +kernel
theorem dX11_spread_111 : decode cX11_spread 111 = .ok (.iconst 0, 1) := by decide +kernel
theorem dX11_spread_112 : decode cX11_spread 112 = .ok (.aload_n 0, 1) := by decide +kernel
theorem dX11_spread_113 : decode cX11_spread 113 = .ok (.getfield 31, 3) := by decide +kernel
theorem dX11_spread_116 : decode cX11_spread 116 = .ok (.invokevirtual 435, 3) := by decide +kernel
theorem dX11_spread_119 : decode cX11_spread 119 = .ok (.aload_n 0, 1) := by decide +kernel
theorem dX11_spread_120 : decode cX11_spread 120 = .ok (.aload_n 2, 1) := by decide +kernel
theorem dX11_spread_121 : decode cX11_spread 121 = .ok (.iload_n 3, 1) := by decide +kernel
theorem dX11_spread_122 : decode cX11_spread 122 = .ok (.invokevirtual 439, 3) := by decide +kernel
theorem dX11_spread_125 : decode cX11_spread 125 = .ok (.ifCond .eq 56, 3) := by decide +kernel
theorem dX11_spread_128 : decode cX11_spread 128 = .ok (.aload_n 2, 1) := by decide +kernel
theorem dX11_spread_129 : decode cX11_spread 129 = .ok (.getfield 59, 3) := by decide +kernel
theorem dX11_spread_132 : decode cX11_spread 132 = .ok (.iconst 2, 1) := by decide +kernel
theorem dX11_spread_133 : decode cX11_spread 133 = .ok (.if_icmp .ne 17, 3) := by decide +kernel
theorem dX11_spread_136 : decode cX11_spread 136 = .ok (.aload_n 2, 1) := by decide +kernel
theorem dX11_spread_137 : decode cX11_spread 137 = .ok (.aload_n 0, 1) := by decide +kernel
theorem dX11_spread_138 : decode cX11_spread 138 = .ok (.getfield 18, 3) := by decide +kernel
theorem dX11_spread_141 : decode cX11_spread 141 = .ok (.getfield 443, 3) := by decide +kernel
theorem dX11_spread_144 : decode cX11_spread 144 = .ok (.invokevirtual 446, 3) := by decide +kernel
theorem dX11_spread_147 : decode cX11_spread 147 = .ok (.goto 34, 3) := by decide +kernel
theorem dX11_spread_150 : decode cX11_spread 150 = .ok (.aload_n 0, 1) := by decide +kernel
theorem dX11_spread_151 : decode cX11_spread 151 = .ok (.getfield 18, 3) := by decide +kernel
theorem dX11_spread_154 : decode cX11_spread 154 = .ok (.getfield 443, 3) := by decide +kernel
theorem dX11_spread_157 : decode cX11_spread 157 = .ok (.iconst 0, 1) := by decide +kernel
theorem dX11_spread_158 : decode cX11_spread 158 = .ok (.bipush 6, 2) := by decide +kernel
theorem dX11_spread_160 : decode cX11_spread 160 = .ok (.invokevirtual 449, 3) := by decide +kernel
theorem dX11_spread_163 : decode cX11_spread 163 = .ok (.aload_n 2, 1) := by decide +kernel
theorem dX11_spread_164 : decode cX11_spread 164 = .ok (.getfield 87, 3) := by decide +kernel
theorem dX11_spread_167 : decode cX11_spread 167 = .ok (.getfield 95, 3) := by decide +kernel
theorem dX11_spread_170 : decode cX11_spread 170 = .ok (.lcmp, 1) := by decide +kernel
theorem dX11_spread_171 : decode cX11_spread 171 = .ok (.ifCond .ne 10, 3) := by decide +kernel
theorem dX11_spread_174 : decode cX11_spread 174 = .ok (.aload_n 0, 1) := by decide +kernel
theorem dX11_spread_175 : decode cX11_spread 175 = .ok (.aload_n 2, 1) := by decide +kernel
theorem dX11_spread_176 : decode cX11_spread 176 = .ok (.aload_n 1, 1) := by decide +kernel
theorem dX11_spread_177 : decode cX11_spread 177 = .ok (.iload_n 3, 1) := by decide +kernel
theorem dX11_spread_178 : decode cX11_spread 178 = .ok (.invokevirtual 453, 3) := by decide +kernel
theorem dX11_spread_181 : decode cX11_spread 181 = .ok (.iinc 3 1, 3) := by decide +kernel
theorem dX11_spread_184 : decode cX11_spread 184 = .ok (.goto (-141), 3) := by decide +kernel
theorem dX11_spread_187 : decode cX11_spread 187 = .ok (.return_, 1) := by decide +kernel
theorem dX11_advertisementArrives_0 : decode cX11_advertisementArrives 0 = .ok (.aload_n 1, 1) := by decide +kernel
theorem dX11_advertisementArrives_1 : decode cX11_advertisementArrives 1 = .ok (.getfield 59, 3) := by decide +kernel
theorem dX11_advertisementArrives_4 : decode cX11_advertisementArrives 4 = .ok (.iconst 2, 1) := by decide +kernel
theorem dX11_advertisementArrives_5 : decode cX11_advertisementArrives 5 = .ok (.if_icmp .eq 11, 3) := by decide +kernel
theorem dX11_advertisementArrives_8 : decode cX11_advertisementArrives 8 = .ok (.aload_n 1, 1) := by decide +kernel
theorem dX11_advertisementArrives_9 : decode cX11_advertisementArrives 9 = .ok (.getfield 59, 3) := by decide +kernel
theorem dX11_advertisementArrives_12 : decode cX11_advertisementArrives 12 = .ok (.iconst 3, 1) := by decide +kernel
theorem dX11_advertisementArrives_13 : decode cX11_advertisementArrives 13 = .ok (.if_icmp .ne 73, 3) := by decide +kernel
theorem dX11_advertisementArrives_16 : decode cX11_advertisementArrives 16 = .ok (.iload_n 2, 1) := by decide +kernel
theorem dX11_advertisementArrives_17 : decode cX11_advertisementArrives 17 = .ok (.bipush 37, 2) := by decide +kernel
theorem dX11_advertisementArrives_19 : decode cX11_advertisementArrives 19 = .ok (.aload_n 0, 1) := by decide +kernel
theorem dX11_advertisementArrives_20 : decode cX11_advertisementArrives 20 = .ok (.getfield 65, 3) := by decide +kernel
theorem dX11_advertisementArrives_23 : decode cX11_advertisementArrives 23 = .ok (.iconst 3, 1) := by decide +kernel
theorem dX11_advertisementArrives_24 : decode cX11_advertisementArrives 24 = .ok (.irem, 1) := by decide +kernel
theorem dX11_advertisementArrives_25 : decode cX11_advertisementArrives 25 = .ok (.iadd, 1) := by decide +kernel
theorem dX11_advertisementArrives_26 : decode cX11_advertisementArrives 26 = .ok (.if_icmp .ne 60, 3) := by decide +kernel
theorem dX11_advertisementArrives_29 : decode cX11_advertisementArrives 29 = .ok (.aload_n 0, 1) := by decide +kernel
theorem dX11_advertisementArrives_30 : decode cX11_advertisementArrives 30 = .ok (.getfield 18, 3) := by decide +kernel
theorem dX11_advertisementArrives_33 : decode cX11_advertisementArrives 33 = .ok (.iload_n 2, 1) := by decide +kernel
theorem dX11_advertisementArrives_34 : decode cX11_advertisementArrives 34 = .ok (.ldc_w 433, 3) := by decide +kernel
theorem dX11_advertisementArrives_37 : decode cX11_advertisementArrives 37 = .ok (.invokevirtual 457, 3) := by decide +kernel
theorem dX11_advertisementArrives_40 : decode cX11_advertisementArrives 40 = .ok (.ifCond .eq 46, 3) := by decide +kernel
theorem dX11_advertisementArrives_43 : decode cX11_advertisementArrives 43 = .ok (.aload_n 0, 1) := by decide +kernel
theorem dX11_advertisementArrives_44 : decode cX11_advertisementArrives 44 = .ok (.getfield 18, 3) := by decide +kernel
theorem dX11_advertisementArrives_47 : decode cX11_advertisementArrives 47 = .ok (.iload_n 2, 1) := by decide +kernel
theorem dX11_advertisementArrives_48 : decode cX11_advertisementArrives 48 = .ok (.ldc_w 434, 3) := by decide +kernel
theorem dX11_advertisementArrives_51 : decode cX11_advertisementArrives 51 = .ok (.invokevirtual 460, 3) := by decide +kernel
theorem dX11_advertisementArrives_54 : decode cX11_advertisementArrives 54 = .ok (.ifCond .eq 32, 3) := by decide +kernel
theorem dX11_advertisementArrives_57 : decode cX11_advertisementArrives 57 = .ok (.aload_n 0, 1) := by decide +kernel
theorem dX11_advertisementArrives_58 : decode cX11_advertisementArrives 58 = .ok (.getfield 18, 3) := by decide +kernel
theorem dX11_advertisementArrives_61 : decode cX11_advertisementArrives 61 = .ok (.getfield 463, 3) := by decide +kernel
theorem dX11_advertisementArrives_64 : decode cX11_advertisementArrives 64 = .ok (.ifCond .ne 22, 3) := by decide +kernel
theorem dX11_advertisementArrives_67 : decode cX11_advertisementArrives 67 = .ok (.aload_n 0, 1) := by decide +kernel
theorem dX11_advertisementArrives_68 : decode cX11_advertisementArrives 68 = .ok (.getfield 18, 3) := by decide +kernel
theorem dX11_advertisementArrives_71 : decode cX11_advertisementArrives 71 = .ok (.getfield 443, 3) := by decide +kernel
theorem dX11_advertisementArrives_74 : decode cX11_advertisementArrives 74 = .ok (.getfield 42, 3) := by decide +kernel
theorem dX11_advertisementArrives_77 : decode cX11_advertisementArrives 77 = .ok (.bipush 6, 2) := by decide +kernel
theorem dX11_advertisementArrives_79 : decode cX11_advertisementArrives 79 = .ok (.if_icmp .lt 7, 3) := by decide +kernel
theorem dX11_advertisementArrives_82 : decode cX11_advertisementArrives 82 = .ok (.iconst 1, 1) := by decide +kernel
theorem dX11_advertisementArrives_83 : decode cX11_advertisementArrives 83 = .ok (.goto 4, 3) := by decide +kernel
theorem dX11_advertisementArrives_86 : decode cX11_advertisementArrives 86 = .ok (.iconst 0, 1) := by decide +kernel
theorem dX11_advertisementArrives_87 : decode cX11_advertisementArrives 87 = .ok (.ireturn, 1) := by decide +kernel
theorem dX11_initiate_0 : decode cX11_initiate 0 = .ok (.aload_n 1, 1) := by decide +kernel
theorem dX11_initiate_1 : decode cX11_initiate 1 = .ok (.getfield 87, 3) := by decide +kernel
theorem dX11_initiate_4 : decode cX11_initiate 4 = .ok (.astore 4, 2) := by decide +kernel
theorem dX11_initiate_6 : decode cX11_initiate 6 = .ok (.aload 4, 2) := by decide +kernel
theorem dX11_initiate_8 : decode cX11_initiate 8 = .ok (.aload_n 1, 1) := by decide +kernel
theorem dX11_initiate_9 : decode cX11_initiate 9 = .ok (.iconst 4, 1) := by decide +kernel
theorem dX11_initiate_10 : decode cX11_initiate 10 = .ok (.invokevirtual 466, 3) := by decide +kernel
theorem dX11_initiate_13 : decode cX11_initiate 13 = .ok (.putfield 469, 3) := by decide +kernel
theorem dX11_initiate_16 : decode cX11_initiate 16 = .ok (.aload 4, 2) := by decide +kernel
theorem dX11_initiate_18 : decode cX11_initiate 18 = .ok (.aload_n 1, 1) := by decide +kernel
theorem dX11_initiate_19 : decode cX11_initiate 19 = .ok (.iconst 3, 1) := by decide +kernel
theorem dX11_initiate_20 : decode cX11_initiate 20 = .ok (.invokevirtual 466, 3) := by decide +kernel
theorem dX11_initiate_23 : decode cX11_initiate 23 = .ok (.putfield 472, 3) := by decide +kernel
theorem dX11_initiate_26 : decode cX11_initiate 26 = .ok (.aload_n 1, 1) := by decide +kernel
theorem dX11_initiate_27 : decode cX11_initiate 27 = .ok (.iconst 4, 1) := by decide +kernel
theorem dX11_initiate_28 : decode cX11_initiate 28 = .ok (.aload_n 0, 1) := by decide +kernel
theorem dX11_initiate_29 : decode cX11_initiate 29 = .ok (.getfield 65, 3) := by decide +kernel
theorem dX11_initiate_32 : decode cX11_initiate 32 = .ok (.invokevirtual 475, 3) := by decide +kernel
theorem dX11_initiate_35 : decode cX11_initiate 35 = .ok (.aload_n 0, 1) := by decide +kernel
theorem dX11_initiate_36 : decode cX11_initiate 36 = .ok (.getfield 31, 3) := by decide +kernel
theorem dX11_initiate_39 : decode cX11_initiate 39 = .ok (.invokevirtual 78, 3) := by decide +kernel
theorem dX11_initiate_42 : decode cX11_initiate 42 = .ok (.aload_n 0, 1) := by decide +kernel
theorem dX11_initiate_43 : decode cX11_initiate 43 = .ok (.getfield 31, 3) := by decide +kernel
theorem dX11_initiate_46 : decode cX11_initiate 46 = .ok (.aload_n 1, 1) := by decide +kernel
theorem dX11_initiate_47 : decode cX11_initiate 47 = .ok (.getfield 305, 3) := by decide +kernel
theorem dX11_initiate_50 : decode cX11_initiate 50 = .ok (.bipush 6, 2) := by decide +kernel
theorem dX11_initiate_52 : decode cX11_initiate 52 = .ok (.invokevirtual 160, 3) := by decide +kernel
theorem dX11_initiate_55 : decode cX11_initiate 55 = .ok (.aload_n 0, 1) := by decide +kernel
theorem dX11_initiate_56 : decode cX11_initiate 56 = .ok (.getfield 31, 3) := by decide +kernel
theorem dX11_initiate_59 : decode cX11_initiate 59 = .ok (.aload 4, 2) := by decide +kernel
theorem dX11_initiate_61 : decode cX11_initiate 61 = .ok (.getfield 95, 3) := by decide +kernel
theorem dX11_initiate_64 : decode cX11_initiate 64 = .ok (.bipush 6, 2) := by decide +kernel
theorem dX11_initiate_66 : decode cX11_initiate 66 = .ok (.invokevirtual 160, 3) := by decide +kernel
theorem dX11_initiate_69 : decode cX11_initiate 69 = .ok (.aload_n 0, 1) := by decide +kernel
theorem dX11_initiate_70 : decode cX11_initiate 70 = .ok (.getfield 31, 3) := by decide +kernel
theorem dX11_initiate_73 : decode cX11_initiate 73 = .ok (.aload 4, 2) := by decide +kernel
theorem dX11_initiate_75 : decode cX11_initiate 75 = .ok (.getfield 469, 3) := by decide +kernel
theorem dX11_initiate_78 : decode cX11_initiate 78 = .ok (.i2l, 1) := by decide +kernel
theorem dX11_initiate_79 : decode cX11_initiate 79 = .ok (.iconst 4, 1) := by decide +kernel
theorem dX11_initiate_80 : decode cX11_initiate 80 = .ok (.invokevirtual 160, 3) := by decide +kernel
theorem dX11_initiate_83 : decode cX11_initiate 83 = .ok (.aload_n 0, 1) := by decide +kernel
theorem dX11_initiate_84 : decode cX11_initiate 84 = .ok (.getfield 31, 3) := by decide +kernel
theorem dX11_initiate_87 : decode cX11_initiate 87 = .ok (.aload 4, 2) := by decide +kernel
theorem dX11_initiate_89 : decode cX11_initiate 89 = .ok (.getfield 472, 3) := by decide +kernel
theorem dX11_initiate_92 : decode cX11_initiate 92 = .ok (.i2l, 1) := by decide +kernel
theorem dX11_initiate_93 : decode cX11_initiate 93 = .ok (.iconst 3, 1) := by decide +kernel
theorem dX11_initiate_94 : decode cX11_initiate 94 = .ok (.invokevirtual 160, 3) := by decide +kernel
theorem dX11_initiate_97 : decode cX11_initiate 97 = .ok (.aload_n 0, 1) := by decide +kernel
theorem dX11_initiate_98 : decode cX11_initiate 98 = .ok (.getfield 31, 3) := by decide +kernel
theorem dX11_initiate_101 : decode cX11_initiate 101 = .ok (.aload 4, 2) := by decide +kernel
theorem dX11_initiate_103 : decode cX11_initiate 103 = .ok (.getfield 354, 3) := by decide +kernel
theorem dX11_initiate_106 : decode cX11_initiate 106 = .ok (.i2l, 1) := by decide +kernel
theorem dX11_initiate_107 : decode cX11_initiate 107 = .ok (.iconst 2, 1) := by decide +kernel
theorem dX11_initiate_108 : decode cX11_initiate 108 = .ok (.invokevirtual 160, 3) := by decide +kernel
theorem dX11_initiate_111 : decode cX11_initiate 111 = .ok (.aload_n 0, 1) := by decide +kernel
theorem dX11_initiate_112 : decode cX11_initiate 112 = .ok (.getfield 31, 3) := by decide +kernel
theorem dX11_initiate_115 : decode cX11_initiate 115 = .ok (.aload 4, 2) := by decide +kernel
theorem dX11_initiate_117 : decode cX11_initiate 117 = .ok (.getfield 358, 3) := by decide +kernel
theorem dX11_initiate_120 : decode cX11_initiate 120 = .ok (.i2l, 1) := by decide +kernel
theorem dX11_initiate_121 : decode cX11_initiate 121 = .ok (.iconst 2, 1) := by decide +kernel
theorem dX11_initiate_122 : decode cX11_initiate 122 = .ok (.invokevirtual 160, 3) := by decide +kernel
theorem dX11_initiate_125 : decode cX11_initiate 125 = .ok (.aload_n 0, 1) := by decide +kernel
theorem dX11_initiate_126 : decode cX11_initiate 126 = .ok (.getfield 31, 3) := by decide +kernel
theorem dX11_initiate_129 : decode cX11_initiate 129 = .ok (.aload 4, 2) := by decide +kernel
theorem dX11_initiate_131 : decode cX11_initiate 131 = .ok (.getfield 299, 3) := by decide +kernel
theorem dX11_initiate_134 : decode cX11_initiate 134 = .ok (.iconst 5, 1) := by decide +kernel
theorem dX11_initiate_135 : decode cX11_initiate 135 = .ok (.invokevirtual 160, 3) := by decide +kernel
theorem dX11_initiate_138 : decode cX11_initiate 138 = .ok (.aload_n 0, 1) := by decide +kernel
theorem dX11_initiate_139 : decode cX11_initiate 139 = .ok (.getfield 31, 3) := by decide +kernel
theorem dX11_initiate_142 : decode cX11_initiate 142 = .ok (.aload 4, 2) := by decide +kernel
theorem dX11_initiate_144 : decode cX11_initiate 144 = .ok (.getfield 355, 3) := by decide +kernel
theorem dX11_initiate_147 : decode cX11_initiate 147 = .ok (.invokevirtual 164, 3) := by decide +kernel
theorem dX11_initiate_150 : decode cX11_initiate 150 = .ok (.aload_n 0, 1) := by decide +kernel
theorem dX11_initiate_151 : decode cX11_initiate 151 = .ok (.getfield 18, 3) := by decide +kernel
theorem dX11_initiate_154 : decode cX11_initiate 154 = .ok (.aload_n 1, 1) := by decide +kernel
theorem dX11_initiate_155 : decode cX11_initiate 155 = .ok (.getfield 430, 3) := by decide +kernel
theorem dX11_initiate_158 : decode cX11_initiate 158 = .ok (.iload_n 3, 1) := by decide +kernel
theorem dX11_initiate_159 : decode cX11_initiate 159 = .ok (.ldc_w 433, 3) := by decide +kernel
theorem dX11_initiate_162 : decode cX11_initiate 162 = .ok (.ldc_w 434, 3) := by decide +kernel
theorem dX11_initiate_165 : decode cX11_initiate 165 = .ok (.iconst 5, 1) := by decide +kernel
theorem dX11_initiate_166 : decode cX11_initiate 166 = .ok (.aload_n 0, 1) := by decide +kernel
theorem dX11_initiate_167 : decode cX11_initiate 167 = .ok (.getfield 31, 3) := by decide +kernel
theorem dX11_initiate_170 : decode cX11_initiate 170 = .ok (.invokevirtual 435, 3) := by decide +kernel
theorem dX11_initiate_173 : decode cX11_initiate 173 = .ok (.aload_n 0, 1) := by decide +kernel
theorem dX11_initiate_174 : decode cX11_initiate 174 = .ok (.getfield 18, 3) := by decide +kernel
theorem dX11_initiate_177 : decode cX11_initiate 177 = .ok (.iload_n 3, 1) := by decide +kernel
theorem dX11_initiate_178 : decode cX11_initiate 178 = .ok (.ldc_w 433, 3) := by decide +kernel
theorem dX11_initiate_181 : decode cX11_initiate 181 = .ok (.invokevirtual 457, 3) := by decide +kernel
theorem dX11_initiate_184 : decode cX11_initiate 184 = .ok (.ifCond .eq 51, 3) := by decide +kernel
theorem dX11_initiate_187 : decode cX11_initiate 187 = .ok (.aload_n 0, 1) := by decide +kernel
theorem dX11_initiate_188 : decode cX11_initiate 188 = .ok (.getfield 18, 3) := by decide +kernel
theorem dX11_initiate_191 : decode cX11_initiate 191 = .ok (.iload_n 3, 1) := by decide +kernel
theorem dX11_initiate_192 : decode cX11_initiate 192 = .ok (.ldc_w 434, 3) := by decide +kernel
theorem dX11_initiate_195 : decode cX11_initiate 195 = .ok (.invokevirtual 460, 3) := by decide +kernel
theorem dX11_initiate_198 : decode cX11_initiate 198 = .ok (.ifCond .eq 37, 3) := by decide +kernel
theorem dX11_initiate_201 : decode cX11_initiate 201 = .ok (.aload_n 0, 1) := by decide +kernel
theorem dX11_initiate_202 : decode cX11_initiate 202 = .ok (.getfield 18, 3) := by decide +kernel
theorem dX11_initiate_205 : decode cX11_initiate 205 = .ok (.getfield 463, 3) := by decide +kernel
theorem dX11_initiate_208 : decode cX11_initiate 208 = .ok (.iconst 5, 1) := by decide +kernel
theorem dX11_initiate_209 : decode cX11_initiate 209 = .ok (.if_icmp .ne 26, 3) := by decide +kernel
theorem dX11_initiate_212 : decode cX11_initiate 212 = .ok (.aload_n 2, 1) := by decide +kernel
theorem dX11_initiate_213 : decode cX11_initiate 213 = .ok (.aload_n 0, 1) := by decide +kernel
theorem dX11_initiate_214 : decode cX11_initiate 214 = .ok (.getfield 18, 3) := by decide +kernel
theorem dX11_initiate_217 : decode cX11_initiate 217 = .ok (.getfield 443, 3) := by decide +kernel
theorem dX11_initiate_220 : decode cX11_initiate 220 = .ok (.invokevirtual 479, 3) := by decide +kernel
theorem dX11_initiate_223 : decode cX11_initiate 223 = .ok (.ifCond .eq 12, 3) := by decide +kernel
theorem dX11_initiate_226 : decode cX11_initiate 226 = .ok (.aload_n 2, 1) := by decide +kernel
theorem dX11_initiate_227 : decode cX11_initiate 227 = .ok (.iconst 5, 1) := by decide +kernel
theorem dX11_initiate_228 : decode cX11_initiate 228 = .ok (.aload_n 0, 1) := by decide +kernel
theorem dX11_initiate_229 : decode cX11_initiate 229 = .ok (.getfield 65, 3) := by decide +kernel
theorem dX11_initiate_232 : decode cX11_initiate 232 = .ok (.invokevirtual 475, 3) := by decide +kernel
theorem dX11_initiate_235 : decode cX11_initiate 235 = .ok (.return_, 1) := by decide +kernel
theorem dX11_beginEvents_0 : decode cX11_beginEvents 0 = .ok (.iconst 0, 1) := by decide +kernel
theorem dX11_beginEvents_1 : decode cX11_beginEvents 1 = .ok (.istore_n 1, 1) := by decide +kernel
theorem dX11_beginEvents_2 : decode cX11_beginEvents 2 = .ok (.iload_n 1, 1) := by decide +kernel
theorem dX11_beginEvents_3 : decode cX11_beginEvents 3 = .ok (.aload_n 0, 1) := by decide +kernel
theorem dX11_beginEvents_4 : decode cX11_beginEvents 4 = .ok (.getfield 9, 3) := by decide +kernel
theorem dX11_beginEvents_7 : decode cX11_beginEvents 7 = .ok (.arraylength, 1) := by decide +kernel
theorem dX11_beginEvents_8 : decode cX11_beginEvents 8 = .ok (.if_icmp .ge 37, 3) := by decide +kernel
theorem dX11_beginEvents_11 : decode cX11_beginEvents 11 = .ok (.aload_n 0, 1) := by decide +kernel
theorem dX11_beginEvents_12 : decode cX11_beginEvents 12 = .ok (.getfield 9, 3) := by decide +kernel
theorem dX11_beginEvents_15 : decode cX11_beginEvents 15 = .ok (.iload_n 1, 1) := by decide +kernel
theorem dX11_beginEvents_16 : decode cX11_beginEvents 16 = .ok (.aaload, 1) := by decide +kernel
theorem dX11_beginEvents_17 : decode cX11_beginEvents 17 = .ok (.aload_n 0, 1) := by decide +kernel
theorem dX11_beginEvents_18 : decode cX11_beginEvents 18 = .ok (.getfield 65, 3) := by decide +kernel
theorem dX11_beginEvents_21 : decode cX11_beginEvents 21 = .ok (.invokevirtual 483, 3) := by decide +kernel
theorem dX11_beginEvents_24 : decode cX11_beginEvents 24 = .ok (.ifCond .eq 15, 3) := by decide +kernel
theorem dX11_beginEvents_27 : decode cX11_beginEvents 27 = .ok (.aload_n 0, 1) := by decide +kernel
theorem dX11_beginEvents_28 : decode cX11_beginEvents 28 = .ok (.getfield 9, 3) := by decide +kernel
theorem dX11_beginEvents_31 : decode cX11_beginEvents 31 = .ok (.iload_n 1, 1) := by decide +kernel
theorem dX11_beginEvents_32 : decode cX11_beginEvents 32 = .ok (.aaload, 1) := by decide +kernel
theorem dX11_beginEvents_33 : decode cX11_beginEvents 33 = .ok (.getfield 87, 3) := by decide +kernel
theorem dX11_beginEvents_36 : decode cX11_beginEvents 36 = .ok (.invokevirtual 487, 3) := by decide +kernel
theorem dX11_beginEvents_39 : decode cX11_beginEvents 39 = .ok (.iinc 1 1, 3) := by decide +kernel
theorem dX11_beginEvents_42 : decode cX11_beginEvents 42 = .ok (.goto (-40), 3) := by decide +kernel
theorem dX11_beginEvents_45 : decode cX11_beginEvents 45 = .ok (.return_, 1) := by decide +kernel
theorem dX11_reaches_0 : decode cX11_reaches 0 = .ok (.aload_n 1, 1) := by decide +kernel
theorem dX11_reaches_1 : decode cX11_reaches 1 = .ok (.getfield 59, 3) := by decide +kernel
theorem dX11_reaches_4 : decode cX11_reaches 4 = .ok (.iconst 4, 1) := by decide +kernel
theorem dX11_reaches_5 : decode cX11_reaches 5 = .ok (.if_icmp .ne 14, 3) := by decide +kernel
theorem dX11_reaches_8 : decode cX11_reaches 8 = .ok (.aload_n 1, 1) := by decide +kernel
theorem dX11_reaches_9 : decode cX11_reaches 9 = .ok (.aload_n 0, 1) := by decide +kernel
theorem dX11_reaches_10 : decode cX11_reaches 10 = .ok (.getfield 65, 3) := by decide +kernel
theorem dX11_reaches_13 : decode cX11_reaches 13 = .ok (.invokevirtual 483, 3) := by decide +kernel
theorem dX11_reaches_16 : decode cX11_reaches 16 = .ok (.ifCond .ne 5, 3) := by decide +kernel
theorem dX11_reaches_19 : decode cX11_reaches 19 = .ok (.iconst 0, 1) := by decide +kernel
theorem dX11_reaches_20 : decode cX11_reaches 20 = .ok (.ireturn, 1) := by decide +kernel
theorem dX11_reaches_21 : decode cX11_reaches 21 = .ok (.aload_n 0, 1) := by decide +kernel
theorem dX11_reaches_22 : decode cX11_reaches 22 = .ok (.aload_n 1, 1) := by decide +kernel
theorem dX11_reaches_23 : decode cX11_reaches 23 = .ok (.invokevirtual 413, 3) := by decide +kernel
theorem dX11_reaches_26 : decode cX11_reaches 26 = .ok (.aload_n 2, 1) := by decide +kernel
theorem dX11_reaches_27 : decode cX11_reaches 27 = .ok (.getfield 59, 3) := by decide +kernel
theorem dX11_reaches_30 : decode cX11_reaches 30 = .ok (.iconst 5, 1) := by decide +kernel
theorem dX11_reaches_31 : decode cX11_reaches 31 = .ok (.if_icmp .ne 42, 3) := by decide +kernel
theorem dX11_reaches_34 : decode cX11_reaches 34 = .ok (.aload_n 2, 1) := by decide +kernel
theorem dX11_reaches_35 : decode cX11_reaches 35 = .ok (.aload_n 0, 1) := by decide +kernel
theorem dX11_reaches_36 : decode cX11_reaches 36 = .ok (.getfield 65, 3) := by decide +kernel
theorem dX11_reaches_39 : decode cX11_reaches 39 = .ok (.invokevirtual 483, 3) := by decide +kernel
theorem dX11_reaches_42 : decode cX11_reaches 42 = .ok (.ifCond .eq 31, 3) := by decide +kernel
theorem dX11_reaches_45 : decode cX11_reaches 45 = .ok (.aload_n 0, 1) := by decide +kernel
theorem dX11_reaches_46 : decode cX11_reaches 46 = .ok (.getfield 18, 3) := by decide +kernel
theorem dX11_reaches_49 : decode cX11_reaches 49 = .ok (.aload_n 2, 1) := by decide +kernel
theorem dX11_reaches_50 : decode cX11_reaches 50 = .ok (.getfield 87, 3) := by decide +kernel
theorem dX11_reaches_53 : decode cX11_reaches 53 = .ok (.getfield 345, 3) := by decide +kernel
theorem dX11_reaches_56 : decode cX11_reaches 56 = .ok (.aload_n 2, 1) := by decide +kernel
theorem dX11_reaches_57 : decode cX11_reaches 57 = .ok (.getfield 87, 3) := by decide +kernel
theorem dX11_reaches_60 : decode cX11_reaches 60 = .ok (.getfield 469, 3) := by decide +kernel
theorem dX11_reaches_63 : decode cX11_reaches 63 = .ok (.invokevirtual 457, 3) := by decide +kernel
theorem dX11_reaches_66 : decode cX11_reaches 66 = .ok (.ifCond .eq 7, 3) := by decide +kernel
theorem dX11_reaches_69 : decode cX11_reaches 69 = .ok (.iconst 1, 1) := by decide +kernel
theorem dX11_reaches_70 : decode cX11_reaches 70 = .ok (.goto 4, 3) := by decide +kernel
theorem dX11_reaches_73 : decode cX11_reaches 73 = .ok (.iconst 0, 1) := by decide +kernel
theorem dX11_reaches_74 : decode cX11_reaches 74 = .ok (.ireturn, 1) := by decide +kernel
theorem dX11_endEvents_0 : decode cX11_endEvents 0 = .ok (.iconst 0, 1) := by decide +kernel
theorem dX11_endEvents_1 : decode cX11_endEvents 1 = .ok (.istore_n 1, 1) := by decide +kernel
theorem dX11_endEvents_2 : decode cX11_endEvents 2 = .ok (.iload_n 1, 1) := by decide +kernel
theorem dX11_endEvents_3 : decode cX11_endEvents 3 = .ok (.aload_n 0, 1) := by decide +kernel
theorem dX11_endEvents_4 : decode cX11_endEvents 4 = .ok (.getfield 9, 3) := by decide +kernel
theorem dX11_endEvents_7 : decode cX11_endEvents 7 = .ok (.arraylength, 1) := by decide +kernel
theorem dX11_endEvents_8 : decode cX11_endEvents 8 = .ok (.if_icmp .ge 37, 3) := by decide +kernel
theorem dX11_endEvents_11 : decode cX11_endEvents 11 = .ok (.aload_n 0, 1) := by decide +kernel
theorem dX11_endEvents_12 : decode cX11_endEvents 12 = .ok (.getfield 9, 3) := by decide +kernel
theorem dX11_endEvents_15 : decode cX11_endEvents 15 = .ok (.iload_n 1, 1) := by decide +kernel
theorem dX11_endEvents_16 : decode cX11_endEvents 16 = .ok (.aaload, 1) := by decide +kernel
theorem dX11_endEvents_17 : decode cX11_endEvents 17 = .ok (.aload_n 0, 1) := by decide +kernel
theorem dX11_endEvents_18 : decode cX11_endEvents 18 = .ok (.getfield 65, 3) := by decide +kernel
theorem dX11_endEvents_21 : decode cX11_endEvents 21 = .ok (.invokevirtual 483, 3) := by decide +kernel
theorem dX11_endEvents_24 : decode cX11_endEvents 24 = .ok (.ifCond .eq 15, 3) := by decide +kernel
theorem dX11_endEvents_27 : decode cX11_endEvents 27 = .ok (.aload_n 0, 1) := by decide +kernel
theorem dX11_endEvents_28 : decode cX11_endEvents 28 = .ok (.getfield 9, 3) := by decide +kernel
theorem dX11_endEvents_31 : decode cX11_endEvents 31 = .ok (.iload_n 1, 1) := by decide +kernel
theorem dX11_endEvents_32 : decode cX11_endEvents 32 = .ok (.aaload, 1) := by decide +kernel
theorem dX11_endEvents_33 : decode cX11_endEvents 33 = .ok (.getfield 87, 3) := by decide +kernel
theorem dX11_endEvents_36 : decode cX11_endEvents 36 = .ok (.invokevirtual 490, 3) := by decide +kernel
theorem dX11_endEvents_39 : decode cX11_endEvents 39 = .ok (.iinc 1 1, 3) := by decide +kernel
theorem dX11_endEvents_42 : decode cX11_endEvents 42 = .ok (.goto (-40), 3) := by decide +kernel
theorem dX11_endEvents_45 : decode cX11_endEvents 45 = .ok (.return_, 1) := by decide +kernel
theorem dX11_endLinks_0 : decode cX11_endLinks 0 = .ok (.iconst 0, 1) := by decide +kernel
theorem dX11_endLinks_1 : decode cX11_endLinks 1 = .ok (.istore_n 1, 1) := by decide +kernel
theorem dX11_endLinks_2 : decode cX11_endLinks 2 = .ok (.iload_n 1, 1) := by decide +kernel
theorem dX11_endLinks_3 : decode cX11_endLinks 3 = .ok (.aload_n 0, 1) := by decide +kernel
theorem dX11_endLinks_4 : decode cX11_endLinks 4 = .ok (.getfield 9, 3) := by decide +kernel
theorem dX11_endLinks_7 : decode cX11_endLinks 7 = .ok (.arraylength, 1) := by decide +kernel
theorem dX11_endLinks_8 : decode cX11_endLinks 8 = .ok (.if_icmp .ge 49, 3) := by decide +kernel
theorem dX11_endLinks_11 : decode cX11_endLinks 11 = .ok (.aload_n 0, 1) := by decide +kernel
theorem dX11_endLinks_12 : decode cX11_endLinks 12 = .ok (.getfield 9, 3) := by decide +kernel
theorem dX11_endLinks_15 : decode cX11_endLinks 15 = .ok (.iload_n 1, 1) := by decide +kernel
theorem dX11_endLinks_16 : decode cX11_endLinks 16 = .ok (.aaload, 1) := by decide +kernel
theorem dX11_endLinks_17 : decode cX11_endLinks 17 = .ok (.astore_n 2, 1) := by decide +kernel
theorem dX11_endLinks_18 : decode cX11_endLinks 18 = .ok (.aload_n 2, 1) := by decide +kernel
theorem dX11_endLinks_19 : decode cX11_endLinks 19 = .ok (.invokevirtual 99, 3) := by decide +kernel
theorem dX11_endLinks_22 : decode cX11_endLinks 22 = .ok (.ifCond .eq 17, 3) := by decide +kernel
theorem dX11_endLinks_25 : decode cX11_endLinks 25 = .ok (.aload_n 2, 1) := by decide +kernel
theorem dX11_endLinks_26 : decode cX11_endLinks 26 = .ok (.getfield 87, 3) := by decide +kernel
theorem dX11_endLinks_29 : decode cX11_endLinks 29 = .ok (.aload_n 0, 1) := by decide +kernel
theorem dX11_endLinks_30 : decode cX11_endLinks 30 = .ok (.getfield 65, 3) := by decide +kernel
theorem dX11_endLinks_33 : decode cX11_endLinks 33 = .ok (.invokevirtual 493, 3) := by decide +kernel
theorem dX11_endLinks_36 : decode cX11_endLinks 36 = .ok (.goto 4, 3) := by decide +kernel
theorem dX11_endLinks_39 : decode cX11_endLinks 39 = .ok (.iconst (-1), 1) := by decide +kernel
theorem dX11_endLinks_40 : decode cX11_endLinks 40 = .ok (.istore_n 3, 1) := by decide +kernel
theorem dX11_endLinks_41 : decode cX11_endLinks 41 = .ok (.iload_n 3, 1) := by decide +kernel
theorem dX11_endLinks_42 : decode cX11_endLinks 42 = .ok (.iconst (-1), 1) := by decide +kernel
theorem dX11_endLinks_43 : decode cX11_endLinks 43 = .ok (.if_icmp .eq 8, 3) := by decide +kernel
theorem dX11_endLinks_46 : decode cX11_endLinks 46 = .ok (.aload_n 2, 1) := by decide +kernel
theorem dX11_endLinks_47 : decode cX11_endLinks 47 = .ok (.iload_n 3, 1) := by decide +kernel
theorem dX11_endLinks_48 : decode cX11_endLinks 48 = .ok (.invokevirtual 496, 3) := by decide +kernel
theorem dX11_endLinks_51 : decode cX11_endLinks 51 = .ok (.iinc 1 1, 3) := by decide +kernel
theorem dX11_endLinks_54 : decode cX11_endLinks 54 = .ok (.goto (-52), 3) := by decide +kernel
theorem dX11_endLinks_57 : decode cX11_endLinks 57 = .ok (.return_, 1) := by decide +kernel
theorem dX11_sendPacket_0 : decode cX11_sendPacket 0 = .ok (.aload_n 1, 1) := by decide +kernel
theorem dX11_sendPacket_1 : decode cX11_sendPacket 1 = .ok (.getfield 87, 3) := by decide +kernel
theorem dX11_sendPacket_4 : decode cX11_sendPacket 4 = .ok (.astore_n 2, 1) := by decide +kernel
theorem dX11_sendPacket_5 : decode cX11_sendPacket 5 = .ok (.aload_n 1, 1) := by decide +kernel
theorem dX11_sendPacket_6 : decode cX11_sendPacket 6 = .ok (.getfield 144, 3) := by decide +kernel
theorem dX11_sendPacket_9 : decode cX11_sendPacket 9 = .ok (.astore_n 3, 1) := by decide +kernel
theorem dX11_sendPacket_10 : decode cX11_sendPacket 10 = .ok (.aload_n 2, 1) := by decide +kernel
theorem dX11_sendPacket_11 : decode cX11_sendPacket 11 = .ok (.aload_n 2, 1) := by decide +kernel
theorem dX11_sendPacket_12 : decode cX11_sendPacket 12 = .ok (.getfield 499, 3) := by decide +kernel
theorem dX11_sendPacket_15 : decode cX11_sendPacket 15 = .ok (.invokevirtual 502, 3) := by decide +kernel
theorem dX11_sendPacket_18 : decode cX11_sendPacket 18 = .ok (.aload_n 3, 1) := by decide +kernel
theorem dX11_sendPacket_19 : decode cX11_sendPacket 19 = .ok (.getfield 373, 3) := by decide +kernel
theorem dX11_sendPacket_22 : decode cX11_sendPacket 22 = .ok (.ifCond .ne 62, 3) := by decide +kernel
theorem dX11_sendPacket_25 : decode cX11_sendPacket 25 = .ok (.aload_n 3, 1) := by decide +kernel
theorem dX11_sendPacket_26 : decode cX11_sendPacket 26 = .ok (.aload_n 1, 1) := by decide +kernel
theorem dX11_sendPacket_27 : decode cX11_sendPacket 27 = .ok (.getfield 183, 3) := by decide +kernel
theorem dX11_sendPacket_30 : decode cX11_sendPacket 30 = .ok (.getfield 195, 3) := by decide +kernel
theorem dX11_sendPacket_33 : decode cX11_sendPacket 33 = .ok (.invokevirtual 505, 3) := by decide +kernel
theorem dX11_sendPacket_36 : decode cX11_sendPacket 36 = .ok (.aload_n 1, 1) := by decide +kernel
theorem dX11_sendPacket_37 : decode cX11_sendPacket 37 = .ok (.getfield 183, 3) := by decide +kernel
theorem dX11_sendPacket_40 : decode cX11_sendPacket 40 = .ok (.getfield 509, 3) := by decide +kernel
theorem dX11_sendPacket_43 : decode cX11_sendPacket 43 = .ok (.ifCond .eq 41, 3) := by decide +kernel
theorem dX11_sendPacket_46 : decode cX11_sendPacket 46 = .ok (.aload_n 3, 1) := by decide +kernel
theorem dX11_sendPacket_47 : decode cX11_sendPacket 47 = .ok (.getfield 376, 3) := by decide +kernel
theorem dX11_sendPacket_50 : decode cX11_sendPacket 50 = .ok (.getfield 42, 3) := by decide +kernel
theorem dX11_sendPacket_53 : decode cX11_sendPacket 53 = .ok (.ifCond .le 31, 3) := by decide +kernel
theorem dX11_sendPacket_56 : decode cX11_sendPacket 56 = .ok (.aload_n 1, 1) := by decide +kernel
theorem dX11_sendPacket_57 : decode cX11_sendPacket 57 = .ok (.getfield 183, 3) := by decide +kernel
theorem dX11_sendPacket_60 : decode cX11_sendPacket 60 = .ok (.aload_n 3, 1) := by decide +kernel
theorem dX11_sendPacket_61 : decode cX11_sendPacket 61 = .ok (.getfield 373, 3) := by decide +kernel
theorem dX11_sendPacket_64 : decode cX11_sendPacket 64 = .ok (.aload_n 3, 1) := by decide +kernel
theorem dX11_sendPacket_65 : decode cX11_sendPacket 65 = .ok (.getfield 376, 3) := by decide +kernel
theorem dX11_sendPacket_68 : decode cX11_sendPacket 68 = .ok (.aload_n 1, 1) := by decide +kernel
theorem dX11_sendPacket_69 : decode cX11_sendPacket 69 = .ok (.getfield 59, 3) := by decide +kernel
theorem dX11_sendPacket_72 : decode cX11_sendPacket 72 = .ok (.iconst 4, 1) := by decide +kernel
theorem dX11_sendPacket_73 : decode cX11_sendPacket 73 = .ok (.if_icmp .ne 7, 3) := by decide +kernel
theorem dX11_sendPacket_76 : decode cX11_sendPacket 76 = .ok (.iconst 1, 1) := by decide +kernel
theorem dX11_sendPacket_77 : decode cX11_sendPacket 77 = .ok (.goto 4, 3) := by decide +kernel
theorem dX11_sendPacket_80 : decode cX11_sendPacket 80 = .ok (.iconst 0, 1) := by decide +kernel
theorem dX11_sendPacket_81 : decode cX11_sendPacket 81 = .ok (.invokevirtual 512, 3) := by decide +kernel
theorem dX11_sendPacket_84 : decode cX11_sendPacket 84 = .ok (.aload_n 3, 1) := by decide +kernel
theorem dX11_sendPacket_85 : decode cX11_sendPacket 85 = .ok (.getfield 373, 3) := by decide +kernel
theorem dX11_sendPacket_88 : decode cX11_sendPacket 88 = .ok (.iconst 4, 1) := by decide +kernel
theorem dX11_sendPacket_89 : decode cX11_sendPacket 89 = .ok (.aload_n 2, 1) := by decide +kernel
theorem dX11_sendPacket_90 : decode cX11_sendPacket 90 = .ok (.getfield 351, 3) := by decide +kernel
theorem dX11_sendPacket_93 : decode cX11_sendPacket 93 = .ok (.imul, 1) := by decide +kernel
theorem dX11_sendPacket_94 : decode cX11_sendPacket 94 = .ok (.iadd, 1) := by decide +kernel
theorem dX11_sendPacket_95 : decode cX11_sendPacket 95 = .ok (.bipush 8, 2) := by decide +kernel
theorem dX11_sendPacket_97 : decode cX11_sendPacket 97 = .ok (.aload_n 2, 1) := by decide +kernel
theorem dX11_sendPacket_98 : decode cX11_sendPacket 98 = .ok (.getfield 348, 3) := by decide +kernel
theorem dX11_sendPacket_101 : decode cX11_sendPacket 101 = .ok (.imul, 1) := by decide +kernel
theorem dX11_sendPacket_102 : decode cX11_sendPacket 102 = .ok (.iadd, 1) := by decide +kernel
theorem dX11_sendPacket_103 : decode cX11_sendPacket 103 = .ok (.istore 4, 2) := by decide +kernel
theorem dX11_sendPacket_105 : decode cX11_sendPacket 105 = .ok (.aload_n 0, 1) := by decide +kernel
theorem dX11_sendPacket_106 : decode cX11_sendPacket 106 = .ok (.getfield 18, 3) := by decide +kernel
theorem dX11_sendPacket_109 : decode cX11_sendPacket 109 = .ok (.aload_n 1, 1) := by decide +kernel
theorem dX11_sendPacket_110 : decode cX11_sendPacket 110 = .ok (.getfield 430, 3) := by decide +kernel
theorem dX11_sendPacket_113 : decode cX11_sendPacket 113 = .ok (.aload_n 2, 1) := by decide +kernel
theorem dX11_sendPacket_114 : decode cX11_sendPacket 114 = .ok (.getfield 345, 3) := by decide +kernel
theorem dX11_sendPacket_117 : decode cX11_sendPacket 117 = .ok (.aload_n 2, 1) := by decide +kernel
theorem dX11_sendPacket_118 : decode cX11_sendPacket 118 = .ok (.getfield 469, 3) := by decide +kernel
theorem dX11_sendPacket_121 : decode cX11_sendPacket 121 = .ok (.aload_n 2, 1) := by decide +kernel
theorem dX11_sendPacket_122 : decode cX11_sendPacket 122 = .ok (.getfield 472, 3) := by decide +kernel
theorem dX11_sendPacket_125 : decode cX11_sendPacket 125 = .ok (.iload 4, 2) := by decide +kernel
theorem dX11_sendPacket_127 : decode cX11_sendPacket 127 = .ok (.aload_n 3, 1) := by decide +kernel
theorem dX11_sendPacket_128 : decode cX11_sendPacket 128 = .ok (.getfield 376, 3) := by decide +kernel
theorem dX11_sendPacket_131 : decode cX11_sendPacket 131 = .ok (.invokevirtual 435, 3) := by decide +kernel
theorem dX11_sendPacket_134 : decode cX11_sendPacket 134 = .ok (.return_, 1) := by decide +kernel
theorem dX11_bringsLetter_0 : decode cX11_bringsLetter 0 = .ok (.aload_n 1, 1) := by decide +kernel
theorem dX11_bringsLetter_1 : decode cX11_bringsLetter 1 = .ok (.getfield 87, 3) := by decide +kernel
theorem dX11_bringsLetter_4 : decode cX11_bringsLetter 4 = .ok (.astore_n 2, 1) := by decide +kernel
theorem dX11_bringsLetter_5 : decode cX11_bringsLetter 5 = .ok (.aload_n 0, 1) := by decide +kernel
theorem dX11_bringsLetter_6 : decode cX11_bringsLetter 6 = .ok (.getfield 18, 3) := by decide +kernel
theorem dX11_bringsLetter_9 : decode cX11_bringsLetter 9 = .ok (.aload_n 2, 1) := by decide +kernel
theorem dX11_bringsLetter_10 : decode cX11_bringsLetter 10 = .ok (.getfield 345, 3) := by decide +kernel
theorem dX11_bringsLetter_13 : decode cX11_bringsLetter 13 = .ok (.aload_n 2, 1) := by decide +kernel
theorem dX11_bringsLetter_14 : decode cX11_bringsLetter 14 = .ok (.getfield 469, 3) := by decide +kernel
theorem dX11_bringsLetter_17 : decode cX11_bringsLetter 17 = .ok (.invokevirtual 457, 3) := by decide +kernel
theorem dX11_bringsLetter_20 : decode cX11_bringsLetter 20 = .ok (.ifCond .eq 21, 3) := by decide +kernel
theorem dX11_bringsLetter_23 : decode cX11_bringsLetter 23 = .ok (.aload_n 0, 1) := by decide +kernel
theorem dX11_bringsLetter_24 : decode cX11_bringsLetter 24 = .ok (.getfield 18, 3) := by decide +kernel
theorem dX11_bringsLetter_27 : decode cX11_bringsLetter 27 = .ok (.aload_n 2, 1) := by decide +kernel
theorem dX11_bringsLetter_28 : decode cX11_bringsLetter 28 = .ok (.getfield 345, 3) := by decide +kernel
theorem dX11_bringsLetter_31 : decode cX11_bringsLetter 31 = .ok (.aload_n 2, 1) := by decide +kernel
theorem dX11_bringsLetter_32 : decode cX11_bringsLetter 32 = .ok (.getfield 472, 3) := by decide +kernel
theorem dX11_bringsLetter_35 : decode cX11_bringsLetter 35 = .ok (.invokevirtual 460, 3) := by decide +kernel
theorem dX11_bringsLetter_38 : decode cX11_bringsLetter 38 = .ok (.ifCond .ne 5, 3) := by decide +kernel
theorem dX11_bringsLetter_41 : decode cX11_bringsLetter 41 = .ok (.iconst 0, 1) := by decide +kernel
theorem dX11_bringsLetter_42 : decode cX11_bringsLetter 42 = .ok (.ireturn, 1) := by decide +kernel
theorem dX11_bringsLetter_43 : decode cX11_bringsLetter 43 = .ok (.aload_n 2, 1) := by decide +kernel
theorem dX11_bringsLetter_44 : decode cX11_bringsLetter 44 = .ok (.aload_n 0, 1) := by decide +kernel
theorem dX11_bringsLetter_45 : decode cX11_bringsLetter 45 = .ok (.getfield 65, 3) := by decide +kernel
theorem dX11_bringsLetter_48 : decode cX11_bringsLetter 48 = .ok (.putfield 364, 3) := by decide +kernel
theorem dX11_bringsLetter_51 : decode cX11_bringsLetter 51 = .ok (.aload_n 2, 1) := by decide +kernel
theorem dX11_bringsLetter_52 : decode cX11_bringsLetter 52 = .ok (.iconst 1, 1) := by decide +kernel
theorem dX11_bringsLetter_53 : decode cX11_bringsLetter 53 = .ok (.putfield 516, 3) := by decide +kernel
theorem dX11_bringsLetter_56 : decode cX11_bringsLetter 56 = .ok (.aload_n 0, 1) := by decide +kernel
theorem dX11_bringsLetter_57 : decode cX11_bringsLetter 57 = .ok (.aload_n 1, 1) := by decide +kernel
theorem dX11_bringsLetter_58 : decode cX11_bringsLetter 58 = .ok (.invokevirtual 519, 3) := by decide +kernel
theorem dX11_bringsLetter_61 : decode cX11_bringsLetter 61 = .ok (.ifCond .ne 5, 3) := by decide +kernel
theorem dX11_bringsLetter_64 : decode cX11_bringsLetter 64 = .ok (.iconst 0, 1) := by decide +kernel
theorem dX11_bringsLetter_65 : decode cX11_bringsLetter 65 = .ok (.ireturn, 1) := by decide +kernel
theorem dX11_bringsLetter_66 : decode cX11_bringsLetter 66 = .ok (.aload_n 1, 1) := by decide +kernel
theorem dX11_bringsLetter_67 : decode cX11_bringsLetter 67 = .ok (.getfield 183, 3) := by decide +kernel
theorem dX11_bringsLetter_70 : decode cX11_bringsLetter 70 = .ok (.getfield 522, 3) := by decide +kernel
theorem dX11_bringsLetter_73 : decode cX11_bringsLetter 73 = .ok (.ifCond .eq 48, 3) := by decide +kernel
theorem dX11_bringsLetter_76 : decode cX11_bringsLetter 76 = .ok (.aload_n 1, 1) := by decide +kernel
theorem dX11_bringsLetter_77 : decode cX11_bringsLetter 77 = .ok (.getfield 183, 3) := by decide +kernel
theorem dX11_bringsLetter_80 : decode cX11_bringsLetter 80 = .ok (.aload_n 0, 1) := by decide +kernel
theorem dX11_bringsLetter_81 : decode cX11_bringsLetter 81 = .ok (.getfield 18, 3) := by decide +kernel
theorem dX11_bringsLetter_84 : decode cX11_bringsLetter 84 = .ok (.getfield 463, 3) := by decide +kernel
theorem dX11_bringsLetter_87 : decode cX11_bringsLetter 87 = .ok (.aload_n 0, 1) := by decide +kernel
theorem dX11_bringsLetter_88 : decode cX11_bringsLetter 88 = .ok (.getfield 18, 3) := by decide +kernel
theorem dX11_bringsLetter_91 : decode cX11_bringsLetter 91 = .ok (.getfield 443, 3) := by decide +kernel
theorem dX11_bringsLetter_94 : decode cX11_bringsLetter 94 = .ok (.aload_n 1, 1) := by decide +kernel
theorem dX11_bringsLetter_95 : decode cX11_bringsLetter 95 = .ok (.getfield 59, 3) := by decide +kernel
theorem dX11_bringsLetter_98 : decode cX11_bringsLetter 98 = .ok (.iconst 4, 1) := by decide +kernel
theorem dX11_bringsLetter_99 : decode cX11_bringsLetter 99 = .ok (.if_icmp .ne 7, 3) := by decide +kernel
theorem dX11_bringsLetter_102 : decode cX11_bringsLetter 102 = .ok (.iconst 0, 1) := by decide +kernel
theorem dX11_bringsLetter_103 : decode cX11_bringsLetter 103 = .ok (.goto 4, 3) := by decide +kernel
theorem dX11_bringsLetter_106 : decode cX11_bringsLetter 106 = .ok (.iconst 1, 1) := by decide +kernel
theorem dX11_bringsLetter_107 : decode cX11_bringsLetter 107 = .ok (.invokevirtual 525, 3) := by decide +kernel
theorem dX11_bringsLetter_110 : decode cX11_bringsLetter 110 = .ok (.ifCond .ne 11, 3) := by decide +kernel
theorem dX11_bringsLetter_113 : decode cX11_bringsLetter 113 = .ok (.aload_n 2, 1) := by decide +kernel
theorem dX11_bringsLetter_114 : decode cX11_bringsLetter 114 = .ok (.bipush 61, 2) := by decide +kernel
theorem dX11_bringsLetter_116 : decode cX11_bringsLetter 116 = .ok (.invokevirtual 502, 3) := by decide +kernel
theorem dX11_bringsLetter_119 : decode cX11_bringsLetter 119 = .ok (.iconst 0, 1) := by decide +kernel
theorem dX11_bringsLetter_120 : decode cX11_bringsLetter 120 = .ok (.ireturn, 1) := by decide +kernel
theorem dX11_bringsLetter_121 : decode cX11_bringsLetter 121 = .ok (.aload_n 0, 1) := by decide +kernel
theorem dX11_bringsLetter_122 : decode cX11_bringsLetter 122 = .ok (.getfield 18, 3) := by decide +kernel
theorem dX11_bringsLetter_125 : decode cX11_bringsLetter 125 = .ok (.getfield 463, 3) := by decide +kernel
theorem dX11_bringsLetter_128 : decode cX11_bringsLetter 128 = .ok (.iconst 3, 1) := by decide +kernel
theorem dX11_bringsLetter_129 : decode cX11_bringsLetter 129 = .ok (.iand, 1) := by decide +kernel
theorem dX11_bringsLetter_130 : decode cX11_bringsLetter 130 = .ok (.istore_n 3, 1) := by decide +kernel
theorem dX11_bringsLetter_131 : decode cX11_bringsLetter 131 = .ok (.iload_n 3, 1) := by decide +kernel
theorem dX11_bringsLetter_132 : decode cX11_bringsLetter 132 = .ok (.iconst 3, 1) := by decide +kernel
theorem dX11_bringsLetter_133 : decode cX11_bringsLetter 133 = .ok (.if_icmp .ne 16, 3) := by decide +kernel
theorem dX11_bringsLetter_136 : decode cX11_bringsLetter 136 = .ok (.aload_n 1, 1) := by decide +kernel
theorem dX11_bringsLetter_137 : decode cX11_bringsLetter 137 = .ok (.aload_n 0, 1) := by decide +kernel
theorem dX11_bringsLetter_138 : decode cX11_bringsLetter 138 = .ok (.getfield 18, 3) := by decide +kernel
theorem dX11_bringsLetter_141 : decode cX11_bringsLetter 141 = .ok (.getfield 443, 3) := by decide +kernel
theorem dX11_bringsLetter_144 : decode cX11_bringsLetter 144 = .ok (.invokestatic 529, 3) := by decide +kernel
theorem dX11_bringsLetter_147 : decode cX11_bringsLetter 147 = .ok (.iconst 0, 1) := by decide +kernel
theorem dX11_bringsLetter_148 : decode cX11_bringsLetter 148 = .ok (.ireturn, 1) := by decide +kernel
theorem dX11_bringsLetter_149 : decode cX11_bringsLetter 149 = .ok (.iload_n 3, 1) := by decide +kernel
theorem dX11_bringsLetter_150 : decode cX11_bringsLetter 150 = .ok (.ifCond .eq 25, 3) := by decide +kernel
theorem dX11_bringsLetter_153 : decode cX11_bringsLetter 153 = .ok (.aload_n 1, 1) := by decide +kernel
theorem dX11_bringsLetter_154 : decode cX11_bringsLetter 154 = .ok (.getfield 144, 3) := by decide +kernel
theorem dX11_bringsLetter_157 : decode cX11_bringsLetter 157 = .ok (.iload_n 3, 1) := by decide +kernel
theorem dX11_bringsLetter_158 : decode cX11_bringsLetter 158 = .ok (.aload_n 0, 1) := by decide +kernel
theorem dX11_bringsLetter_159 : decode cX11_bringsLetter 159 = .ok (.getfield 18, 3) := by decide +kernel
theorem dX11_bringsLetter_162 : decode cX11_bringsLetter 162 = .ok (.getfield 443, 3) := by decide +kernel
theorem dX11_bringsLetter_165 : decode cX11_bringsLetter 165 = .ok (.invokevirtual 533, 3) := by decide +kernel
theorem dX11_bringsLetter_168 : decode cX11_bringsLetter 168 = .ok (.ifCond .eq 7, 3) := by decide +kernel
theorem dX11_bringsLetter_171 : decode cX11_bringsLetter 171 = .ok (.iconst 1, 1) := by decide +kernel
theorem dX11_bringsLetter_172 : decode cX11_bringsLetter 172 = .ok (.goto 4, 3) := by decide +kernel
theorem dX11_bringsLetter_175 : decode cX11_bringsLetter 175 = .ok (.iconst 0, 1) := by decide +kernel
theorem dX11_bringsLetter_176 : decode cX11_bringsLetter 176 = .ok (.ireturn, 1) := by decide +kernel
theorem dX11_isNew_0 : decode cX11_isNew 0 = .ok (.aload_n 1, 1) := by decide +kernel
theorem dX11_isNew_1 : decode cX11_isNew 1 = .ok (.getfield 87, 3) := by decide +kernel
theorem dX11_isNew_4 : decode cX11_isNew 4 = .ok (.astore_n 2, 1) := by decide +kernel
theorem dX11_isNew_5 : decode cX11_isNew 5 = .ok (.aload_n 1, 1) := by decide +kernel
theorem dX11_isNew_6 : decode cX11_isNew 6 = .ok (.getfield 144, 3) := by decide +kernel
theorem dX11_isNew_9 : decode cX11_isNew 9 = .ok (.getfield 373, 3) := by decide +kernel
theorem dX11_isNew_12 : decode cX11_isNew 12 = .ok (.ifCond .eq 35, 3) := by decide +kernel
theorem dX11_isNew_15 : decode cX11_isNew 15 = .ok (.aload_n 0, 1) := by decide +kernel
theorem dX11_isNew_16 : decode cX11_isNew 16 = .ok (.getfield 18, 3) := by decide +kernel
theorem dX11_isNew_19 : decode cX11_isNew 19 = .ok (.getfield 463, 3) := by decide +kernel
theorem dX11_isNew_22 : decode cX11_isNew 22 = .ok (.iconst 2, 1) := by decide +kernel
theorem dX11_isNew_23 : decode cX11_isNew 23 = .ok (.ishr, 1) := by decide +kernel
theorem dX11_isNew_24 : decode cX11_isNew 24 = .ok (.iconst 1, 1) := by decide +kernel
theorem dX11_isNew_25 : decode cX11_isNew 25 = .ok (.iand, 1) := by decide +kernel
theorem dX11_isNew_26 : decode cX11_isNew 26 = .ok (.aload_n 2, 1) := by decide +kernel
theorem dX11_isNew_27 : decode cX11_isNew 27 = .ok (.getfield 348, 3) := by decide +kernel
theorem dX11_isNew_30 : decode cX11_isNew 30 = .ok (.if_icmp .eq 17, 3) := by decide +kernel
theorem dX11_isNew_33 : decode cX11_isNew 33 = .ok (.aload_n 2, 1) := by decide +kernel
theorem dX11_isNew_34 : decode cX11_isNew 34 = .ok (.dup, 1) := by decide +kernel
theorem dX11_isNew_35 : decode cX11_isNew 35 = .ok (.getfield 348, 3) := by decide +kernel
theorem dX11_isNew_38 : decode cX11_isNew 38 = .ok (.iconst 1, 1) := by decide +kernel
theorem dX11_isNew_39 : decode cX11_isNew 39 = .ok (.ixor, 1) := by decide +kernel
theorem dX11_isNew_40 : decode cX11_isNew 40 = .ok (.putfield 348, 3) := by decide +kernel
theorem dX11_isNew_43 : decode cX11_isNew 43 = .ok (.aload_n 1, 1) := by decide +kernel
theorem dX11_isNew_44 : decode cX11_isNew 44 = .ok (.invokevirtual 537, 3) := by decide +kernel
theorem dX11_isNew_47 : decode cX11_isNew 47 = .ok (.aload_n 0, 1) := by decide +kernel
theorem dX11_isNew_48 : decode cX11_isNew 48 = .ok (.getfield 18, 3) := by decide +kernel
theorem dX11_isNew_51 : decode cX11_isNew 51 = .ok (.getfield 463, 3) := by decide +kernel
theorem dX11_isNew_54 : decode cX11_isNew 54 = .ok (.iconst 3, 1) := by decide +kernel
theorem dX11_isNew_55 : decode cX11_isNew 55 = .ok (.ishr, 1) := by decide +kernel
theorem dX11_isNew_56 : decode cX11_isNew 56 = .ok (.iconst 1, 1) := by decide +kernel
theorem dX11_isNew_57 : decode cX11_isNew 57 = .ok (.iand, 1) := by decide +kernel
theorem dX11_isNew_58 : decode cX11_isNew 58 = .ok (.aload_n 2, 1) := by decide +kernel
theorem dX11_isNew_59 : decode cX11_isNew 59 = .ok (.getfield 351, 3) := by decide +kernel
theorem dX11_isNew_62 : decode cX11_isNew 62 = .ok (.if_icmp .eq 5, 3) := by decide +kernel
theorem dX11_isNew_65 : decode cX11_isNew 65 = .ok (.iconst 0, 1) := by decide +kernel
theorem dX11_isNew_66 : decode cX11_isNew 66 = .ok (.ireturn, 1) := by decide +kernel
theorem dX11_isNew_67 : decode cX11_isNew 67 = .ok (.aload_n 2, 1) := by decide +kernel
theorem dX11_isNew_68 : decode cX11_isNew 68 = .ok (.dup, 1) := by decide +kernel
theorem dX11_isNew_69 : decode cX11_isNew 69 = .ok (.getfield 351, 3) := by decide +kernel
theorem dX11_isNew_72 : decode cX11_isNew 72 = .ok (.iconst 1, 1) := by decide +kernel
theorem dX11_isNew_73 : decode cX11_isNew 73 = .ok (.ixor, 1) := by decide +kernel
theorem dX11_isNew_74 : decode cX11_isNew 74 = .ok (.putfield 351, 3) := by decide +kernel
theorem dX11_isNew_77 : decode cX11_isNew 77 = .ok (.aload_n 0, 1) := by decide +kernel
theorem dX11_isNew_78 : decode cX11_isNew 78 = .ok (.getfield 18, 3) := by decide +kernel
theorem dX11_isNew_81 : decode cX11_isNew 81 = .ok (.getfield 443, 3) := by decide +kernel
theorem dX11_isNew_84 : decode cX11_isNew 84 = .ok (.getfield 42, 3) := by decide +kernel
theorem dX11_isNew_87 : decode cX11_isNew 87 = .ok (.ifCond .le 7, 3) := by decide +kernel
theorem dX11_isNew_90 : decode cX11_isNew 90 = .ok (.iconst 1, 1) := by decide +kernel
theorem dX11_isNew_91 : decode cX11_isNew 91 = .ok (.goto 4, 3) := by decide +kernel
theorem dX11_isNew_94 : decode cX11_isNew 94 = .ok (.iconst 0, 1) := by decide +kernel
theorem dX11_isNew_95 : decode cX11_isNew 95 = .ok (.ireturn, 1) := by decide +kernel
theorem dX11_answer_0 : decode cX11_answer 0 = .ok (.aload_n 0, 1) := by decide +kernel
theorem dX11_answer_1 : decode cX11_answer 1 = .ok (.getfield 144, 3) := by decide +kernel
theorem dX11_answer_4 : decode cX11_answer 4 = .ok (.getfield 540, 3) := by decide +kernel
theorem dX11_answer_7 : decode cX11_answer 7 = .ok (.astore_n 1, 1) := by decide +kernel
theorem dX11_answer_8 : decode cX11_answer 8 = .ok (.aload_n 0, 1) := by decide +kernel
theorem dX11_answer_9 : decode cX11_answer 9 = .ok (.getfield 225, 3) := by decide +kernel
theorem dX11_answer_12 : decode cX11_answer 12 = .ok (.astore_n 2, 1) := by decide +kernel
theorem dX11_answer_13 : decode cX11_answer 13 = .ok (.aload_n 2, 1) := by decide +kernel
theorem dX11_answer_14 : decode cX11_answer 14 = .ok (.invokevirtual 78, 3) := by decide +kernel
theorem dX11_answer_17 : decode cX11_answer 17 = .ok (.aload_n 0, 1) := by decide +kernel
theorem dX11_answer_18 : decode cX11_answer 18 = .ok (.getfield 144, 3) := by decide +kernel
theorem dX11_answer_21 : decode cX11_answer 21 = .ok (.getfield 543, 3) := by decide +kernel
theorem dX11_answer_24 : decode cX11_answer 24 = .ok (.bipush 6, 2) := by decide +kernel
theorem dX11_answer_26 : decode cX11_answer 26 = .ok (.if_icmp .ne 16, 3) := by decide +kernel
theorem dX11_answer_29 : decode cX11_answer 29 = .ok (.aload_n 0, 1) := by decide +kernel
theorem dX11_answer_30 : decode cX11_answer 30 = .ok (.getfield 111, 3) := by decide +kernel
theorem dX11_answer_33 : decode cX11_answer 33 = .ok (.aload_n 0, 1) := by decide +kernel
theorem dX11_answer_34 : decode cX11_answer 34 = .ok (.aload_n 1, 1) := by decide +kernel
theorem dX11_answer_35 : decode cX11_answer 35 = .ok (.aload_n 2, 1) := by decide +kernel
theorem dX11_answer_36 : decode cX11_answer 36 = .ok (.invokevirtual 546, 3) := by decide +kernel
theorem dX11_answer_39 : decode cX11_answer 39 = .ok (.goto 92, 3) := by decide +kernel
theorem dX11_answer_42 : decode cX11_answer 42 = .ok (.aload_n 1, 1) := by decide +kernel
theorem dX11_answer_43 : decode cX11_answer 43 = .ok (.iconst 0, 1) := by decide +kernel
theorem dX11_answer_44 : decode cX11_answer 44 = .ok (.invokevirtual 291, 3) := by decide +kernel
theorem dX11_answer_47 : decode cX11_answer 47 = .ok (.istore_n 3, 1) := by decide +kernel
theorem dX11_answer_48 : decode cX11_answer 48 = .ok (.iload_n 3, 1) := by decide +kernel
theorem dX11_answer_49 : decode cX11_answer 49 = .ok (.bipush 25, 2) := by decide +kernel
theorem dX11_answer_51 : decode cX11_answer 51 = .ok (.if_icmp .gt 30, 3) := by decide +kernel
theorem dX11_answer_54 : decode cX11_answer 54 = .ok (.iload_n 3, 1) := by decide +kernel
theorem dX11_answer_55 : decode cX11_answer 55 = .ok (.iconst 1, 1) := by decide +kernel
theorem dX11_answer_56 : decode cX11_answer 56 = .ok (.iand, 1) := by decide +kernel
theorem dX11_answer_57 : decode cX11_answer 57 = .ok (.iconst 1, 1) := by decide +kernel
theorem dX11_answer_58 : decode cX11_answer 58 = .ok (.if_icmp .ne 23, 3) := by decide +kernel
theorem dX11_answer_61 : decode cX11_answer 61 = .ok (.aload_n 0, 1) := by decide +kernel
theorem dX11_answer_62 : decode cX11_answer 62 = .ok (.getfield 235, 3) := by decide +kernel
theorem dX11_answer_65 : decode cX11_answer 65 = .ok (.aload_n 1, 1) := by decide +kernel
theorem dX11_answer_66 : decode cX11_answer 66 = .ok (.aload_n 0, 1) := by decide +kernel
theorem dX11_answer_67 : decode cX11_answer 67 = .ok (.getfield 124, 3) := by decide +kernel
theorem dX11_answer_70 : decode cX11_answer 70 = .ok (.aload_n 0, 1) := by decide +kernel
theorem dX11_answer_71 : decode cX11_answer 71 = .ok (.getfield 269, 3) := by decide +kernel
theorem dX11_answer_74 : decode cX11_answer 74 = .ok (.aload_n 2, 1) := by decide +kernel
theorem dX11_answer_75 : decode cX11_answer 75 = .ok (.invokevirtual 550, 3) := by decide +kernel
theorem dX11_answer_78 : decode cX11_answer 78 = .ok (.goto 53, 3) := by decide +kernel
theorem dX11_answer_81 : decode cX11_answer 81 = .ok (.iload_n 3, 1) := by decide +kernel
theorem dX11_answer_82 : decode cX11_answer 82 = .ok (.bipush 27, 2) := by decide +kernel
theorem dX11_answer_84 : decode cX11_answer 84 = .ok (.if_icmp .eq 15, 3) := by decide +kernel
theorem dX11_answer_87 : decode cX11_answer 87 = .ok (.iload_n 3, 1) := by decide +kernel
theorem dX11_answer_88 : decode cX11_answer 88 = .ok (.bipush 29, 2) := by decide +kernel
theorem dX11_answer_90 : decode cX11_answer 90 = .ok (.if_icmp .eq 9, 3) := by decide +kernel
theorem dX11_answer_93 : decode cX11_answer 93 = .ok (.iload_n 3, 1) := by decide +kernel
theorem dX11_answer_94 : decode cX11_answer 94 = .ok (.bipush 30, 2) := by decide +kernel
theorem dX11_answer_96 : decode cX11_answer 96 = .ok (.if_icmp .ne 19, 3) := by decide +kernel
theorem dX11_answer_99 : decode cX11_answer 99 = .ok (.aload_n 0, 1) := by decide +kernel
theorem dX11_answer_100 : decode cX11_answer 100 = .ok (.getfield 124, 3) := by decide +kernel
theorem dX11_answer_103 : decode cX11_answer 103 = .ok (.aload_n 1, 1) := by decide +kernel
theorem dX11_answer_104 : decode cX11_answer 104 = .ok (.aload_n 0, 1) := by decide +kernel
theorem dX11_answer_105 : decode cX11_answer 105 = .ok (.getfield 269, 3) := by decide +kernel
theorem dX11_answer_108 : decode cX11_answer 108 = .ok (.aload_n 2, 1) := by decide +kernel
theorem dX11_answer_109 : decode cX11_answer 109 = .ok (.invokevirtual 554, 3) := by decide +kernel
theorem dX11_answer_112 : decode cX11_answer 112 = .ok (.goto 19, 3) := by decide +kernel
theorem dX11_answer_115 : decode cX11_answer 115 = .ok (.aload_n 0, 1) := by decide +kernel
theorem dX11_answer_116 : decode cX11_answer 116 = .ok (.getfield 124, 3) := by decide +kernel
theorem dX11_answer_119 : decode cX11_answer 119 = .ok (.aload_n 1, 1) := by decide +kernel
theorem dX11_answer_120 : decode cX11_answer 120 = .ok (.aload_n 0, 1) := by decide +kernel
theorem dX11_answer_121 : decode cX11_answer 121 = .ok (.getfield 183, 3) := by decide +kernel
theorem dX11_answer_124 : decode cX11_answer 124 = .ok (.getfield 192, 3) := by decide +kernel
theorem dX11_answer_127 : decode cX11_answer 127 = .ok (.aload_n 2, 1) := by decide +kernel
theorem dX11_answer_128 : decode cX11_answer 128 = .ok (.invokevirtual 558, 3) := by decide +kernel
theorem dX11_answer_131 : decode cX11_answer 131 = .ok (.aload_n 2, 1) := by decide +kernel
theorem dX11_answer_132 : decode cX11_answer 132 = .ok (.getfield 42, 3) := by decide +kernel
theorem dX11_answer_135 : decode cX11_answer 135 = .ok (.ifCond .le 18, 3) := by decide +kernel
theorem dX11_answer_138 : decode cX11_answer 138 = .ok (.aload_n 0, 1) := by decide +kernel
theorem dX11_answer_139 : decode cX11_answer 139 = .ok (.getfield 144, 3) := by decide +kernel
theorem dX11_answer_142 : decode cX11_answer 142 = .ok (.aload_n 0, 1) := by decide +kernel
theorem dX11_answer_143 : decode cX11_answer 143 = .ok (.getfield 144, 3) := by decide +kernel
theorem dX11_answer_146 : decode cX11_answer 146 = .ok (.getfield 543, 3) := by decide +kernel
theorem dX11_answer_149 : decode cX11_answer 149 = .ok (.aload_n 2, 1) := by decide +kernel
theorem dX11_answer_150 : decode cX11_answer 150 = .ok (.invokevirtual 232, 3) := by decide +kernel
theorem dX11_answer_153 : decode cX11_answer 153 = .ok (.return_, 1) := by decide +kernel
theorem dX11_obey_0 : decode cX11_obey 0 = .ok (.aload_n 1, 1) := by decide +kernel
theorem dX11_obey_1 : decode cX11_obey 1 = .ok (.iconst 0, 1) := by decide +kernel
theorem dX11_obey_2 : decode cX11_obey 2 = .ok (.invokevirtual 291, 3) := by decide +kernel
theorem dX11_obey_5 : decode cX11_obey 5 = .ok (.istore_n 2, 1) := by decide +kernel
theorem dX11_obey_6 : decode cX11_obey 6 = .ok (.iload_n 2, 1) := by decide +kernel
theorem dX11_obey_7 : decode cX11_obey 7 = .ok (.iconst 3, 1) := by decide +kernel
theorem dX11_obey_8 : decode cX11_obey 8 = .ok (.if_icmp .lt 9, 3) := by decide +kernel
theorem dX11_obey_11 : decode cX11_obey 11 = .ok (.iload_n 2, 1) := by decide +kernel
theorem dX11_obey_12 : decode cX11_obey 12 = .ok (.bipush 6, 2) := by decide +kernel
theorem dX11_obey_14 : decode cX11_obey 14 = .ok (.if_icmp .le 9, 3) := by decide +kernel
theorem dX11_obey_17 : decode cX11_obey 17 = .ok (.iload_n 2, 1) := by decide +kernel
theorem dX11_obey_18 : decode cX11_obey 18 = .ok (.bipush 13, 2) := by decide +kernel
theorem dX11_obey_20 : decode cX11_obey 20 = .ok (.if_icmp .ne 7, 3) := by decide +kernel
theorem dX11_obey_23 : decode cX11_obey 23 = .ok (.iconst 1, 1) := by decide +kernel
theorem dX11_obey_24 : decode cX11_obey 24 = .ok (.goto 4, 3) := by decide +kernel
theorem dX11_obey_27 : decode cX11_obey 27 = .ok (.iconst 0, 1) := by decide +kernel
theorem dX11_obey_28 : decode cX11_obey 28 = .ok (.istore_n 3, 1) := by decide +kernel
theorem dX11_obey_29 : decode cX11_obey 29 = .ok (.aload_n 0, 1) := by decide +kernel
theorem dX11_obey_30 : decode cX11_obey 30 = .ok (.getfield 144, 3) := by decide +kernel
theorem dX11_obey_33 : decode cX11_obey 33 = .ok (.getfield 367, 3) := by decide +kernel
theorem dX11_obey_36 : decode cX11_obey 36 = .ok (.iconst 4, 1) := by decide +kernel
theorem dX11_obey_37 : decode cX11_obey 37 = .ok (.if_icmp .gt 22, 3) := by decide +kernel
theorem dX11_obey_40 : decode cX11_obey 40 = .ok (.aload_n 0, 1) := by decide +kernel
theorem dX11_obey_41 : decode cX11_obey 41 = .ok (.getfield 183, 3) := by decide +kernel
theorem dX11_obey_44 : decode cX11_obey 44 = .ok (.getfield 195, 3) := by decide +kernel
theorem dX11_obey_47 : decode cX11_obey 47 = .ok (.ifCond .eq 13, 3) := by decide +kernel
theorem dX11_obey_50 : decode cX11_obey 50 = .ok (.iload_n 3, 1) := by decide +kernel
theorem dX11_obey_51 : decode cX11_obey 51 = .ok (.ifCond .ne 9, 3) := by decide +kernel
theorem dX11_obey_54 : decode cX11_obey 54 = .ok (.iload_n 2, 1) := by decide +kernel
theorem dX11_obey_55 : decode cX11_obey 55 = .ok (.iconst 2, 1) := by decide +kernel
theorem dX11_obey_56 : decode cX11_obey 56 = .ok (.if_icmp .eq 4, 3) := by decide +kernel
theorem dX11_obey_59 : decode cX11_obey 59 = .ok (.return_, 1) := by decide +kernel
theorem dX11_obey_60 : decode cX11_obey 60 = .ok (.aload_n 1, 1) := by decide +kernel
theorem dX11_obey_61 : decode cX11_obey 61 = .ok (.getfield 42, 3) := by decide +kernel
theorem dX11_obey_64 : decode cX11_obey 64 = .ok (.iload_n 2, 1) := by decide +kernel
theorem dX11_obey_65 : decode cX11_obey 65 = .ok (.invokestatic 562, 3) := by decide +kernel
theorem dX11_obey_68 : decode cX11_obey 68 = .ok (.if_icmp .ne 23, 3) := by decide +kernel
theorem dX11_obey_71 : decode cX11_obey 71 = .ok (.iload_n 2, 1) := by decide +kernel
theorem dX11_obey_72 : decode cX11_obey 72 = .ok (.aload_n 0, 1) := by decide +kernel
theorem dX11_obey_73 : decode cX11_obey 73 = .ok (.getfield 59, 3) := by decide +kernel
theorem dX11_obey_76 : decode cX11_obey 76 = .ok (.iconst 4, 1) := by decide +kernel
theorem dX11_obey_77 : decode cX11_obey 77 = .ok (.if_icmp .ne 7, 3) := by decide +kernel
theorem dX11_obey_80 : decode cX11_obey 80 = .ok (.iconst 1, 1) := by decide +kernel
theorem dX11_obey_81 : decode cX11_obey 81 = .ok (.goto 4, 3) := by decide +kernel
theorem dX11_obey_84 : decode cX11_obey 84 = .ok (.iconst 0, 1) := by decide +kernel
theorem dX11_obey_85 : decode cX11_obey 85 = .ok (.invokestatic 565, 3) := by decide +kernel
theorem dX11_obey_88 : decode cX11_obey 88 = .ok (.ifCond .ne 23, 3) := by decide +kernel
theorem dX11_obey_91 : decode cX11_obey 91 = .ok (.iload_n 2, 1) := by decide +kernel
theorem dX11_obey_92 : decode cX11_obey 92 = .ok (.bipush 7, 2) := by decide +kernel
theorem dX11_obey_94 : decode cX11_obey 94 = .ok (.if_icmp .eq 16, 3) := by decide +kernel
theorem dX11_obey_97 : decode cX11_obey 97 = .ok (.aload_n 0, 1) := by decide +kernel
theorem dX11_obey_98 : decode cX11_obey 98 = .ok (.getfield 144, 3) := by decide +kernel
theorem dX11_obey_101 : decode cX11_obey 101 = .ok (.bipush 7, 2) := by decide +kernel
theorem dX11_obey_103 : decode cX11_obey 103 = .ok (.invokevirtual 157, 3) := by decide +kernel
theorem dX11_obey_106 : decode cX11_obey 106 = .ok (.iload_n 2, 1) := by decide +kernel
theorem dX11_obey_107 : decode cX11_obey 107 = .ok (.invokevirtual 164, 3) := by decide +kernel
theorem dX11_obey_110 : decode cX11_obey 110 = .ok (.return_, 1) := by decide +kernel
theorem dX11_obey_111 : decode cX11_obey 111 = .ok (.iload_n 3, 1) := by decide +kernel
theorem dX11_obey_112 : decode cX11_obey 112 = .ok (.ifCond .ne 12, 3) := by decide +kernel
theorem dX11_obey_115 : decode cX11_obey 115 = .ok (.aload_n 0, 1) := by decide +kernel
theorem dX11_obey_116 : decode cX11_obey 116 = .ok (.iload_n 2, 1) := by decide +kernel
theorem dX11_obey_117 : decode cX11_obey 117 = .ok (.aload_n 1, 1) := by decide +kernel
theorem dX11_obey_118 : decode cX11_obey 118 = .ok (.invokestatic 569, 3) := by decide +kernel
theorem dX11_obey_121 : decode cX11_obey 121 = .ok (.goto 19, 3) := by decide +kernel
theorem dX11_obey_124 : decode cX11_obey 124 = .ok (.aload_n 0, 1) := by decide +kernel
theorem dX11_obey_125 : decode cX11_obey 125 = .ok (.getfield 183, 3) := by decide +kernel
theorem dX11_obey_128 : decode cX11_obey 128 = .ok (.getfield 192, 3) := by decide +kernel
theorem dX11_obey_131 : decode cX11_obey 131 = .ok (.ifCond .ne 9, 3) := by decide +kernel
theorem dX11_obey_134 : decode cX11_obey 134 = .ok (.aload_n 0, 1) := by decide +kernel
theorem dX11_obey_135 : decode cX11_obey 135 = .ok (.iload_n 2, 1) := by decide +kernel
theorem dX11_obey_136 : decode cX11_obey 136 = .ok (.aload_n 1, 1) := by decide +kernel
theorem dX11_obey_137 : decode cX11_obey 137 = .ok (.invokestatic 573, 3) := by decide +kernel
theorem dX11_obey_140 : decode cX11_obey 140 = .ok (.return_, 1) := by decide +kernel
theorem dX11_controlSize_0 : decode cX11_controlSize 0 = .ok (.iload_n 0, 1) := by decide +kernel
theorem dX11_controlSize_1 : decode cX11_controlSize 1 = .ok (.tableswitch 95 1 13 #[67, 70, 72, 75, 78, 80, 82, 84, 87, 95, 95, 90, 93], 67) := by decide +kernel
theorem dX11_controlSize_68 : decode cX11_controlSize 68 = .ok (.bipush 8, 2) := by decide +kernel
theorem dX11_controlSize_70 : decode cX11_controlSize 70 = .ok (.ireturn, 1) := by decide +kernel
theorem dX11_controlSize_71 : decode cX11_controlSize 71 = .ok (.iconst 2, 1) := by decide +kernel
theorem dX11_controlSize_72 : decode cX11_controlSize 72 = .ok (.ireturn, 1) := by decide +kernel
theorem dX11_controlSize_73 : decode cX11_controlSize 73 = .ok (.bipush 13, 2) := by decide +kernel
theorem dX11_controlSize_75 : decode cX11_controlSize 75 = .ok (.ireturn, 1) := by decide +kernel
theorem dX11_controlSize_76 : decode cX11_controlSize 76 = .ok (.bipush 13, 2) := by decide +kernel
theorem dX11_controlSize_78 : decode cX11_controlSize 78 = .ok (.ireturn, 1) := by decide +kernel
theorem dX11_controlSize_79 : decode cX11_controlSize 79 = .ok (.iconst 1, 1) := by decide +kernel
theorem dX11_controlSize_80 : decode cX11_controlSize 80 = .ok (.ireturn, 1) := by decide +kernel
theorem dX11_controlSize_81 : decode cX11_controlSize 81 = .ok (.iconst 1, 1) := by decide +kernel
theorem dX11_controlSize_82 : decode cX11_controlSize 82 = .ok (.ireturn, 1) := by decide +kernel
theorem dX11_controlSize_83 : decode cX11_controlSize 83 = .ok (.iconst 2, 1) := by decide +kernel
theorem dX11_controlSize_84 : decode cX11_controlSize 84 = .ok (.ireturn, 1) := by decide +kernel
theorem dX11_controlSize_85 : decode cX11_controlSize 85 = .ok (.bipush 9, 2) := by decide +kernel
theorem dX11_controlSize_87 : decode cX11_controlSize 87 = .ok (.ireturn, 1) := by decide +kernel
theorem dX11_controlSize_88 : decode cX11_controlSize 88 = .ok (.bipush 9, 2) := by decide +kernel
theorem dX11_controlSize_90 : decode cX11_controlSize 90 = .ok (.ireturn, 1) := by decide +kernel
theorem dX11_controlSize_91 : decode cX11_controlSize 91 = .ok (.bipush 6, 2) := by decide +kernel
theorem dX11_controlSize_93 : decode cX11_controlSize 93 = .ok (.ireturn, 1) := by decide +kernel
theorem dX11_controlSize_94 : decode cX11_controlSize 94 = .ok (.iconst 2, 1) := by decide +kernel
theorem dX11_controlSize_95 : decode cX11_controlSize 95 = .ok (.ireturn, 1) := by decide +kernel
theorem dX11_controlSize_96 : decode cX11_controlSize 96 = .ok (.iconst (-1), 1) := by decide +kernel
theorem dX11_controlSize_97 : decode cX11_controlSize 97 = .ok (.ireturn, 1) := by decide +kernel
theorem dX11_isForRole_0 : decode cX11_isForRole 0 = .ok (.iload_n 1, 1) := by decide +kernel
theorem dX11_isForRole_1 : decode cX11_isForRole 1 = .ok (.ifCond .eq 19, 3) := by decide +kernel
theorem dX11_isForRole_4 : decode cX11_isForRole 4 = .ok (.iload_n 0, 1) := by decide +kernel
theorem dX11_isForRole_5 : decode cX11_isForRole 5 = .ok (.iconst 1, 1) := by decide +kernel
theorem dX11_isForRole_6 : decode cX11_isForRole 6 = .ok (.if_icmp .eq 12, 3) := by decide +kernel
theorem dX11_isForRole_9 : decode cX11_isForRole 9 = .ok (.iload_n 0, 1) := by decide +kernel
theorem dX11_isForRole_10 : decode cX11_isForRole 10 = .ok (.iconst 3, 1) := by decide +kernel
theorem dX11_isForRole_11 : decode cX11_isForRole 11 = .ok (.if_icmp .eq 7, 3) := by decide +kernel
theorem dX11_isForRole_14 : decode cX11_isForRole 14 = .ok (.iconst 1, 1) := by decide +kernel
theorem dX11_isForRole_15 : decode cX11_isForRole 15 = .ok (.goto 4, 3) := by decide +kernel
theorem dX11_isForRole_18 : decode cX11_isForRole 18 = .ok (.iconst 0, 1) := by decide +kernel
theorem dX11_isForRole_19 : decode cX11_isForRole 19 = .ok (.ireturn, 1) := by decide +kernel
theorem dX11_isForRole_20 : decode cX11_isForRole 20 = .ok (.iload_n 0, 1) := by decide +kernel
theorem dX11_isForRole_21 : decode cX11_isForRole 21 = .ok (.iconst 4, 1) := by decide +kernel
theorem dX11_isForRole_22 : decode cX11_isForRole 22 = .ok (.if_icmp .eq 18, 3) := by decide +kernel
theorem dX11_isForRole_25 : decode cX11_isForRole 25 = .ok (.iload_n 0, 1) := by decide +kernel
theorem dX11_isForRole_26 : decode cX11_isForRole 26 = .ok (.iconst 5, 1) := by decide +kernel
theorem dX11_isForRole_27 : decode cX11_isForRole 27 = .ok (.if_icmp .eq 13, 3) := by decide +kernel
theorem dX11_isForRole_30 : decode cX11_isForRole 30 = .ok (.iload_n 0, 1) := by decide +kernel
theorem dX11_isForRole_31 : decode cX11_isForRole 31 = .ok (.bipush 13, 2) := by decide +kernel
theorem dX11_isForRole_33 : decode cX11_isForRole 33 = .ok (.if_icmp .eq 7, 3) := by decide +kernel
theorem dX11_isForRole_36 : decode cX11_isForRole 36 = .ok (.iconst 1, 1) := by decide +kernel
theorem dX11_isForRole_37 : decode cX11_isForRole 37 = .ok (.goto 4, 3) := by decide +kernel
theorem dX11_isForRole_40 : decode cX11_isForRole 40 = .ok (.iconst 0, 1) := by decide +kernel
theorem dX11_isForRole_41 : decode cX11_isForRole 41 = .ok (.ireturn, 1) := by decide +kernel
theorem dX11_obeyLinkControl_0 : decode cX11_obeyLinkControl 0 = .ok (.iload_n 1, 1) := by decide +kernel
theorem dX11_obeyLinkControl_1 : decode cX11_obeyLinkControl 1 = .ok (.tableswitch 213 1 12 #[63, 85, 213, 213, 213, 213, 111, 130, 151, 213, 213, 169], 63) := by decide +kernel
theorem dX11_obeyLinkControl_64 : decode cX11_obeyLinkControl 64 = .ok (.aload_n 0, 1) := by decide +kernel
theorem dX11_obeyLinkControl_65 : decode cX11_obeyLinkControl 65 = .ok (.getfield 87, 3) := by decide +kernel
theorem dX11_obeyLinkControl_68 : decode cX11_obeyLinkControl 68 = .ok (.aload_n 2, 1) := by decide +kernel
theorem dX11_obeyLinkControl_69 : decode cX11_obeyLinkControl 69 = .ok (.iconst 1, 1) := by decide +kernel
theorem dX11_obeyLinkControl_70 : decode cX11_obeyLinkControl 70 = .ok (.iconst 5, 1) := by decide +kernel
theorem dX11_obeyLinkControl_71 : decode cX11_obeyLinkControl 71 = .ok (.invokevirtual 449, 3) := by decide +kernel
theorem dX11_obeyLinkControl_74 : decode cX11_obeyLinkControl 74 = .ok (.aload_n 2, 1) := by decide +kernel
theorem dX11_obeyLinkControl_75 : decode cX11_obeyLinkControl 75 = .ok (.bipush 6, 2) := by decide +kernel
theorem dX11_obeyLinkControl_77 : decode cX11_obeyLinkControl 77 = .ok (.invokevirtual 576, 3) := by decide +kernel
theorem dX11_obeyLinkControl_80 : decode cX11_obeyLinkControl 80 = .ok (.invokevirtual 579, 3) := by decide +kernel
theorem dX11_obeyLinkControl_83 : decode cX11_obeyLinkControl 83 = .ok (.goto 131, 3) := by decide +kernel
theorem dX11_obeyLinkControl_86 : decode cX11_obeyLinkControl 86 = .ok (.aload_n 0, 1) := by decide +kernel
theorem dX11_obeyLinkControl_87 : decode cX11_obeyLinkControl 87 = .ok (.getfield 87, 3) := by decide +kernel
theorem dX11_obeyLinkControl_90 : decode cX11_obeyLinkControl 90 = .ok (.getfield 499, 3) := by decide +kernel
theorem dX11_obeyLinkControl_93 : decode cX11_obeyLinkControl 93 = .ok (.iconst (-1), 1) := by decide +kernel
theorem dX11_obeyLinkControl_94 : decode cX11_obeyLinkControl 94 = .ok (.if_icmp .ne 120, 3) := by decide +kernel
theorem dX11_obeyLinkControl_97 : decode cX11_obeyLinkControl 97 = .ok (.aload_n 0, 1) := by decide +kernel
theorem dX11_obeyLinkControl_98 : decode cX11_obeyLinkControl 98 = .ok (.getfield 87, 3) := by decide +kernel
theorem dX11_obeyLinkControl_101 : decode cX11_obeyLinkControl 101 = .ok (.aload_n 2, 1) := by decide +kernel
theorem dX11_obeyLinkControl_102 : decode cX11_obeyLinkControl 102 = .ok (.iconst 1, 1) := by decide +kernel
theorem dX11_obeyLinkControl_103 : decode cX11_obeyLinkControl 103 = .ok (.invokevirtual 291, 3) := by decide +kernel
theorem dX11_obeyLinkControl_106 : decode cX11_obeyLinkControl 106 = .ok (.putfield 499, 3) := by decide +kernel
theorem dX11_obeyLinkControl_109 : decode cX11_obeyLinkControl 109 = .ok (.goto 105, 3) := by decide +kernel
theorem dX11_obeyLinkControl_112 : decode cX11_obeyLinkControl 112 = .ok (.aload_n 0, 1) := by decide +kernel
theorem dX11_obeyLinkControl_113 : decode cX11_obeyLinkControl 113 = .ok (.getfield 269, 3) := by decide +kernel
theorem dX11_obeyLinkControl_116 : decode cX11_obeyLinkControl 116 = .ok (.bipush 19, 2) := by decide +kernel
theorem dX11_obeyLinkControl_118 : decode cX11_obeyLinkControl 118 = .ok (.aload_n 2, 1) := by decide +kernel
theorem dX11_obeyLinkControl_119 : decode cX11_obeyLinkControl 119 = .ok (.iconst 1, 1) := by decide +kernel
theorem dX11_obeyLinkControl_120 : decode cX11_obeyLinkControl 120 = .ok (.invokevirtual 291, 3) := by decide +kernel
theorem dX11_obeyLinkControl_123 : decode cX11_obeyLinkControl 123 = .ok (.iconst 0, 1) := by decide +kernel
theorem dX11_obeyLinkControl_124 : decode cX11_obeyLinkControl 124 = .ok (.iconst 0, 1) := by decide +kernel
theorem dX11_obeyLinkControl_125 : decode cX11_obeyLinkControl 125 = .ok (.invokevirtual 582, 3) := by decide +kernel
theorem dX11_obeyLinkControl_128 : decode cX11_obeyLinkControl 128 = .ok (.goto 86, 3) := by decide +kernel
theorem dX11_obeyLinkControl_131 : decode cX11_obeyLinkControl 131 = .ok (.aload_n 0, 1) := by decide +kernel
theorem dX11_obeyLinkControl_132 : decode cX11_obeyLinkControl 132 = .ok (.getfield 144, 3) := by decide +kernel
theorem dX11_obeyLinkControl_135 : decode cX11_obeyLinkControl 135 = .ok (.bipush 9, 2) := by decide +kernel
theorem dX11_obeyLinkControl_137 : decode cX11_obeyLinkControl 137 = .ok (.invokevirtual 157, 3) := by decide +kernel
theorem dX11_obeyLinkControl_140 : decode cX11_obeyLinkControl 140 = .ok (.aload_n 0, 1) := by decide +kernel
theorem dX11_obeyLinkControl_141 : decode cX11_obeyLinkControl 141 = .ok (.getfield 120, 3) := by decide +kernel
theorem dX11_obeyLinkControl_144 : decode cX11_obeyLinkControl 144 = .ok (.bipush 8, 2) := by decide +kernel
theorem dX11_obeyLinkControl_146 : decode cX11_obeyLinkControl 146 = .ok (.invokevirtual 160, 3) := by decide +kernel
theorem dX11_obeyLinkControl_149 : decode cX11_obeyLinkControl 149 = .ok (.goto 65, 3) := by decide +kernel
theorem dX11_obeyLinkControl_152 : decode cX11_obeyLinkControl 152 = .ok (.aload_n 0, 1) := by decide +kernel
theorem dX11_obeyLinkControl_153 : decode cX11_obeyLinkControl 153 = .ok (.getfield 269, 3) := by decide +kernel
theorem dX11_obeyLinkControl_156 : decode cX11_obeyLinkControl 156 = .ok (.bipush 15, 2) := by decide +kernel
theorem dX11_obeyLinkControl_158 : decode cX11_obeyLinkControl 158 = .ok (.iconst 0, 1) := by decide +kernel
theorem dX11_obeyLinkControl_159 : decode cX11_obeyLinkControl 159 = .ok (.iconst 0, 1) := by decide +kernel
theorem dX11_obeyLinkControl_160 : decode cX11_obeyLinkControl 160 = .ok (.aload_n 2, 1) := by decide +kernel
theorem dX11_obeyLinkControl_161 : decode cX11_obeyLinkControl 161 = .ok (.iconst 1, 1) := by decide +kernel
theorem dX11_obeyLinkControl_162 : decode cX11_obeyLinkControl 162 = .ok (.bipush 8, 2) := by decide +kernel
theorem dX11_obeyLinkControl_164 : decode cX11_obeyLinkControl 164 = .ok (.invokevirtual 586, 3) := by decide +kernel
theorem dX11_obeyLinkControl_167 : decode cX11_obeyLinkControl 167 = .ok (.goto 47, 3) := by decide +kernel
theorem dX11_obeyLinkControl_170 : decode cX11_obeyLinkControl 170 = .ok (.aload_n 0, 1) := by decide +kernel
theorem dX11_obeyLinkControl_171 : decode cX11_obeyLinkControl 171 = .ok (.getfield 269, 3) := by decide +kernel
theorem dX11_obeyLinkControl_174 : decode cX11_obeyLinkControl 174 = .ok (.bipush 14, 2) := by decide +kernel
theorem dX11_obeyLinkControl_176 : decode cX11_obeyLinkControl 176 = .ok (.aload_n 2, 1) := by decide +kernel
theorem dX11_obeyLinkControl_177 : decode cX11_obeyLinkControl 177 = .ok (.iconst 1, 1) := by decide +kernel
theorem dX11_obeyLinkControl_178 : decode cX11_obeyLinkControl 178 = .ok (.invokevirtual 291, 3) := by decide +kernel
theorem dX11_obeyLinkControl_181 : decode cX11_obeyLinkControl 181 = .ok (.aload_n 2, 1) := by decide +kernel
theorem dX11_obeyLinkControl_182 : decode cX11_obeyLinkControl 182 = .ok (.iconst 2, 1) := by decide +kernel
theorem dX11_obeyLinkControl_183 : decode cX11_obeyLinkControl 183 = .ok (.invokevirtual 576, 3) := by decide +kernel
theorem dX11_obeyLinkControl_186 : decode cX11_obeyLinkControl 186 = .ok (.aload_n 2, 1) := by decide +kernel
theorem dX11_obeyLinkControl_187 : decode cX11_obeyLinkControl 187 = .ok (.iconst 4, 1) := by decide +kernel
theorem dX11_obeyLinkControl_188 : decode cX11_obeyLinkControl 188 = .ok (.invokevirtual 576, 3) := by decide +kernel
theorem dX11_obeyLinkControl_191 : decode cX11_obeyLinkControl 191 = .ok (.invokevirtual 582, 3) := by decide +kernel
theorem dX11_obeyLinkControl_194 : decode cX11_obeyLinkControl 194 = .ok (.aload_n 0, 1) := by decide +kernel
theorem dX11_obeyLinkControl_195 : decode cX11_obeyLinkControl 195 = .ok (.getfield 144, 3) := by decide +kernel
theorem dX11_obeyLinkControl_198 : decode cX11_obeyLinkControl 198 = .ok (.getfield 148, 3) := by decide +kernel
theorem dX11_obeyLinkControl_201 : decode cX11_obeyLinkControl 201 = .ok (.ifCond .ne 13, 3) := by decide +kernel
theorem dX11_obeyLinkControl_204 : decode cX11_obeyLinkControl 204 = .ok (.aload_n 0, 1) := by decide +kernel
theorem dX11_obeyLinkControl_205 : decode cX11_obeyLinkControl 205 = .ok (.getfield 144, 3) := by decide +kernel
theorem dX11_obeyLinkControl_208 : decode cX11_obeyLinkControl 208 = .ok (.invokevirtual 154, 3) := by decide +kernel
theorem dX11_obeyLinkControl_211 : decode cX11_obeyLinkControl 211 = .ok (.goto 3, 3) := by decide +kernel
theorem dX11_obeyLinkControl_214 : decode cX11_obeyLinkControl 214 = .ok (.return_, 1) := by decide +kernel
theorem dX11_obeyCipherControl_0 : decode cX11_obeyCipherControl 0 = .ok (.aload_n 0, 1) := by decide +kernel
theorem dX11_obeyCipherControl_1 : decode cX11_obeyCipherControl 1 = .ok (.getfield 183, 3) := by decide +kernel
theorem dX11_obeyCipherControl_4 : decode cX11_obeyCipherControl 4 = .ok (.astore_n 3, 1) := by decide +kernel
theorem dX11_obeyCipherControl_5 : decode cX11_obeyCipherControl 5 = .ok (.iload_n 1, 1) := by decide +kernel
theorem dX11_obeyCipherControl_6 : decode cX11_obeyCipherControl 6 = .ok (.tableswitch 140 3 6 #[30, 38, 58, 86], 30) := by decide +kernel
theorem dX11_obeyCipherControl_36 : decode cX11_obeyCipherControl 36 = .ok (.aload_n 0, 1) := by decide +kernel
theorem dX11_obeyCipherControl_37 : decode cX11_obeyCipherControl 37 = .ok (.aload_n 2, 1) := by decide +kernel
theorem dX11_obeyCipherControl_38 : decode cX11_obeyCipherControl 38 = .ok (.invokestatic 590, 3) := by decide +kernel
theorem dX11_obeyCipherControl_41 : decode cX11_obeyCipherControl 41 = .ok (.goto 138, 3) := by decide +kernel
theorem dX11_obeyCipherControl_44 : decode cX11_obeyCipherControl 44 = .ok (.aload_n 3, 1) := by decide +kernel
theorem dX11_obeyCipherControl_45 : decode cX11_obeyCipherControl 45 = .ok (.getfield 198, 3) := by decide +kernel
theorem dX11_obeyCipherControl_48 : decode cX11_obeyCipherControl 48 = .ok (.ifCond .eq 131, 3) := by decide +kernel
theorem dX11_obeyCipherControl_51 : decode cX11_obeyCipherControl 51 = .ok (.aload_n 3, 1) := by decide +kernel
theorem dX11_obeyCipherControl_52 : decode cX11_obeyCipherControl 52 = .ok (.aload_n 2, 1) := by decide +kernel
theorem dX11_obeyCipherControl_53 : decode cX11_obeyCipherControl 53 = .ok (.iconst 1, 1) := by decide +kernel
theorem dX11_obeyCipherControl_54 : decode cX11_obeyCipherControl 54 = .ok (.invokevirtual 593, 3) := by decide +kernel
theorem dX11_obeyCipherControl_57 : decode cX11_obeyCipherControl 57 = .ok (.aload_n 3, 1) := by decide +kernel
theorem dX11_obeyCipherControl_58 : decode cX11_obeyCipherControl 58 = .ok (.invokevirtual 596, 3) := by decide +kernel
theorem dX11_obeyCipherControl_61 : decode cX11_obeyCipherControl 61 = .ok (.goto 118, 3) := by decide +kernel
theorem dX11_obeyCipherControl_64 : decode cX11_obeyCipherControl 64 = .ok (.aload_n 3, 1) := by decide +kernel
theorem dX11_obeyCipherControl_65 : decode cX11_obeyCipherControl 65 = .ok (.getfield 201, 3) := by decide +kernel
theorem dX11_obeyCipherControl_68 : decode cX11_obeyCipherControl 68 = .ok (.ifCond .eq 111, 3) := by decide +kernel
theorem dX11_obeyCipherControl_71 : decode cX11_obeyCipherControl 71 = .ok (.aload_n 3, 1) := by decide +kernel
theorem dX11_obeyCipherControl_72 : decode cX11_obeyCipherControl 72 = .ok (.invokevirtual 599, 3) := by decide +kernel
theorem dX11_obeyCipherControl_75 : decode cX11_obeyCipherControl 75 = .ok (.aload_n 3, 1) := by decide +kernel
theorem dX11_obeyCipherControl_76 : decode cX11_obeyCipherControl 76 = .ok (.invokevirtual 602, 3) := by decide +kernel
theorem dX11_obeyCipherControl_79 : decode cX11_obeyCipherControl 79 = .ok (.aload_n 0, 1) := by decide +kernel
theorem dX11_obeyCipherControl_80 : decode cX11_obeyCipherControl 80 = .ok (.getfield 144, 3) := by decide +kernel
theorem dX11_obeyCipherControl_83 : decode cX11_obeyCipherControl 83 = .ok (.bipush 6, 2) := by decide +kernel
theorem dX11_obeyCipherControl_85 : decode cX11_obeyCipherControl 85 = .ok (.invokevirtual 157, 3) := by decide +kernel
theorem dX11_obeyCipherControl_88 : decode cX11_obeyCipherControl 88 = .ok (.pop, 1) := by decide +kernel
theorem dX11_obeyCipherControl_89 : decode cX11_obeyCipherControl 89 = .ok (.goto 90, 3) := by decide +kernel
theorem dX11_obeyCipherControl_92 : decode cX11_obeyCipherControl 92 = .ok (.aload_n 3, 1) := by decide +kernel
theorem dX11_obeyCipherControl_93 : decode cX11_obeyCipherControl 93 = .ok (.getfield 522, 3) := by decide +kernel
theorem dX11_obeyCipherControl_96 : decode cX11_obeyCipherControl 96 = .ok (.ifCond .eq 83, 3) := by decide +kernel
theorem dX11_obeyCipherControl_99 : decode cX11_obeyCipherControl 99 = .ok (.aload_n 0, 1) := by decide +kernel
theorem dX11_obeyCipherControl_100 : decode cX11_obeyCipherControl 100 = .ok (.getfield 59, 3) := by decide +kernel
theorem dX11_obeyCipherControl_103 : decode cX11_obeyCipherControl 103 = .ok (.iconst 5, 1) := by decide +kernel
theorem dX11_obeyCipherControl_104 : decode cX11_obeyCipherControl 104 = .ok (.if_icmp .ne 17, 3) := by decide +kernel
theorem dX11_obeyCipherControl_107 : decode cX11_obeyCipherControl 107 = .ok (.aload_n 3, 1) := by decide +kernel
theorem dX11_obeyCipherControl_108 : decode cX11_obeyCipherControl 108 = .ok (.invokevirtual 599, 3) := by decide +kernel
theorem dX11_obeyCipherControl_111 : decode cX11_obeyCipherControl 111 = .ok (.aload_n 0, 1) := by decide +kernel
theorem dX11_obeyCipherControl_112 : decode cX11_obeyCipherControl 112 = .ok (.getfield 144, 3) := by decide +kernel
theorem dX11_obeyCipherControl_115 : decode cX11_obeyCipherControl 115 = .ok (.bipush 6, 2) := by decide +kernel
theorem dX11_obeyCipherControl_117 : decode cX11_obeyCipherControl 117 = .ok (.invokevirtual 157, 3) := by decide +kernel
theorem dX11_obeyCipherControl_120 : decode cX11_obeyCipherControl 120 = .ok (.pop, 1) := by decide +kernel
theorem dX11_obeyCipherControl_121 : decode cX11_obeyCipherControl 121 = .ok (.aload_n 3, 1) := by decide +kernel
theorem dX11_obeyCipherControl_122 : decode cX11_obeyCipherControl 122 = .ok (.iconst 1, 1) := by decide +kernel
theorem dX11_obeyCipherControl_123 : decode cX11_obeyCipherControl 123 = .ok (.putfield 192, 3) := by decide +kernel
theorem dX11_obeyCipherControl_126 : decode cX11_obeyCipherControl 126 = .ok (.aload_n 3, 1) := by decide +kernel
theorem dX11_obeyCipherControl_127 : decode cX11_obeyCipherControl 127 = .ok (.iconst 0, 1) := by decide +kernel
theorem dX11_obeyCipherControl_128 : decode cX11_obeyCipherControl 128 = .ok (.putfield 195, 3) := by decide +kernel
theorem dX11_obeyCipherControl_131 : decode cX11_obeyCipherControl 131 = .ok (.aload_n 0, 1) := by decide +kernel
theorem dX11_obeyCipherControl_132 : decode cX11_obeyCipherControl 132 = .ok (.getfield 269, 3) := by decide +kernel
theorem dX11_obeyCipherControl_135 : decode cX11_obeyCipherControl 135 = .ok (.bipush 12, 2) := by decide +kernel
theorem dX11_obeyCipherControl_137 : decode cX11_obeyCipherControl 137 = .ok (.iconst 0, 1) := by decide +kernel
theorem dX11_obeyCipherControl_138 : decode cX11_obeyCipherControl 138 = .ok (.iconst 0, 1) := by decide +kernel
theorem dX11_obeyCipherControl_139 : decode cX11_obeyCipherControl 139 = .ok (.iconst 0, 1) := by decide +kernel
theorem dX11_obeyCipherControl_140 : decode cX11_obeyCipherControl 140 = .ok (.invokevirtual 582, 3) := by decide +kernel
theorem dX11_obeyCipherControl_143 : decode cX11_obeyCipherControl 143 = .ok (.goto 36, 3) := by decide +kernel
theorem dX11_obeyCipherControl_146 : decode cX11_obeyCipherControl 146 = .ok (.aload_n 3, 1) := by decide +kernel
theorem dX11_obeyCipherControl_147 : decode cX11_obeyCipherControl 147 = .ok (.getfield 198, 3) := by decide +kernel
theorem dX11_obeyCipherControl_150 : decode cX11_obeyCipherControl 150 = .ok (.ifCond .eq 29, 3) := by decide +kernel
theorem dX11_obeyCipherControl_153 : decode cX11_obeyCipherControl 153 = .ok (.aload_n 3, 1) := by decide +kernel
theorem dX11_obeyCipherControl_154 : decode cX11_obeyCipherControl 154 = .ok (.iconst 0, 1) := by decide +kernel
theorem dX11_obeyCipherControl_155 : decode cX11_obeyCipherControl 155 = .ok (.putfield 198, 3) := by decide +kernel
theorem dX11_obeyCipherControl_158 : decode cX11_obeyCipherControl 158 = .ok (.aload_n 3, 1) := by decide +kernel
theorem dX11_obeyCipherControl_159 : decode cX11_obeyCipherControl 159 = .ok (.iconst 0, 1) := by decide +kernel
theorem dX11_obeyCipherControl_160 : decode cX11_obeyCipherControl 160 = .ok (.putfield 195, 3) := by decide +kernel
theorem dX11_obeyCipherControl_163 : decode cX11_obeyCipherControl 163 = .ok (.aload_n 0, 1) := by decide +kernel
theorem dX11_obeyCipherControl_164 : decode cX11_obeyCipherControl 164 = .ok (.getfield 269, 3) := by decide +kernel
theorem dX11_obeyCipherControl_167 : decode cX11_obeyCipherControl 167 = .ok (.bipush 13, 2) := by decide +kernel
theorem dX11_obeyCipherControl_169 : decode cX11_obeyCipherControl 169 = .ok (.aload_n 2, 1) := by decide +kernel
theorem dX11_obeyCipherControl_170 : decode cX11_obeyCipherControl 170 = .ok (.iconst 1, 1) := by decide +kernel
theorem dX11_obeyCipherControl_171 : decode cX11_obeyCipherControl 171 = .ok (.invokevirtual 291, 3) := by decide +kernel
theorem dX11_obeyCipherControl_174 : decode cX11_obeyCipherControl 174 = .ok (.iconst 0, 1) := by decide +kernel
theorem dX11_obeyCipherControl_175 : decode cX11_obeyCipherControl 175 = .ok (.iconst 0, 1) := by decide +kernel
theorem dX11_obeyCipherControl_176 : decode cX11_obeyCipherControl 176 = .ok (.invokevirtual 582, 3) := by decide +kernel
theorem dX11_obeyCipherControl_179 : decode cX11_obeyCipherControl 179 = .ok (.return_, 1) := by decide +kernel
theorem dX11_answerSessionRequest_0 : decode cX11_answerSessionRequest 0 = .ok (.aload_n 0, 1) := by decide +kernel
theorem dX11_answerSessionRequest_1 : decode cX11_answerSessionRequest 1 = .ok (.getfield 183, 3) := by decide +kernel
theorem dX11_answerSessionRequest_4 : decode cX11_answerSessionRequest 4 = .ok (.getfield 187, 3) := by decide +kernel
theorem dX11_answerSessionRequest_7 : decode cX11_answerSessionRequest 7 = .ok (.ifCond .ne 18, 3) := by decide +kernel
theorem dX11_answerSessionRequest_10 : decode cX11_answerSessionRequest 10 = .ok (.aload_n 0, 1) := by decide +kernel
theorem dX11_answerSessionRequest_11 : decode cX11_answerSessionRequest 11 = .ok (.getfield 144, 3) := by decide +kernel
theorem dX11_answerSessionRequest_14 : decode cX11_answerSessionRequest 14 = .ok (.bipush 13, 2) := by decide +kernel
theorem dX11_answerSessionRequest_16 : decode cX11_answerSessionRequest 16 = .ok (.invokevirtual 157, 3) := by decide +kernel
theorem dX11_answerSessionRequest_19 : decode cX11_answerSessionRequest 19 = .ok (.bipush 6, 2) := by decide +kernel
theorem dX11_answerSessionRequest_21 : decode cX11_answerSessionRequest 21 = .ok (.invokevirtual 164, 3) := by decide +kernel
theorem dX11_answerSessionRequest_24 : decode cX11_answerSessionRequest 24 = .ok (.return_, 1) := by decide +kernel
theorem dX11_answerSessionRequest_25 : decode cX11_answerSessionRequest 25 = .ok (.aload_n 0, 1) := by decide +kernel
theorem dX11_answerSessionRequest_26 : decode cX11_answerSessionRequest 26 = .ok (.getfield 183, 3) := by decide +kernel
theorem dX11_answerSessionRequest_29 : decode cX11_answerSessionRequest 29 = .ok (.iconst 1, 1) := by decide +kernel
theorem dX11_answerSessionRequest_30 : decode cX11_answerSessionRequest 30 = .ok (.putfield 195, 3) := by decide +kernel
theorem dX11_answerSessionRequest_33 : decode cX11_answerSessionRequest 33 = .ok (.aload_n 0, 1) := by decide +kernel
theorem dX11_answerSessionRequest_34 : decode cX11_answerSessionRequest 34 = .ok (.getfield 183, 3) := by decide +kernel
theorem dX11_answerSessionRequest_37 : decode cX11_answerSessionRequest 37 = .ok (.aload_n 1, 1) := by decide +kernel
theorem dX11_answerSessionRequest_38 : decode cX11_answerSessionRequest 38 = .ok (.iconst 0, 1) := by decide +kernel
theorem dX11_answerSessionRequest_39 : decode cX11_answerSessionRequest 39 = .ok (.invokevirtual 593, 3) := by decide +kernel
theorem dX11_answerSessionRequest_42 : decode cX11_answerSessionRequest 42 = .ok (.aload_n 0, 1) := by decide +kernel
theorem dX11_answerSessionRequest_43 : decode cX11_answerSessionRequest 43 = .ok (.aload_n 0, 1) := by decide +kernel
theorem dX11_answerSessionRequest_44 : decode cX11_answerSessionRequest 44 = .ok (.getfield 183, 3) := by decide +kernel
theorem dX11_answerSessionRequest_47 : decode cX11_answerSessionRequest 47 = .ok (.getfield 204, 3) := by decide +kernel
theorem dX11_answerSessionRequest_50 : decode cX11_answerSessionRequest 50 = .ok (.bipush 8, 2) := by decide +kernel
theorem dX11_answerSessionRequest_52 : decode cX11_answerSessionRequest 52 = .ok (.bipush 8, 2) := by decide +kernel
theorem dX11_answerSessionRequest_54 : decode cX11_answerSessionRequest 54 = .ok (.invokevirtual 208, 3) := by decide +kernel
theorem dX11_answerSessionRequest_57 : decode cX11_answerSessionRequest 57 = .ok (.aload_n 0, 1) := by decide +kernel
theorem dX11_answerSessionRequest_58 : decode cX11_answerSessionRequest 58 = .ok (.aload_n 0, 1) := by decide +kernel
theorem dX11_answerSessionRequest_59 : decode cX11_answerSessionRequest 59 = .ok (.getfield 183, 3) := by decide +kernel
theorem dX11_answerSessionRequest_62 : decode cX11_answerSessionRequest 62 = .ok (.getfield 212, 3) := by decide +kernel
theorem dX11_answerSessionRequest_65 : decode cX11_answerSessionRequest 65 = .ok (.iconst 4, 1) := by decide +kernel
theorem dX11_answerSessionRequest_66 : decode cX11_answerSessionRequest 66 = .ok (.iconst 4, 1) := by decide +kernel
theorem dX11_answerSessionRequest_67 : decode cX11_answerSessionRequest 67 = .ok (.invokevirtual 208, 3) := by decide +kernel
theorem dX11_answerSessionRequest_70 : decode cX11_answerSessionRequest 70 = .ok (.aload_n 0, 1) := by decide +kernel
theorem dX11_answerSessionRequest_71 : decode cX11_answerSessionRequest 71 = .ok (.getfield 183, 3) := by decide +kernel
theorem dX11_answerSessionRequest_74 : decode cX11_answerSessionRequest 74 = .ok (.aload_n 0, 1) := by decide +kernel
theorem dX11_answerSessionRequest_75 : decode cX11_answerSessionRequest 75 = .ok (.getfield 144, 3) := by decide +kernel
theorem dX11_answerSessionRequest_78 : decode cX11_answerSessionRequest 78 = .ok (.iconst 4, 1) := by decide +kernel
theorem dX11_answerSessionRequest_79 : decode cX11_answerSessionRequest 79 = .ok (.invokevirtual 157, 3) := by decide +kernel
theorem dX11_answerSessionRequest_82 : decode cX11_answerSessionRequest 82 = .ok (.iconst 1, 1) := by decide +kernel
theorem dX11_answerSessionRequest_83 : decode cX11_answerSessionRequest 83 = .ok (.invokevirtual 215, 3) := by decide +kernel
theorem dX11_answerSessionRequest_86 : decode cX11_answerSessionRequest 86 = .ok (.aload_n 0, 1) := by decide +kernel
theorem dX11_answerSessionRequest_87 : decode cX11_answerSessionRequest 87 = .ok (.getfield 144, 3) := by decide +kernel
theorem dX11_answerSessionRequest_90 : decode cX11_answerSessionRequest 90 = .ok (.iconst 5, 1) := by decide +kernel
theorem dX11_answerSessionRequest_91 : decode cX11_answerSessionRequest 91 = .ok (.invokevirtual 157, 3) := by decide +kernel
theorem dX11_answerSessionRequest_94 : decode cX11_answerSessionRequest 94 = .ok (.pop, 1) := by decide +kernel
theorem dX11_answerSessionRequest_95 : decode cX11_answerSessionRequest 95 = .ok (.aload_n 0, 1) := by decide +kernel
theorem dX11_answerSessionRequest_96 : decode cX11_answerSessionRequest 96 = .ok (.getfield 183, 3) := by decide +kernel
theorem dX11_answerSessionRequest_99 : decode cX11_answerSessionRequest 99 = .ok (.invokevirtual 596, 3) := by decide +kernel
theorem dX11_answerSessionRequest_102 : decode cX11_answerSessionRequest 102 = .ok (.return_, 1) := by decide +kernel
theorem dX12_in_0 : decode cX12_in 0 = .ok (.iload_n 0, 1) := by decide +kernel
theorem dX12_in_1 : decode cX12_in 1 = .ok (.ifCond .lt 12, 3) := by decide +kernel
theorem dX12_in_4 : decode cX12_in 4 = .ok (.iload_n 0, 1) := by decide +kernel
theorem dX12_in_5 : decode cX12_in 5 = .ok (.iload_n 1, 1) := by decide +kernel
theorem dX12_in_6 : decode cX12_in 6 = .ok (.if_icmp .ge 7, 3) := by decide +kernel
theorem dX12_in_9 : decode cX12_in 9 = .ok (.iconst 1, 1) := by decide +kernel
theorem dX12_in_10 : decode cX12_in 10 = .ok (.goto 4, 3) := by decide +kernel
theorem dX12_in_13 : decode cX12_in 13 = .ok (.iconst 0, 1) := by decide +kernel
theorem dX12_in_14 : decode cX12_in 14 = .ok (.ireturn, 1) := by decide +kernel
theorem dX12_two_0 : decode cX12_two 0 = .ok (.aload_n 0, 1) := by decide +kernel
theorem dX12_two_1 : decode cX12_two 1 = .ok (.iload_n 1, 1) := by decide +kernel
theorem dX12_two_2 : decode cX12_two 2 = .ok (.baload, 1) := by decide +kernel
theorem dX12_two_3 : decode cX12_two 3 = .ok (.sipush 255, 3) := by decide +kernel
theorem dX12_two_6 : decode cX12_two 6 = .ok (.iand, 1) := by decide +kernel
theorem dX12_two_7 : decode cX12_two 7 = .ok (.aload_n 0, 1) := by decide +kernel
theorem dX12_two_8 : decode cX12_two 8 = .ok (.iload_n 1, 1) := by decide +kernel
theorem dX12_two_9 : decode cX12_two 9 = .ok (.iconst 1, 1) := by decide +kernel
theorem dX12_two_10 : decode cX12_two 10 = .ok (.iadd, 1) := by decide +kernel
theorem dX12_two_11 : decode cX12_two 11 = .ok (.baload, 1) := by decide +kernel
theorem dX12_two_12 : decode cX12_two 12 = .ok (.sipush 255, 3) := by decide +kernel
theorem dX12_two_15 : decode cX12_two 15 = .ok (.iand, 1) := by decide +kernel
theorem dX12_two_16 : decode cX12_two 16 = .ok (.bipush 8, 2) := by decide +kernel
theorem dX12_two_18 : decode cX12_two 18 = .ok (.ishl, 1) := by decide +kernel
theorem dX12_two_19 : decode cX12_two 19 = .ok (.ior, 1) := by decide +kernel
theorem dX12_two_20 : decode cX12_two 20 = .ok (.ireturn, 1) := by decide +kernel
theorem dX12_copy_0 : decode cX12_copy 0 = .ok (.iconst 0, 1) := by decide +kernel
theorem dX12_copy_1 : decode cX12_copy 1 = .ok (.istore 5, 2) := by decide +kernel
theorem dX12_copy_3 : decode cX12_copy 3 = .ok (.iload 5, 2) := by decide +kernel
theorem dX12_copy_5 : decode cX12_copy 5 = .ok (.iload 4, 2) := by decide +kernel
theorem dX12_copy_7 : decode cX12_copy 7 = .ok (.if_icmp .ge 21, 3) := by decide +kernel
theorem dX12_copy_10 : decode cX12_copy 10 = .ok (.aload_n 2, 1) := by decide +kernel
theorem dX12_copy_11 : decode cX12_copy 11 = .ok (.iload_n 3, 1) := by decide +kernel
theorem dX12_copy_12 : decode cX12_copy 12 = .ok (.iload 5, 2) := by decide +kernel
theorem dX12_copy_14 : decode cX12_copy 14 = .ok (.iadd, 1) := by decide +kernel
theorem dX12_copy_15 : decode cX12_copy 15 = .ok (.aload_n 0, 1) := by decide +kernel
theorem dX12_copy_16 : decode cX12_copy 16 = .ok (.iload_n 1, 1) := by decide +kernel
theorem dX12_copy_17 : decode cX12_copy 17 = .ok (.iload 5, 2) := by decide +kernel
theorem dX12_copy_19 : decode cX12_copy 19 = .ok (.iadd, 1) := by decide +kernel
theorem dX12_copy_20 : decode cX12_copy 20 = .ok (.baload, 1) := by decide +kernel
theorem dX12_copy_21 : decode cX12_copy 21 = .ok (.bastore, 1) := by decide +kernel
theorem dX12_copy_22 : decode cX12_copy 22 = .ok (.iinc 5 1, 3) := by decide +kernel
theorem dX12_copy_25 : decode cX12_copy 25 = .ok (.goto (-22), 3) := by decide +kernel
theorem dX12_copy_28 : decode cX12_copy 28 = .ok (.return_, 1) := by decide +kernel
theorem dX12_feed_0 : decode cX12_feed 0 = .ok (.aload_n 0, 1) := by decide +kernel
theorem dX12_feed_1 : decode cX12_feed 1 = .ok (.iconst 0, 1) := by decide +kernel
theorem dX12_feed_2 : decode cX12_feed 2 = .ok (.putfield 1, 3) := by decide +kernel
theorem dX12_feed_5 : decode cX12_feed 5 = .ok (.aload_n 0, 1) := by decide +kernel
theorem dX12_feed_6 : decode cX12_feed 6 = .ok (.getfield 7, 3) := by decide +kernel
theorem dX12_feed_9 : decode cX12_feed 9 = .ok (.bipush 20, 2) := by decide +kernel
theorem dX12_feed_11 : decode cX12_feed 11 = .ok (.iadd, 1) := by decide +kernel
theorem dX12_feed_12 : decode cX12_feed 12 = .ok (.bipush 100, 2) := by decide +kernel
theorem dX12_feed_14 : decode cX12_feed 14 = .ok (.if_icmp .le 5, 3) := by decide +kernel
theorem dX12_feed_17 : decode cX12_feed 17 = .ok (.iconst (-1), 1) := by decide +kernel
theorem dX12_feed_18 : decode cX12_feed 18 = .ok (.ireturn, 1) := by decide +kernel
theorem dX12_feed_19 : decode cX12_feed 19 = .ok (.iconst 0, 1) := by decide +kernel
theorem dX12_feed_20 : decode cX12_feed 20 = .ok (.istore 6, 2) := by decide +kernel
theorem dX12_feed_22 : decode cX12_feed 22 = .ok (.iload 6, 2) := by decide +kernel
theorem dX12_feed_24 : decode cX12_feed 24 = .ok (.bipush 20, 2) := by decide +kernel
theorem dX12_feed_26 : decode cX12_feed 26 = .ok (.if_icmp .ge 83, 3) := by decide +kernel
theorem dX12_feed_29 : decode cX12_feed 29 = .ok (.iload 6, 2) := by decide +kernel
theorem dX12_feed_31 : decode cX12_feed 31 = .ok (.iconst 4, 1) := by decide +kernel
theorem dX12_feed_32 : decode cX12_feed 32 = .ok (.if_icmp .ge 7, 3) := by decide +kernel
theorem dX12_feed_35 : decode cX12_feed 35 = .ok (.iload_n 1, 1) := by decide +kernel
theorem dX12_feed_36 : decode cX12_feed 36 = .ok (.goto 39, 3) := by decide +kernel
theorem dX12_feed_39 : decode cX12_feed 39 = .ok (.iload 6, 2) := by decide +kernel
theorem dX12_feed_41 : decode cX12_feed 41 = .ok (.bipush 8, 2) := by decide +kernel
theorem dX12_feed_43 : decode cX12_feed 43 = .ok (.if_icmp .ge 7, 3) := by decide +kernel
theorem dX12_feed_46 : decode cX12_feed 46 = .ok (.iload_n 2, 1) := by decide +kernel
theorem dX12_feed_47 : decode cX12_feed 47 = .ok (.goto 28, 3) := by decide +kernel
theorem dX12_feed_50 : decode cX12_feed 50 = .ok (.iload 6, 2) := by decide +kernel
theorem dX12_feed_52 : decode cX12_feed 52 = .ok (.bipush 12, 2) := by decide +kernel
theorem dX12_feed_54 : decode cX12_feed 54 = .ok (.if_icmp .ge 7, 3) := by decide +kernel
theorem dX12_feed_57 : decode cX12_feed 57 = .ok (.iload_n 3, 1) := by decide +kernel
theorem dX12_feed_58 : decode cX12_feed 58 = .ok (.goto 17, 3) := by decide +kernel
theorem dX12_feed_61 : decode cX12_feed 61 = .ok (.iload 6, 2) := by decide +kernel
theorem dX12_feed_63 : decode cX12_feed 63 = .ok (.bipush 16, 2) := by decide +kernel
theorem dX12_feed_65 : decode cX12_feed 65 = .ok (.if_icmp .ge 8, 3) := by decide +kernel
theorem dX12_feed_68 : decode cX12_feed 68 = .ok (.iload 4, 2) := by decide +kernel
theorem dX12_feed_70 : decode cX12_feed 70 = .ok (.goto 5, 3) := by decide +kernel
theorem dX12_feed_73 : decode cX12_feed 73 = .ok (.iload 5, 2) := by decide +kernel
theorem dX12_feed_75 : decode cX12_feed 75 = .ok (.istore 7, 2) := by decide +kernel
theorem dX12_feed_77 : decode cX12_feed 77 = .ok (.aload_n 0, 1) := by decide +kernel
theorem dX12_feed_78 : decode cX12_feed 78 = .ok (.getfield 10, 3) := by decide +kernel
theorem dX12_feed_81 : decode cX12_feed 81 = .ok (.aload_n 0, 1) := by decide +kernel
theorem dX12_feed_82 : decode cX12_feed 82 = .ok (.getfield 7, 3) := by decide +kernel
theorem dX12_feed_85 : decode cX12_feed 85 = .ok (.iload 6, 2) := by decide +kernel
theorem dX12_feed_87 : decode cX12_feed 87 = .ok (.iadd, 1) := by decide +kernel
theorem dX12_feed_88 : decode cX12_feed 88 = .ok (.iload 7, 2) := by decide +kernel
theorem dX12_feed_90 : decode cX12_feed 90 = .ok (.bipush 24, 2) := by decide +kernel
theorem dX12_feed_92 : decode cX12_feed 92 = .ok (.bipush 8, 2) := by decide +kernel
theorem dX12_feed_94 : decode cX12_feed 94 = .ok (.iload 6, 2) := by decide +kernel
theorem dX12_feed_96 : decode cX12_feed 96 = .ok (.iconst 3, 1) := by decide +kernel
theorem dX12_feed_97 : decode cX12_feed 97 = .ok (.iand, 1) := by decide +kernel
theorem dX12_feed_98 : decode cX12_feed 98 = .ok (.imul, 1) := by decide +kernel
theorem dX12_feed_99 : decode cX12_feed 99 = .ok (.isub, 1) := by decide +kernel
theorem dX12_feed_100 : decode cX12_feed 100 = .ok (.ishr, 1) := by decide +kernel
theorem dX12_feed_101 : decode cX12_feed 101 = .ok (.i2b, 1) := by decide +kernel
theorem dX12_feed_102 : decode cX12_feed 102 = .ok (.bastore, 1) := by decide +kernel
theorem dX12_feed_103 : decode cX12_feed 103 = .ok (.iinc 6 1, 3) := by decide +kernel
theorem dX12_feed_106 : decode cX12_feed 106 = .ok (.goto (-84), 3) := by decide +kernel
theorem dX12_feed_109 : decode cX12_feed 109 = .ok (.aload_n 0, 1) := by decide +kernel
theorem dX12_feed_110 : decode cX12_feed 110 = .ok (.dup, 1) := by decide +kernel
theorem dX12_feed_111 : decode cX12_feed 111 = .ok (.getfield 7, 3) := by decide +kernel
theorem dX12_feed_114 : decode cX12_feed 114 = .ok (.bipush 20, 2) := by decide +kernel
theorem dX12_feed_116 : decode cX12_feed 116 = .ok (.iadd, 1) := by decide +kernel
theorem dX12_feed_117 : decode cX12_feed 117 = .ok (.putfield 7, 3) := by decide +kernel
theorem dX12_feed_120 : decode cX12_feed 120 = .ok (.aload_n 0, 1) := by decide +kernel
theorem dX12_feed_121 : decode cX12_feed 121 = .ok (.getfield 7, 3) := by decide +kernel
theorem dX12_feed_124 : decode cX12_feed 124 = .ok (.ireturn, 1) := by decide +kernel
theorem dX12_end_0 : decode cX12_end 0 = .ok (.aload_n 0, 1) := by decide +kernel
theorem dX12_end_1 : decode cX12_end 1 = .ok (.iconst 0, 1) := by decide +kernel
theorem dX12_end_2 : decode cX12_end 2 = .ok (.putfield 1, 3) := by decide +kernel
theorem dX12_end_5 : decode cX12_end 5 = .ok (.iload_n 1, 1) := by decide +kernel
theorem dX12_end_6 : decode cX12_end 6 = .ok (.ifCond .lt 11, 3) := by decide +kernel
theorem dX12_end_9 : decode cX12_end 9 = .ok (.iload_n 1, 1) := by decide +kernel
theorem dX12_end_10 : decode cX12_end 10 = .ok (.aload_n 0, 1) := by decide +kernel
theorem dX12_end_11 : decode cX12_end 11 = .ok (.getfield 7, 3) := by decide +kernel
theorem dX12_end_14 : decode cX12_end 14 = .ok (.if_icmp .le 5, 3) := by decide +kernel
theorem dX12_end_17 : decode cX12_end 17 = .ok (.iconst (-1), 1) := by decide +kernel
theorem dX12_end_18 : decode cX12_end 18 = .ok (.ireturn, 1) := by decide +kernel
theorem dX12_end_19 : decode cX12_end 19 = .ok (.aload_n 0, 1) := by decide +kernel
theorem dX12_end_20 : decode cX12_end 20 = .ok (.iload_n 1, 1) := by decide +kernel
theorem dX12_end_21 : decode cX12_end 21 = .ok (.putfield 7, 3) := by decide +kernel
theorem dX12_end_24 : decode cX12_end 24 = .ok (.iload_n 1, 1) := by decide +kernel
theorem dX12_end_25 : decode cX12_end 25 = .ok (.ireturn, 1) := by decide +kernel
theorem dX12_twice_0 : decode cX12_twice 0 = .ok (.iload_n 0, 1) := by decide +kernel
theorem dX12_twice_1 : decode cX12_twice 1 = .ok (.iconst 1, 1) := by decide +kernel
theorem dX12_twice_2 : decode cX12_twice 2 = .ok (.ishl, 1) := by decide +kernel
theorem dX12_twice_3 : decode cX12_twice 3 = .ok (.iload_n 0, 1) := by decide +kernel
theorem dX12_twice_4 : decode cX12_twice 4 = .ok (.bipush 7, 2) := by decide +kernel
theorem dX12_twice_6 : decode cX12_twice 6 = .ok (.ishr, 1) := by decide +kernel
theorem dX12_twice_7 : decode cX12_twice 7 = .ok (.sipush 283, 3) := by decide +kernel
theorem dX12_twice_10 : decode cX12_twice 10 = .ok (.imul, 1) := by decide +kernel
theorem dX12_twice_11 : decode cX12_twice 11 = .ok (.ixor, 1) := by decide +kernel
theorem dX12_twice_12 : decode cX12_twice 12 = .ok (.sipush 255, 3) := by decide +kernel
theorem dX12_twice_15 : decode cX12_twice 15 = .ok (.iand, 1) := by decide +kernel
theorem dX12_twice_16 : decode cX12_twice 16 = .ok (.ireturn, 1) := by decide +kernel
theorem dX12_times_0 : decode cX12_times 0 = .ok (.iconst 0, 1) := by decide +kernel
theorem dX12_times_1 : decode cX12_times 1 = .ok (.istore_n 2, 1) := by decide +kernel
theorem dX12_times_2 : decode cX12_times 2 = .ok (.iload_n 0, 1) := by decide +kernel
theorem dX12_times_3 : decode cX12_times 3 = .ok (.istore_n 3, 1) := by decide +kernel
theorem dX12_times_4 : decode cX12_times 4 = .ok (.iconst 0, 1) := by decide +kernel
theorem dX12_times_5 : decode cX12_times 5 = .ok (.istore 4, 2) := by decide +kernel
theorem dX12_times_7 : decode cX12_times 7 = .ok (.iload 4, 2) := by decide +kernel
theorem dX12_times_9 : decode cX12_times 9 = .ok (.bipush 8, 2) := by decide +kernel
theorem dX12_times_11 : decode cX12_times 11 = .ok (.if_icmp .ge 28, 3) := by decide +kernel
theorem dX12_times_14 : decode cX12_times 14 = .ok (.iload_n 1, 1) := by decide +kernel
theorem dX12_times_15 : decode cX12_times 15 = .ok (.iload 4, 2) := by decide +kernel
theorem dX12_times_17 : decode cX12_times 17 = .ok (.ishr, 1) := by decide +kernel
theorem dX12_times_18 : decode cX12_times 18 = .ok (.iconst 1, 1) := by decide +kernel
theorem dX12_times_19 : decode cX12_times 19 = .ok (.iand, 1) := by decide +kernel
theorem dX12_times_20 : decode cX12_times 20 = .ok (.iconst 1, 1) := by decide +kernel
theorem dX12_times_21 : decode cX12_times 21 = .ok (.if_icmp .ne 7, 3) := by decide +kernel
theorem dX12_times_24 : decode cX12_times 24 = .ok (.iload_n 2, 1) := by decide +kernel
theorem dX12_times_25 : decode cX12_times 25 = .ok (.iload_n 3, 1) := by decide +kernel
theorem dX12_times_26 : decode cX12_times 26 = .ok (.ixor, 1) := by decide +kernel
theorem dX12_times_27 : decode cX12_times 27 = .ok (.istore_n 2, 1) := by decide +kernel
theorem dX12_times_28 : decode cX12_times 28 = .ok (.iload_n 3, 1) := by decide +kernel
theorem dX12_times_29 : decode cX12_times 29 = .ok (.invokestatic 14, 3) := by decide +kernel
theorem dX12_times_32 : decode cX12_times 32 = .ok (.istore_n 3, 1) := by decide +kernel
theorem dX12_times_33 : decode cX12_times 33 = .ok (.iinc 4 1, 3) := by decide +kernel
theorem dX12_times_36 : decode cX12_times 36 = .ok (.goto (-29), 3) := by decide +kernel
theorem dX12_times_39 : decode cX12_times 39 = .ok (.iload_n 2, 1) := by decide +kernel
theorem dX12_times_40 : decode cX12_times 40 = .ok (.ireturn, 1) := by decide +kernel
theorem dX12_fillBox_0 : decode cX12_fillBox 0 = .ok (.iconst 0, 1) := by decide +kernel
theorem dX12_fillBox_1 : decode cX12_fillBox 1 = .ok (.istore_n 1, 1) := by decide +kernel
theorem dX12_fillBox_2 : decode cX12_fillBox 2 = .ok (.iload_n 1, 1) := by decide +kernel
theorem dX12_fillBox_3 : decode cX12_fillBox 3 = .ok (.sipush 256, 3) := by decide +kernel
theorem dX12_fillBox_6 : decode cX12_fillBox 6 = .ok (.if_icmp .ge 83, 3) := by decide +kernel
theorem dX12_fillBox_9 : decode cX12_fillBox 9 = .ok (.iconst 0, 1) := by decide +kernel
theorem dX12_fillBox_10 : decode cX12_fillBox 10 = .ok (.istore_n 2, 1) := by decide +kernel
theorem dX12_fillBox_11 : decode cX12_fillBox 11 = .ok (.iconst 1, 1) := by decide +kernel
theorem dX12_fillBox_12 : decode cX12_fillBox 12 = .ok (.istore_n 3, 1) := by decide +kernel
theorem dX12_fillBox_13 : decode cX12_fillBox 13 = .ok (.iload_n 3, 1) := by decide +kernel
theorem dX12_fillBox_14 : decode cX12_fillBox 14 = .ok (.sipush 256, 3) := by decide +kernel
theorem dX12_fillBox_17 : decode cX12_fillBox 17 = .ok (.if_icmp .ge 20, 3) := by decide +kernel
theorem dX12_fillBox_20 : decode cX12_fillBox 20 = .ok (.iload_n 1, 1) := by decide +kernel
theorem dX12_fillBox_21 : decode cX12_fillBox 21 = .ok (.iload_n 3, 1) := by decide +kernel
theorem dX12_fillBox_22 : decode cX12_fillBox 22 = .ok (.invokestatic 18, 3) := by decide +kernel
theorem dX12_fillBox_25 : decode cX12_fillBox 25 = .ok (.iconst 1, 1) := by decide +kernel
theorem dX12_fillBox_26 : decode cX12_fillBox 26 = .ok (.if_icmp .ne 5, 3) := by decide +kernel
theorem dX12_fillBox_29 : decode cX12_fillBox 29 = .ok (.iload_n 3, 1) := by decide +kernel
theorem dX12_fillBox_30 : decode cX12_fillBox 30 = .ok (.istore_n 2, 1) := by decide +kernel
theorem dX12_fillBox_31 : decode cX12_fillBox 31 = .ok (.iinc 3 1, 3) := by decide +kernel
theorem dX12_fillBox_34 : decode cX12_fillBox 34 = .ok (.goto (-21), 3) := by decide +kernel
theorem dX12_fillBox_37 : decode cX12_fillBox 37 = .ok (.iload_n 2, 1) := by decide +kernel
theorem dX12_fillBox_38 : decode cX12_fillBox 38 = .ok (.istore_n 3, 1) := by decide +kernel
theorem dX12_fillBox_39 : decode cX12_fillBox 39 = .ok (.iconst 1, 1) := by decide +kernel
theorem dX12_fillBox_40 : decode cX12_fillBox 40 = .ok (.istore 4, 2) := by decide +kernel
theorem dX12_fillBox_42 : decode cX12_fillBox 42 = .ok (.iload 4, 2) := by decide +kernel
theorem dX12_fillBox_44 : decode cX12_fillBox 44 = .ok (.iconst 5, 1) := by decide +kernel
theorem dX12_fillBox_45 : decode cX12_fillBox 45 = .ok (.if_icmp .ge 28, 3) := by decide +kernel
theorem dX12_fillBox_48 : decode cX12_fillBox 48 = .ok (.iload_n 3, 1) := by decide +kernel
theorem dX12_fillBox_49 : decode cX12_fillBox 49 = .ok (.iload_n 2, 1) := by decide +kernel
theorem dX12_fillBox_50 : decode cX12_fillBox 50 = .ok (.iload 4, 2) := by decide +kernel
theorem dX12_fillBox_52 : decode cX12_fillBox 52 = .ok (.ishl, 1) := by decide +kernel
theorem dX12_fillBox_53 : decode cX12_fillBox 53 = .ok (.iload_n 2, 1) := by decide +kernel
theorem dX12_fillBox_54 : decode cX12_fillBox 54 = .ok (.bipush 8, 2) := by decide +kernel
theorem dX12_fillBox_56 : decode cX12_fillBox 56 = .ok (.iload 4, 2) := by decide +kernel
theorem dX12_fillBox_58 : decode cX12_fillBox 58 = .ok (.isub, 1) := by decide +kernel
theorem dX12_fillBox_59 : decode cX12_fillBox 59 = .ok (.ishr, 1) := by decide +kernel
theorem dX12_fillBox_60 : decode cX12_fillBox 60 = .ok (.ior, 1) := by decide +kernel
theorem dX12_fillBox_61 : decode cX12_fillBox 61 = .ok (.sipush 255, 3) := by decide +kernel
theorem dX12_fillBox_64 : decode cX12_fillBox 64 = .ok (.iand, 1) := by decide +kernel
theorem dX12_fillBox_65 : decode cX12_fillBox 65 = .ok (.ixor, 1) := by decide +kernel
theorem dX12_fillBox_66 : decode cX12_fillBox 66 = .ok (.istore_n 3, 1) := by decide +kernel
theorem dX12_fillBox_67 : decode cX12_fillBox 67 = .ok (.iinc 4 1, 3) := by decide +kernel
theorem dX12_fillBox_70 : decode cX12_fillBox 70 = .ok (.goto (-28), 3) := by decide +kernel
theorem dX12_fillBox_73 : decode cX12_fillBox 73 = .ok (.aload_n 0, 1) := by decide +kernel
theorem dX12_fillBox_74 : decode cX12_fillBox 74 = .ok (.getfield 22, 3) := by decide +kernel
theorem dX12_fillBox_77 : decode cX12_fillBox 77 = .ok (.iload_n 1, 1) := by decide +kernel
theorem dX12_fillBox_78 : decode cX12_fillBox 78 = .ok (.iload_n 3, 1) := by decide +kernel
theorem dX12_fillBox_79 : decode cX12_fillBox 79 = .ok (.bipush 99, 2) := by decide +kernel
theorem dX12_fillBox_81 : decode cX12_fillBox 81 = .ok (.ixor, 1) := by decide +kernel
theorem dX12_fillBox_82 : decode cX12_fillBox 82 = .ok (.iastore, 1) := by decide +kernel
theorem dX12_fillBox_83 : decode cX12_fillBox 83 = .ok (.iinc 1 1, 3) := by decide +kernel
theorem dX12_fillBox_86 : decode cX12_fillBox 86 = .ok (.goto (-84), 3) := by decide +kernel
theorem dX12_fillBox_89 : decode cX12_fillBox 89 = .ok (.return_, 1) := by decide +kernel
theorem dX12_e_0 : decode cX12_e 0 = .ok (.aload_n 1, 1) := by decide +kernel
theorem dX12_e_1 : decode cX12_e 1 = .ok (.iload_n 2, 1) := by decide +kernel
theorem dX12_e_2 : decode cX12_e 2 = .ok (.aload_n 0, 1) := by decide +kernel
theorem dX12_e_3 : decode cX12_e 3 = .ok (.getfield 26, 3) := by decide +kernel
theorem dX12_e_6 : decode cX12_e 6 = .ok (.iconst 0, 1) := by decide +kernel
theorem dX12_e_7 : decode cX12_e 7 = .ok (.bipush 16, 2) := by decide +kernel
theorem dX12_e_9 : decode cX12_e 9 = .ok (.invokestatic 29, 3) := by decide +kernel
theorem dX12_e_12 : decode cX12_e 12 = .ok (.iconst 0, 1) := by decide +kernel
theorem dX12_e_13 : decode cX12_e 13 = .ok (.istore 7, 2) := by decide +kernel
theorem dX12_e_15 : decode cX12_e 15 = .ok (.iload 7, 2) := by decide +kernel
theorem dX12_e_17 : decode cX12_e 17 = .ok (.bipush 16, 2) := by decide +kernel
theorem dX12_e_19 : decode cX12_e 19 = .ok (.if_icmp .ge 32, 3) := by decide +kernel
theorem dX12_e_22 : decode cX12_e 22 = .ok (.aload_n 0, 1) := by decide +kernel
theorem dX12_e_23 : decode cX12_e 23 = .ok (.getfield 33, 3) := by decide +kernel
theorem dX12_e_26 : decode cX12_e 26 = .ok (.iload 7, 2) := by decide +kernel
theorem dX12_e_28 : decode cX12_e 28 = .ok (.aload_n 3, 1) := by decide +kernel
theorem dX12_e_29 : decode cX12_e 29 = .ok (.iload 4, 2) := by decide +kernel
theorem dX12_e_31 : decode cX12_e 31 = .ok (.iload 7, 2) := by decide +kernel
theorem dX12_e_33 : decode cX12_e 33 = .ok (.iadd, 1) := by decide +kernel
theorem dX12_e_34 : decode cX12_e 34 = .ok (.baload, 1) := by decide +kernel
theorem dX12_e_35 : decode cX12_e 35 = .ok (.aload_n 0, 1) := by decide +kernel
theorem dX12_e_36 : decode cX12_e 36 = .ok (.getfield 26, 3) := by decide +kernel
theorem dX12_e_39 : decode cX12_e 39 = .ok (.iload 7, 2) := by decide +kernel
theorem dX12_e_41 : decode cX12_e 41 = .ok (.baload, 1) := by decide +kernel
theorem dX12_e_42 : decode cX12_e 42 = .ok (.ixor, 1) := by decide +kernel
theorem dX12_e_43 : decode cX12_e 43 = .ok (.i2b, 1) := by decide +kernel
theorem dX12_e_44 : decode cX12_e 44 = .ok (.bastore, 1) := by decide +kernel
theorem dX12_e_45 : decode cX12_e 45 = .ok (.iinc 7 1, 3) := by decide +kernel
theorem dX12_e_48 : decode cX12_e 48 = .ok (.goto (-33), 3) := by decide +kernel
theorem dX12_e_51 : decode cX12_e 51 = .ok (.iconst 1, 1) := by decide +kernel
theorem dX12_e_52 : decode cX12_e 52 = .ok (.istore 7, 2) := by decide +kernel
theorem dX12_e_54 : decode cX12_e 54 = .ok (.iconst 1, 1) := by decide +kernel
theorem dX12_e_55 : decode cX12_e 55 = .ok (.istore 8, 2) := by decide +kernel
theorem dX12_e_57 : decode cX12_e 57 = .ok (.iload 8, 2) := by decide +kernel
theorem dX12_e_59 : decode cX12_e 59 = .ok (.bipush 11, 2) := by decide +kernel
theorem dX12_e_61 : decode cX12_e 61 = .ok (.if_icmp .ge 301, 3) := by decide +kernel
theorem dX12_e_64 : decode cX12_e 64 = .ok (.iconst 0, 1) := by decide +kernel
theorem dX12_e_65 : decode cX12_e 65 = .ok (.istore 9, 2) := by decide +kernel
theorem dX12_e_67 : decode cX12_e 67 = .ok (.iload 9, 2) := by decide +kernel
theorem dX12_e_69 : decode cX12_e 69 = .ok (.iconst 4, 1) := by decide +kernel
theorem dX12_e_70 : decode cX12_e 70 = .ok (.if_icmp .ge 56, 3) := by decide +kernel
theorem dX12_e_73 : decode cX12_e 73 = .ok (.aload_n 0, 1) := by decide +kernel
theorem dX12_e_74 : decode cX12_e 74 = .ok (.getfield 26, 3) := by decide +kernel
theorem dX12_e_77 : decode cX12_e 77 = .ok (.iload 9, 2) := by decide +kernel
theorem dX12_e_79 : decode cX12_e 79 = .ok (.dup2, 1) := by decide +kernel
theorem dX12_e_80 : decode cX12_e 80 = .ok (.baload, 1) := by decide +kernel
theorem dX12_e_81 : decode cX12_e 81 = .ok (.aload_n 0, 1) := by decide +kernel
theorem dX12_e_82 : decode cX12_e 82 = .ok (.getfield 22, 3) := by decide +kernel
theorem dX12_e_85 : decode cX12_e 85 = .ok (.aload_n 0, 1) := by decide +kernel
theorem dX12_e_86 : decode cX12_e 86 = .ok (.getfield 26, 3) := by decide +kernel
theorem dX12_e_89 : decode cX12_e 89 = .ok (.bipush 12, 2) := by decide +kernel
theorem dX12_e_91 : decode cX12_e 91 = .ok (.iload 9, 2) := by decide +kernel
theorem dX12_e_93 : decode cX12_e 93 = .ok (.iconst 1, 1) := by decide +kernel
theorem dX12_e_94 : decode cX12_e 94 = .ok (.iadd, 1) := by decide +kernel
theorem dX12_e_95 : decode cX12_e 95 = .ok (.iconst 4, 1) := by decide +kernel
theorem dX12_e_96 : decode cX12_e 96 = .ok (.irem, 1) := by decide +kernel
theorem dX12_e_97 : decode cX12_e 97 = .ok (.iadd, 1) := by decide +kernel
theorem dX12_e_98 : decode cX12_e 98 = .ok (.baload, 1) := by decide +kernel
theorem dX12_e_99 : decode cX12_e 99 = .ok (.sipush 255, 3) := by decide +kernel
theorem dX12_e_102 : decode cX12_e 102 = .ok (.iand, 1) := by decide +kernel
theorem dX12_e_103 : decode cX12_e 103 = .ok (.iaload, 1) := by decide +kernel
theorem dX12_e_104 : decode cX12_e 104 = .ok (.iload 9, 2) := by decide +kernel
theorem dX12_e_106 : decode cX12_e 106 = .ok (.ifCond .ne 8, 3) := by decide +kernel
theorem dX12_e_109 : decode cX12_e 109 = .ok (.iload 7, 2) := by decide +kernel
theorem dX12_e_111 : decode cX12_e 111 = .ok (.goto 4, 3) := by decide +kernel
theorem dX12_e_114 : decode cX12_e 114 = .ok (.iconst 0, 1) := by decide +kernel
theorem dX12_e_115 : decode cX12_e 115 = .ok (.ixor, 1) := by decide +kernel
theorem dX12_e_116 : decode cX12_e 116 = .ok (.i2b, 1) := by decide +kernel
theorem dX12_e_117 : decode cX12_e 117 = .ok (.ixor, 1) := by decide +kernel
theorem dX12_e_118 : decode cX12_e 118 = .ok (.i2b, 1) := by decide +kernel
theorem dX12_e_119 : decode cX12_e 119 = .ok (.bastore, 1) := by decide +kernel
theorem dX12_e_120 : decode cX12_e 120 = .ok (.iinc 9 1, 3) := by decide +kernel
theorem dX12_e_123 : decode cX12_e 123 = .ok (.goto (-56), 3) := by decide +kernel
theorem dX12_e_126 : decode cX12_e 126 = .ok (.iconst 4, 1) := by decide +kernel
theorem dX12_e_127 : decode cX12_e 127 = .ok (.istore 9, 2) := by decide +kernel
theorem dX12_e_129 : decode cX12_e 129 = .ok (.iload 9, 2) := by decide +kernel
theorem dX12_e_131 : decode cX12_e 131 = .ok (.bipush 16, 2) := by decide +kernel
theorem dX12_e_133 : decode cX12_e 133 = .ok (.if_icmp .ge 29, 3) := by decide +kernel
theorem dX12_e_136 : decode cX12_e 136 = .ok (.aload_n 0, 1) := by decide +kernel
theorem dX12_e_137 : decode cX12_e 137 = .ok (.getfield 26, 3) := by decide +kernel
theorem dX12_e_140 : decode cX12_e 140 = .ok (.iload 9, 2) := by decide +kernel
theorem dX12_e_142 : decode cX12_e 142 = .ok (.dup2, 1) := by decide +kernel
theorem dX12_e_143 : decode cX12_e 143 = .ok (.baload, 1) := by decide +kernel
theorem dX12_e_144 : decode cX12_e 144 = .ok (.aload_n 0, 1) := by decide +kernel
theorem dX12_e_145 : decode cX12_e 145 = .ok (.getfield 26, 3) := by decide +kernel
theorem dX12_e_148 : decode cX12_e 148 = .ok (.iload 9, 2) := by decide +kernel
theorem dX12_e_150 : decode cX12_e 150 = .ok (.iconst 4, 1) := by decide +kernel
theorem dX12_e_151 : decode cX12_e 151 = .ok (.isub, 1) := by decide +kernel
theorem dX12_e_152 : decode cX12_e 152 = .ok (.baload, 1) := by decide +kernel
theorem dX12_e_153 : decode cX12_e 153 = .ok (.ixor, 1) := by decide +kernel
theorem dX12_e_154 : decode cX12_e 154 = .ok (.i2b, 1) := by decide +kernel
theorem dX12_e_155 : decode cX12_e 155 = .ok (.bastore, 1) := by decide +kernel
theorem dX12_e_156 : decode cX12_e 156 = .ok (.iinc 9 1, 3) := by decide +kernel
theorem dX12_e_159 : decode cX12_e 159 = .ok (.goto (-30), 3) := by decide +kernel
theorem dX12_e_162 : decode cX12_e 162 = .ok (.iload 7, 2) := by decide +kernel
theorem dX12_e_164 : decode cX12_e 164 = .ok (.invokestatic 14, 3) := by decide +kernel
theorem dX12_e_167 : decode cX12_e 167 = .ok (.istore 7, 2) := by decide +kernel
theorem dX12_e_169 : decode cX12_e 169 = .ok (.iconst 0, 1) := by decide +kernel
theorem dX12_e_170 : decode cX12_e 170 = .ok (.istore 9, 2) := by decide +kernel
theorem dX12_e_172 : decode cX12_e 172 = .ok (.iload 9, 2) := by decide +kernel
theorem dX12_e_174 : decode cX12_e 174 = .ok (.bipush 16, 2) := by decide +kernel
theorem dX12_e_176 : decode cX12_e 176 = .ok (.if_icmp .ge 43, 3) := by decide +kernel
theorem dX12_e_179 : decode cX12_e 179 = .ok (.aload_n 0, 1) := by decide +kernel
theorem dX12_e_180 : decode cX12_e 180 = .ok (.getfield 36, 3) := by decide +kernel
theorem dX12_e_183 : decode cX12_e 183 = .ok (.iload 9, 2) := by decide +kernel
theorem dX12_e_185 : decode cX12_e 185 = .ok (.aload_n 0, 1) := by decide +kernel
theorem dX12_e_186 : decode cX12_e 186 = .ok (.getfield 22, 3) := by decide +kernel
theorem dX12_e_189 : decode cX12_e 189 = .ok (.aload_n 0, 1) := by decide +kernel
theorem dX12_e_190 : decode cX12_e 190 = .ok (.getfield 33, 3) := by decide +kernel
theorem dX12_e_193 : decode cX12_e 193 = .ok (.iload 9, 2) := by decide +kernel
theorem dX12_e_195 : decode cX12_e 195 = .ok (.iconst 4, 1) := by decide +kernel
theorem dX12_e_196 : decode cX12_e 196 = .ok (.iload 9, 2) := by decide +kernel
theorem dX12_e_198 : decode cX12_e 198 = .ok (.iconst 4, 1) := by decide +kernel
theorem dX12_e_199 : decode cX12_e 199 = .ok (.irem, 1) := by decide +kernel
theorem dX12_e_200 : decode cX12_e 200 = .ok (.imul, 1) := by decide +kernel
theorem dX12_e_201 : decode cX12_e 201 = .ok (.iadd, 1) := by decide +kernel
theorem dX12_e_202 : decode cX12_e 202 = .ok (.bipush 16, 2) := by decide +kernel
theorem dX12_e_204 : decode cX12_e 204 = .ok (.irem, 1) := by decide +kernel
theorem dX12_e_205 : decode cX12_e 205 = .ok (.baload, 1) := by decide +kernel
theorem dX12_e_206 : decode cX12_e 206 = .ok (.sipush 255, 3) := by decide +kernel
theorem dX12_e_209 : decode cX12_e 209 = .ok (.iand, 1) := by decide +kernel
theorem dX12_e_210 : decode cX12_e 210 = .ok (.iaload, 1) := by decide +kernel
theorem dX12_e_211 : decode cX12_e 211 = .ok (.i2b, 1) := by decide +kernel
theorem dX12_e_212 : decode cX12_e 212 = .ok (.bastore, 1) := by decide +kernel
theorem dX12_e_213 : decode cX12_e 213 = .ok (.iinc 9 1, 3) := by decide +kernel
theorem dX12_e_216 : decode cX12_e 216 = .ok (.goto (-44), 3) := by decide +kernel
theorem dX12_e_219 : decode cX12_e 219 = .ok (.iconst 0, 1) := by decide +kernel
theorem dX12_e_220 : decode cX12_e 220 = .ok (.istore 9, 2) := by decide +kernel
theorem dX12_e_222 : decode cX12_e 222 = .ok (.iload 9, 2) := by decide +kernel
theorem dX12_e_224 : decode cX12_e 224 = .ok (.bipush 16, 2) := by decide +kernel
theorem dX12_e_226 : decode cX12_e 226 = .ok (.if_icmp .ge 130, 3) := by decide +kernel
theorem dX12_e_229 : decode cX12_e 229 = .ok (.iload 9, 2) := by decide +kernel
theorem dX12_e_231 : decode cX12_e 231 = .ok (.iload 9, 2) := by decide +kernel
theorem dX12_e_233 : decode cX12_e 233 = .ok (.iconst 4, 1) := by decide +kernel
theorem dX12_e_234 : decode cX12_e 234 = .ok (.irem, 1) := by decide +kernel
theorem dX12_e_235 : decode cX12_e 235 = .ok (.isub, 1) := by decide +kernel
theorem dX12_e_236 : decode cX12_e 236 = .ok (.istore 10, 2) := by decide +kernel
theorem dX12_e_238 : decode cX12_e 238 = .ok (.aload_n 0, 1) := by decide +kernel
theorem dX12_e_239 : decode cX12_e 239 = .ok (.getfield 36, 3) := by decide +kernel
theorem dX12_e_242 : decode cX12_e 242 = .ok (.iload 9, 2) := by decide +kernel
theorem dX12_e_244 : decode cX12_e 244 = .ok (.baload, 1) := by decide +kernel
theorem dX12_e_245 : decode cX12_e 245 = .ok (.sipush 255, 3) := by decide +kernel
theorem dX12_e_248 : decode cX12_e 248 = .ok (.iand, 1) := by decide +kernel
theorem dX12_e_249 : decode cX12_e 249 = .ok (.istore 11, 2) := by decide +kernel
theorem dX12_e_251 : decode cX12_e 251 = .ok (.iload 8, 2) := by decide +kernel
theorem dX12_e_253 : decode cX12_e 253 = .ok (.bipush 10, 2) := by decide +kernel
theorem dX12_e_255 : decode cX12_e 255 = .ok (.if_icmp .ge 77, 3) := by decide +kernel
theorem dX12_e_258 : decode cX12_e 258 = .ok (.aload_n 0, 1) := by decide +kernel
theorem dX12_e_259 : decode cX12_e 259 = .ok (.getfield 36, 3) := by decide +kernel
theorem dX12_e_262 : decode cX12_e 262 = .ok (.iload 10, 2) := by decide +kernel
theorem dX12_e_264 : decode cX12_e 264 = .ok (.iload 9, 2) := by decide +kernel
theorem dX12_e_266 : decode cX12_e 266 = .ok (.iconst 1, 1) := by decide +kernel
theorem dX12_e_267 : decode cX12_e 267 = .ok (.iadd, 1) := by decide +kernel
theorem dX12_e_268 : decode cX12_e 268 = .ok (.iconst 4, 1) := by decide +kernel
theorem dX12_e_269 : decode cX12_e 269 = .ok (.irem, 1) := by decide +kernel
theorem dX12_e_270 : decode cX12_e 270 = .ok (.iadd, 1) := by decide +kernel
theorem dX12_e_271 : decode cX12_e 271 = .ok (.baload, 1) := by decide +kernel
theorem dX12_e_272 : decode cX12_e 272 = .ok (.sipush 255, 3) := by decide +kernel
