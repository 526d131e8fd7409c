theorem dX0_init_0 : decode cX0_init 0 = .ok (.aload_n 0, 1) := by decide +kernel
theorem dX0_init_1 : decode cX0_init 1 = .ok (.invokespecial 3, 3) := by decide +kernel
theorem dX0_init_4 : decode cX0_init 4 = .ok (.aload_n 0, 1) := by decide +kernel
theorem dX0_init_5 : decode cX0_init 5 = .ok (.bipush 8, 2) := by decide +kernel
theorem dX0_init_7 : decode cX0_init 7 = .ok (.anewarray 11, 3) := by decide +kernel
theorem dX0_init_10 : decode cX0_init 10 = .ok (.putfield 13, 3) := by decide +kernel
theorem dX0_init_13 : decode cX0_init 13 = .ok (.aload_n 0, 1) := by decide +kernel
theorem dX0_init_14 : decode cX0_init 14 = .ok (.bipush 8, 2) := by decide +kernel
theorem dX0_init_16 : decode cX0_init 16 = .ok (.newarray .int, 2) := by decide +kernel
theorem dX0_init_18 : decode cX0_init 18 = .ok (.putfield 17, 3) := by decide +kernel
theorem dX0_init_21 : decode cX0_init 21 = .ok (.aload_n 0, 1) := by decide +kernel
theorem dX0_init_22 : decode cX0_init 22 = .ok (.iconst 2, 1) := by decide +kernel
theorem dX0_init_23 : decode cX0_init 23 = .ok (.bipush 64, 2) := by decide +kernel
theorem dX0_init_25 : decode cX0_init 25 = .ok (.multianewarray 21 2, 4) := by decide +kernel
theorem dX0_init_29 : decode cX0_init 29 = .ok (.putfield 23, 3) := by decide +kernel
theorem dX0_init_32 : decode cX0_init 32 = .ok (.aload_n 0, 1) := by decide +kernel
theorem dX0_init_33 : decode cX0_init 33 = .ok (.iconst 2, 1) := by decide +kernel
theorem dX0_init_34 : decode cX0_init 34 = .ok (.newarray .int, 2) := by decide +kernel
theorem dX0_init_36 : decode cX0_init 36 = .ok (.putfield 26, 3) := by decide +kernel
theorem dX0_init_39 : decode cX0_init 39 = .ok (.aload_n 0, 1) := by decide +kernel
theorem dX0_init_40 : decode cX0_init 40 = .ok (.iconst 2, 1) := by decide +kernel
theorem dX0_init_41 : decode cX0_init 41 = .ok (.newarray .int, 2) := by decide +kernel
theorem dX0_init_43 : decode cX0_init 43 = .ok (.putfield 29, 3) := by decide +kernel
theorem dX0_init_46 : decode cX0_init 46 = .ok (.aload_n 0, 1) := by decide +kernel
theorem dX0_init_47 : decode cX0_init 47 = .ok (.new 11, 3) := by decide +kernel
theorem dX0_init_50 : decode cX0_init 50 = .ok (.dup, 1) := by decide +kernel
theorem dX0_init_51 : decode cX0_init 51 = .ok (.bipush 40, 2) := by decide +kernel
theorem dX0_init_53 : decode cX0_init 53 = .ok (.invokespecial 32, 3) := by decide +kernel
theorem dX0_init_56 : decode cX0_init 56 = .ok (.putfield 35, 3) := by decide +kernel
theorem dX0_init_59 : decode cX0_init 59 = .ok (.aload_n 0, 1) := by decide +kernel
theorem dX0_init_60 : decode cX0_init 60 = .ok (.new 11, 3) := by decide +kernel
theorem dX0_init_63 : decode cX0_init 63 = .ok (.dup, 1) := by decide +kernel
theorem dX0_init_64 : decode cX0_init 64 = .ok (.bipush 31, 2) := by decide +kernel
theorem dX0_init_66 : decode cX0_init 66 = .ok (.invokespecial 32, 3) := by decide +kernel
theorem dX0_init_69 : decode cX0_init 69 = .ok (.putfield 39, 3) := by decide +kernel
theorem dX0_init_72 : decode cX0_init 72 = .ok (.iconst 0, 1) := by decide +kernel
theorem dX0_init_73 : decode cX0_init 73 = .ok (.istore_n 1, 1) := by decide +kernel
theorem dX0_init_74 : decode cX0_init 74 = .ok (.iload_n 1, 1) := by decide +kernel
theorem dX0_init_75 : decode cX0_init 75 = .ok (.aload_n 0, 1) := by decide +kernel
theorem dX0_init_76 : decode cX0_init 76 = .ok (.getfield 13, 3) := by decide +kernel
theorem dX0_init_79 : decode cX0_init 79 = .ok (.arraylength, 1) := by decide +kernel
theorem dX0_init_80 : decode cX0_init 80 = .ok (.if_icmp .ge 24, 3) := by decide +kernel
theorem dX0_init_83 : decode cX0_init 83 = .ok (.aload_n 0, 1) := by decide +kernel
theorem dX0_init_84 : decode cX0_init 84 = .ok (.getfield 13, 3) := by decide +kernel
theorem dX0_init_87 : decode cX0_init 87 = .ok (.iload_n 1, 1) := by decide +kernel
theorem dX0_init_88 : decode cX0_init 88 = .ok (.new 11, 3) := by decide +kernel
theorem dX0_init_91 : decode cX0_init 91 = .ok (.dup, 1) := by decide +kernel
theorem dX0_init_92 : decode cX0_init 92 = .ok (.bipush 40, 2) := by decide +kernel
theorem dX0_init_94 : decode cX0_init 94 = .ok (.invokespecial 32, 3) := by decide +kernel
theorem dX0_init_97 : decode cX0_init 97 = .ok (.aastore, 1) := by decide +kernel
theorem dX0_init_98 : decode cX0_init 98 = .ok (.iinc 1 1, 3) := by decide +kernel
theorem dX0_init_101 : decode cX0_init 101 = .ok (.goto (-27), 3) := by decide +kernel
theorem dX0_init_104 : decode cX0_init 104 = .ok (.return_, 1) := by decide +kernel
theorem dX0_clear_0 : decode cX0_clear 0 = .ok (.aload_n 0, 1) := by decide +kernel
theorem dX0_clear_1 : decode cX0_clear 1 = .ok (.iconst 0, 1) := by decide +kernel
theorem dX0_clear_2 : decode cX0_clear 2 = .ok (.putfield 42, 3) := by decide +kernel
theorem dX0_clear_5 : decode cX0_clear 5 = .ok (.return_, 1) := by decide +kernel
theorem dX0_disturbNext_0 : decode cX0_disturbNext 0 = .ok (.iload_n 1, 1) := by decide +kernel
theorem dX0_disturbNext_1 : decode cX0_disturbNext 1 = .ok (.ifCond .lt 30, 3) := by decide +kernel
theorem dX0_disturbNext_4 : decode cX0_disturbNext 4 = .ok (.iload_n 1, 1) := by decide +kernel
theorem dX0_disturbNext_5 : decode cX0_disturbNext 5 = .ok (.iconst 1, 1) := by decide +kernel
theorem dX0_disturbNext_6 : decode cX0_disturbNext 6 = .ok (.if_icmp .gt 25, 3) := by decide +kernel
theorem dX0_disturbNext_9 : decode cX0_disturbNext 9 = .ok (.iload_n 2, 1) := by decide +kernel
theorem dX0_disturbNext_10 : decode cX0_disturbNext 10 = .ok (.ifCond .lt 21, 3) := by decide +kernel
theorem dX0_disturbNext_13 : decode cX0_disturbNext 13 = .ok (.iload_n 2, 1) := by decide +kernel
theorem dX0_disturbNext_14 : decode cX0_disturbNext 14 = .ok (.sipush 320, 3) := by decide +kernel
theorem dX0_disturbNext_17 : decode cX0_disturbNext 17 = .ok (.if_icmp .ge 14, 3) := by decide +kernel
theorem dX0_disturbNext_20 : decode cX0_disturbNext 20 = .ok (.aload_n 0, 1) := by decide +kernel
theorem dX0_disturbNext_21 : decode cX0_disturbNext 21 = .ok (.getfield 26, 3) := by decide +kernel
theorem dX0_disturbNext_24 : decode cX0_disturbNext 24 = .ok (.iload_n 1, 1) := by decide +kernel
theorem dX0_disturbNext_25 : decode cX0_disturbNext 25 = .ok (.iaload, 1) := by decide +kernel
theorem dX0_disturbNext_26 : decode cX0_disturbNext 26 = .ok (.bipush 64, 2) := by decide +kernel
theorem dX0_disturbNext_28 : decode cX0_disturbNext 28 = .ok (.if_icmp .lt 5, 3) := by decide +kernel
theorem dX0_disturbNext_31 : decode cX0_disturbNext 31 = .ok (.iconst 0, 1) := by decide +kernel
theorem dX0_disturbNext_32 : decode cX0_disturbNext 32 = .ok (.ireturn, 1) := by decide +kernel
theorem dX0_disturbNext_33 : decode cX0_disturbNext 33 = .ok (.aload_n 0, 1) := by decide +kernel
theorem dX0_disturbNext_34 : decode cX0_disturbNext 34 = .ok (.getfield 23, 3) := by decide +kernel
theorem dX0_disturbNext_37 : decode cX0_disturbNext 37 = .ok (.iload_n 1, 1) := by decide +kernel
theorem dX0_disturbNext_38 : decode cX0_disturbNext 38 = .ok (.aaload, 1) := by decide +kernel
theorem dX0_disturbNext_39 : decode cX0_disturbNext 39 = .ok (.aload_n 0, 1) := by decide +kernel
theorem dX0_disturbNext_40 : decode cX0_disturbNext 40 = .ok (.getfield 26, 3) := by decide +kernel
theorem dX0_disturbNext_43 : decode cX0_disturbNext 43 = .ok (.iload_n 1, 1) := by decide +kernel
theorem dX0_disturbNext_44 : decode cX0_disturbNext 44 = .ok (.iaload, 1) := by decide +kernel
theorem dX0_disturbNext_45 : decode cX0_disturbNext 45 = .ok (.iload_n 2, 1) := by decide +kernel
theorem dX0_disturbNext_46 : decode cX0_disturbNext 46 = .ok (.iastore, 1) := by decide +kernel
theorem dX0_disturbNext_47 : decode cX0_disturbNext 47 = .ok (.aload_n 0, 1) := by decide +kernel
theorem dX0_disturbNext_48 : decode cX0_disturbNext 48 = .ok (.getfield 26, 3) := by decide +kernel
theorem dX0_disturbNext_51 : decode cX0_disturbNext 51 = .ok (.iload_n 1, 1) := by decide +kernel
theorem dX0_disturbNext_52 : decode cX0_disturbNext 52 = .ok (.dup2, 1) := by decide +kernel
theorem dX0_disturbNext_53 : decode cX0_disturbNext 53 = .ok (.iaload, 1) := by decide +kernel
theorem dX0_disturbNext_54 : decode cX0_disturbNext 54 = .ok (.iconst 1, 1) := by decide +kernel
theorem dX0_disturbNext_55 : decode cX0_disturbNext 55 = .ok (.iadd, 1) := by decide +kernel
theorem dX0_disturbNext_56 : decode cX0_disturbNext 56 = .ok (.iastore, 1) := by decide +kernel
theorem dX0_disturbNext_57 : decode cX0_disturbNext 57 = .ok (.iconst 1, 1) := by decide +kernel
theorem dX0_disturbNext_58 : decode cX0_disturbNext 58 = .ok (.ireturn, 1) := by decide +kernel
theorem dX0_loseNext_0 : decode cX0_loseNext 0 = .ok (.iload_n 1, 1) := by decide +kernel
theorem dX0_loseNext_1 : decode cX0_loseNext 1 = .ok (.ifCond .lt 18, 3) := by decide +kernel
theorem dX0_loseNext_4 : decode cX0_loseNext 4 = .ok (.iload_n 1, 1) := by decide +kernel
theorem dX0_loseNext_5 : decode cX0_loseNext 5 = .ok (.iconst 1, 1) := by decide +kernel
theorem dX0_loseNext_6 : decode cX0_loseNext 6 = .ok (.if_icmp .gt 13, 3) := by decide +kernel
theorem dX0_loseNext_9 : decode cX0_loseNext 9 = .ok (.iload_n 2, 1) := by decide +kernel
theorem dX0_loseNext_10 : decode cX0_loseNext 10 = .ok (.ifCond .lt 9, 3) := by decide +kernel
theorem dX0_loseNext_13 : decode cX0_loseNext 13 = .ok (.iload_n 2, 1) := by decide +kernel
theorem dX0_loseNext_14 : decode cX0_loseNext 14 = .ok (.bipush 100, 2) := by decide +kernel
theorem dX0_loseNext_16 : decode cX0_loseNext 16 = .ok (.if_icmp .le 5, 3) := by decide +kernel
theorem dX0_loseNext_19 : decode cX0_loseNext 19 = .ok (.iconst 0, 1) := by decide +kernel
theorem dX0_loseNext_20 : decode cX0_loseNext 20 = .ok (.ireturn, 1) := by decide +kernel
theorem dX0_loseNext_21 : decode cX0_loseNext 21 = .ok (.aload_n 0, 1) := by decide +kernel
theorem dX0_loseNext_22 : decode cX0_loseNext 22 = .ok (.getfield 29, 3) := by decide +kernel
theorem dX0_loseNext_25 : decode cX0_loseNext 25 = .ok (.iload_n 1, 1) := by decide +kernel
theorem dX0_loseNext_26 : decode cX0_loseNext 26 = .ok (.iload_n 2, 1) := by decide +kernel
theorem dX0_loseNext_27 : decode cX0_loseNext 27 = .ok (.iastore, 1) := by decide +kernel
theorem dX0_loseNext_28 : decode cX0_loseNext 28 = .ok (.iconst 1, 1) := by decide +kernel
theorem dX0_loseNext_29 : decode cX0_loseNext 29 = .ok (.ireturn, 1) := by decide +kernel
theorem dX0_lossesOf_0 : decode cX0_lossesOf 0 = .ok (.iload_n 1, 1) := by decide +kernel
theorem dX0_lossesOf_1 : decode cX0_lossesOf 1 = .ok (.ifCond .eq 8, 3) := by decide +kernel
theorem dX0_lossesOf_4 : decode cX0_lossesOf 4 = .ok (.iload_n 1, 1) := by decide +kernel
theorem dX0_lossesOf_5 : decode cX0_lossesOf 5 = .ok (.iconst 1, 1) := by decide +kernel
theorem dX0_lossesOf_6 : decode cX0_lossesOf 6 = .ok (.if_icmp .ne 12, 3) := by decide +kernel
theorem dX0_lossesOf_9 : decode cX0_lossesOf 9 = .ok (.aload_n 0, 1) := by decide +kernel
theorem dX0_lossesOf_10 : decode cX0_lossesOf 10 = .ok (.getfield 29, 3) := by decide +kernel
theorem dX0_lossesOf_13 : decode cX0_lossesOf 13 = .ok (.iload_n 1, 1) := by decide +kernel
theorem dX0_lossesOf_14 : decode cX0_lossesOf 14 = .ok (.iaload, 1) := by decide +kernel
theorem dX0_lossesOf_15 : decode cX0_lossesOf 15 = .ok (.goto 4, 3) := by decide +kernel
theorem dX0_lossesOf_18 : decode cX0_lossesOf 18 = .ok (.iconst (-1), 1) := by decide +kernel
theorem dX0_lossesOf_19 : decode cX0_lossesOf 19 = .ok (.ireturn, 1) := by decide +kernel
theorem dX0_figure_0 : decode cX0_figure 0 = .ok (.iload_n 1, 1) := by decide +kernel
theorem dX0_figure_1 : decode cX0_figure 1 = .ok (.ifCond .lt 20, 3) := by decide +kernel
theorem dX0_figure_4 : decode cX0_figure 4 = .ok (.iload_n 1, 1) := by decide +kernel
theorem dX0_figure_5 : decode cX0_figure 5 = .ok (.aload_n 0, 1) := by decide +kernel
theorem dX0_figure_6 : decode cX0_figure 6 = .ok (.getfield 42, 3) := by decide +kernel
theorem dX0_figure_9 : decode cX0_figure 9 = .ok (.if_icmp .ge 12, 3) := by decide +kernel
theorem dX0_figure_12 : decode cX0_figure 12 = .ok (.iload_n 1, 1) := by decide +kernel
theorem dX0_figure_13 : decode cX0_figure 13 = .ok (.aload_n 0, 1) := by decide +kernel
theorem dX0_figure_14 : decode cX0_figure 14 = .ok (.getfield 13, 3) := by decide +kernel
theorem dX0_figure_17 : decode cX0_figure 17 = .ok (.arraylength, 1) := by decide +kernel
theorem dX0_figure_18 : decode cX0_figure 18 = .ok (.if_icmp .lt 5, 3) := by decide +kernel
theorem dX0_figure_21 : decode cX0_figure 21 = .ok (.iconst (-1), 1) := by decide +kernel
theorem dX0_figure_22 : decode cX0_figure 22 = .ok (.ireturn, 1) := by decide +kernel
theorem dX0_figure_23 : decode cX0_figure 23 = .ok (.iload_n 2, 1) := by decide +kernel
theorem dX0_figure_24 : decode cX0_figure 24 = .ok (.bipush (-2), 2) := by decide +kernel
theorem dX0_figure_26 : decode cX0_figure 26 = .ok (.if_icmp .ne 10, 3) := by decide +kernel
theorem dX0_figure_29 : decode cX0_figure 29 = .ok (.aload_n 0, 1) := by decide +kernel
theorem dX0_figure_30 : decode cX0_figure 30 = .ok (.getfield 17, 3) := by decide +kernel
theorem dX0_figure_33 : decode cX0_figure 33 = .ok (.iload_n 1, 1) := by decide +kernel
theorem dX0_figure_34 : decode cX0_figure 34 = .ok (.iaload, 1) := by decide +kernel
theorem dX0_figure_35 : decode cX0_figure 35 = .ok (.ireturn, 1) := by decide +kernel
theorem dX0_figure_36 : decode cX0_figure 36 = .ok (.iload_n 2, 1) := by decide +kernel
theorem dX0_figure_37 : decode cX0_figure 37 = .ok (.iconst (-1), 1) := by decide +kernel
theorem dX0_figure_38 : decode cX0_figure 38 = .ok (.if_icmp .ne 15, 3) := by decide +kernel
theorem dX0_figure_41 : decode cX0_figure 41 = .ok (.aload_n 0, 1) := by decide +kernel
theorem dX0_figure_42 : decode cX0_figure 42 = .ok (.getfield 13, 3) := by decide +kernel
theorem dX0_figure_45 : decode cX0_figure 45 = .ok (.iload_n 1, 1) := by decide +kernel
theorem dX0_figure_46 : decode cX0_figure 46 = .ok (.aaload, 1) := by decide +kernel
theorem dX0_figure_47 : decode cX0_figure 47 = .ok (.getfield 46, 3) := by decide +kernel
theorem dX0_figure_50 : decode cX0_figure 50 = .ok (.goto 13, 3) := by decide +kernel
theorem dX0_figure_53 : decode cX0_figure 53 = .ok (.aload_n 0, 1) := by decide +kernel
theorem dX0_figure_54 : decode cX0_figure 54 = .ok (.getfield 13, 3) := by decide +kernel
theorem dX0_figure_57 : decode cX0_figure 57 = .ok (.iload_n 1, 1) := by decide +kernel
theorem dX0_figure_58 : decode cX0_figure 58 = .ok (.aaload, 1) := by decide +kernel
theorem dX0_figure_59 : decode cX0_figure 59 = .ok (.iload_n 2, 1) := by decide +kernel
theorem dX0_figure_60 : decode cX0_figure 60 = .ok (.invokevirtual 49, 3) := by decide +kernel
theorem dX0_figure_63 : decode cX0_figure 63 = .ok (.ireturn, 1) := by decide +kernel
theorem dX0_transmit_0 : decode cX0_transmit 0 = .ok (.iload_n 1, 1) := by decide +kernel
theorem dX0_transmit_1 : decode cX0_transmit 1 = .ok (.ifCond .lt 20, 3) := by decide +kernel
theorem dX0_transmit_4 : decode cX0_transmit 4 = .ok (.iload_n 1, 1) := by decide +kernel
theorem dX0_transmit_5 : decode cX0_transmit 5 = .ok (.iconst 1, 1) := by decide +kernel
theorem dX0_transmit_6 : decode cX0_transmit 6 = .ok (.if_icmp .gt 15, 3) := by decide +kernel
theorem dX0_transmit_9 : decode cX0_transmit 9 = .ok (.aload_n 0, 1) := by decide +kernel
theorem dX0_transmit_10 : decode cX0_transmit 10 = .ok (.getfield 42, 3) := by decide +kernel
theorem dX0_transmit_13 : decode cX0_transmit 13 = .ok (.aload_n 0, 1) := by decide +kernel
theorem dX0_transmit_14 : decode cX0_transmit 14 = .ok (.getfield 13, 3) := by decide +kernel
theorem dX0_transmit_17 : decode cX0_transmit 17 = .ok (.arraylength, 1) := by decide +kernel
theorem dX0_transmit_18 : decode cX0_transmit 18 = .ok (.if_icmp .lt 4, 3) := by decide +kernel
theorem dX0_transmit_21 : decode cX0_transmit 21 = .ok (.return_, 1) := by decide +kernel
theorem dX0_transmit_22 : decode cX0_transmit 22 = .ok (.aload_n 0, 1) := by decide +kernel
theorem dX0_transmit_23 : decode cX0_transmit 23 = .ok (.getfield 13, 3) := by decide +kernel
theorem dX0_transmit_26 : decode cX0_transmit 26 = .ok (.aload_n 0, 1) := by decide +kernel
theorem dX0_transmit_27 : decode cX0_transmit 27 = .ok (.getfield 42, 3) := by decide +kernel
theorem dX0_transmit_30 : decode cX0_transmit 30 = .ok (.aaload, 1) := by decide +kernel
theorem dX0_transmit_31 : decode cX0_transmit 31 = .ok (.astore 7, 2) := by decide +kernel
theorem dX0_transmit_33 : decode cX0_transmit 33 = .ok (.aload 7, 2) := by decide +kernel
theorem dX0_transmit_35 : decode cX0_transmit 35 = .ok (.invokevirtual 53, 3) := by decide +kernel
theorem dX0_transmit_38 : decode cX0_transmit 38 = .ok (.aload 7, 2) := by decide +kernel
theorem dX0_transmit_40 : decode cX0_transmit 40 = .ok (.iload_n 3, 1) := by decide +kernel
theorem dX0_transmit_41 : decode cX0_transmit 41 = .ok (.i2l, 1) := by decide +kernel
theorem dX0_transmit_42 : decode cX0_transmit 42 = .ok (.iconst 4, 1) := by decide +kernel
theorem dX0_transmit_43 : decode cX0_transmit 43 = .ok (.invokevirtual 56, 3) := by decide +kernel
theorem dX0_transmit_46 : decode cX0_transmit 46 = .ok (.aload 7, 2) := by decide +kernel
theorem dX0_transmit_48 : decode cX0_transmit 48 = .ok (.iload 5, 2) := by decide +kernel
theorem dX0_transmit_50 : decode cX0_transmit 50 = .ok (.invokevirtual 60, 3) := by decide +kernel
theorem dX0_transmit_53 : decode cX0_transmit 53 = .ok (.aload 7, 2) := by decide +kernel
theorem dX0_transmit_55 : decode cX0_transmit 55 = .ok (.aload 6, 2) := by decide +kernel
theorem dX0_transmit_57 : decode cX0_transmit 57 = .ok (.getfield 46, 3) := by decide +kernel
theorem dX0_transmit_60 : decode cX0_transmit 60 = .ok (.invokevirtual 60, 3) := by decide +kernel
theorem dX0_transmit_63 : decode cX0_transmit 63 = .ok (.aload 7, 2) := by decide +kernel
theorem dX0_transmit_65 : decode cX0_transmit 65 = .ok (.aload 6, 2) := by decide +kernel
theorem dX0_transmit_67 : decode cX0_transmit 67 = .ok (.iconst 0, 1) := by decide +kernel
theorem dX0_transmit_68 : decode cX0_transmit 68 = .ok (.aload 6, 2) := by decide +kernel
theorem dX0_transmit_70 : decode cX0_transmit 70 = .ok (.getfield 46, 3) := by decide +kernel
theorem dX0_transmit_73 : decode cX0_transmit 73 = .ok (.invokevirtual 63, 3) := by decide +kernel
theorem dX0_transmit_76 : decode cX0_transmit 76 = .ok (.aload 7, 2) := by decide +kernel
theorem dX0_transmit_78 : decode cX0_transmit 78 = .ok (.aload 7, 2) := by decide +kernel
theorem dX0_transmit_80 : decode cX0_transmit 80 = .ok (.aload 7, 2) := by decide +kernel
theorem dX0_transmit_82 : decode cX0_transmit 82 = .ok (.getfield 46, 3) := by decide +kernel
theorem dX0_transmit_85 : decode cX0_transmit 85 = .ok (.iload 4, 2) := by decide +kernel
theorem dX0_transmit_87 : decode cX0_transmit 87 = .ok (.invokestatic 67, 3) := by decide +kernel
theorem dX0_transmit_90 : decode cX0_transmit 90 = .ok (.i2l, 1) := by decide +kernel
theorem dX0_transmit_91 : decode cX0_transmit 91 = .ok (.iconst 3, 1) := by decide +kernel
theorem dX0_transmit_92 : decode cX0_transmit 92 = .ok (.invokevirtual 56, 3) := by decide +kernel
theorem dX0_transmit_95 : decode cX0_transmit 95 = .ok (.aload 7, 2) := by decide +kernel
theorem dX0_transmit_97 : decode cX0_transmit 97 = .ok (.iload_n 2, 1) := by decide +kernel
theorem dX0_transmit_98 : decode cX0_transmit 98 = .ok (.invokestatic 71, 3) := by decide +kernel
theorem dX0_transmit_101 : decode cX0_transmit 101 = .ok (.aload_n 0, 1) := by decide +kernel
theorem dX0_transmit_102 : decode cX0_transmit 102 = .ok (.aload 7, 2) := by decide +kernel
theorem dX0_transmit_104 : decode cX0_transmit 104 = .ok (.iload_n 1, 1) := by decide +kernel
theorem dX0_transmit_105 : decode cX0_transmit 105 = .ok (.invokevirtual 75, 3) := by decide +kernel
theorem dX0_transmit_108 : decode cX0_transmit 108 = .ok (.aload_n 0, 1) := by decide +kernel
theorem dX0_transmit_109 : decode cX0_transmit 109 = .ok (.getfield 17, 3) := by decide +kernel
theorem dX0_transmit_112 : decode cX0_transmit 112 = .ok (.aload_n 0, 1) := by decide +kernel
theorem dX0_transmit_113 : decode cX0_transmit 113 = .ok (.getfield 42, 3) := by decide +kernel
theorem dX0_transmit_116 : decode cX0_transmit 116 = .ok (.iload_n 2, 1) := by decide +kernel
theorem dX0_transmit_117 : decode cX0_transmit 117 = .ok (.iastore, 1) := by decide +kernel
theorem dX0_transmit_118 : decode cX0_transmit 118 = .ok (.aload_n 0, 1) := by decide +kernel
theorem dX0_transmit_119 : decode cX0_transmit 119 = .ok (.dup, 1) := by decide +kernel
theorem dX0_transmit_120 : decode cX0_transmit 120 = .ok (.getfield 42, 3) := by decide +kernel
theorem dX0_transmit_123 : decode cX0_transmit 123 = .ok (.iconst 1, 1) := by decide +kernel
theorem dX0_transmit_124 : decode cX0_transmit 124 = .ok (.iadd, 1) := by decide +kernel
theorem dX0_transmit_125 : decode cX0_transmit 125 = .ok (.putfield 42, 3) := by decide +kernel
theorem dX0_transmit_128 : decode cX0_transmit 128 = .ok (.aload_n 0, 1) := by decide +kernel
theorem dX0_transmit_129 : decode cX0_transmit 129 = .ok (.aload_n 0, 1) := by decide +kernel
theorem dX0_transmit_130 : decode cX0_transmit 130 = .ok (.getfield 29, 3) := by decide +kernel
theorem dX0_transmit_133 : decode cX0_transmit 133 = .ok (.iload_n 1, 1) := by decide +kernel
theorem dX0_transmit_134 : decode cX0_transmit 134 = .ok (.iaload, 1) := by decide +kernel
theorem dX0_transmit_135 : decode cX0_transmit 135 = .ok (.ifCond .le 7, 3) := by decide +kernel
theorem dX0_transmit_138 : decode cX0_transmit 138 = .ok (.iconst 1, 1) := by decide +kernel
theorem dX0_transmit_139 : decode cX0_transmit 139 = .ok (.goto 4, 3) := by decide +kernel
theorem dX0_transmit_142 : decode cX0_transmit 142 = .ok (.iconst 0, 1) := by decide +kernel
theorem dX0_transmit_143 : decode cX0_transmit 143 = .ok (.putfield 78, 3) := by decide +kernel
theorem dX0_transmit_146 : decode cX0_transmit 146 = .ok (.aload_n 0, 1) := by decide +kernel
theorem dX0_transmit_147 : decode cX0_transmit 147 = .ok (.getfield 78, 3) := by decide +kernel
theorem dX0_transmit_150 : decode cX0_transmit 150 = .ok (.ifCond .eq 13, 3) := by decide +kernel
theorem dX0_transmit_153 : decode cX0_transmit 153 = .ok (.aload_n 0, 1) := by decide +kernel
theorem dX0_transmit_154 : decode cX0_transmit 154 = .ok (.getfield 29, 3) := by decide +kernel
theorem dX0_transmit_157 : decode cX0_transmit 157 = .ok (.iload_n 1, 1) := by decide +kernel
theorem dX0_transmit_158 : decode cX0_transmit 158 = .ok (.dup2, 1) := by decide +kernel
theorem dX0_transmit_159 : decode cX0_transmit 159 = .ok (.iaload, 1) := by decide +kernel
theorem dX0_transmit_160 : decode cX0_transmit 160 = .ok (.iconst 1, 1) := by decide +kernel
theorem dX0_transmit_161 : decode cX0_transmit 161 = .ok (.isub, 1) := by decide +kernel
theorem dX0_transmit_162 : decode cX0_transmit 162 = .ok (.iastore, 1) := by decide +kernel
theorem dX0_transmit_163 : decode cX0_transmit 163 = .ok (.return_, 1) := by decide +kernel
theorem dX0_disturb_0 : decode cX0_disturb 0 = .ok (.iconst 0, 1) := by decide +kernel
theorem dX0_disturb_1 : decode cX0_disturb 1 = .ok (.istore_n 3, 1) := by decide +kernel
theorem dX0_disturb_2 : decode cX0_disturb 2 = .ok (.iload_n 3, 1) := by decide +kernel
theorem dX0_disturb_3 : decode cX0_disturb 3 = .ok (.aload_n 0, 1) := by decide +kernel
theorem dX0_disturb_4 : decode cX0_disturb 4 = .ok (.getfield 26, 3) := by decide +kernel
theorem dX0_disturb_7 : decode cX0_disturb 7 = .ok (.iload_n 2, 1) := by decide +kernel
theorem dX0_disturb_8 : decode cX0_disturb 8 = .ok (.iaload, 1) := by decide +kernel
theorem dX0_disturb_9 : decode cX0_disturb 9 = .ok (.if_icmp .ge 40, 3) := by decide +kernel
theorem dX0_disturb_12 : decode cX0_disturb 12 = .ok (.iload_n 3, 1) := by decide +kernel
theorem dX0_disturb_13 : decode cX0_disturb 13 = .ok (.bipush 64, 2) := by decide +kernel
theorem dX0_disturb_15 : decode cX0_disturb 15 = .ok (.if_icmp .ge 34, 3) := by decide +kernel
theorem dX0_disturb_18 : decode cX0_disturb 18 = .ok (.aload_n 0, 1) := by decide +kernel
theorem dX0_disturb_19 : decode cX0_disturb 19 = .ok (.getfield 23, 3) := by decide +kernel
theorem dX0_disturb_22 : decode cX0_disturb 22 = .ok (.iload_n 2, 1) := by decide +kernel
theorem dX0_disturb_23 : decode cX0_disturb 23 = .ok (.aaload, 1) := by decide +kernel
theorem dX0_disturb_24 : decode cX0_disturb 24 = .ok (.iload_n 3, 1) := by decide +kernel
theorem dX0_disturb_25 : decode cX0_disturb 25 = .ok (.iaload, 1) := by decide +kernel
theorem dX0_disturb_26 : decode cX0_disturb 26 = .ok (.istore 4, 2) := by decide +kernel
theorem dX0_disturb_28 : decode cX0_disturb 28 = .ok (.aload_n 1, 1) := by decide +kernel
theorem dX0_disturb_29 : decode cX0_disturb 29 = .ok (.iload 4, 2) := by decide +kernel
theorem dX0_disturb_31 : decode cX0_disturb 31 = .ok (.iconst 3, 1) := by decide +kernel
theorem dX0_disturb_32 : decode cX0_disturb 32 = .ok (.ishr, 1) := by decide +kernel
theorem dX0_disturb_33 : decode cX0_disturb 33 = .ok (.iconst 1, 1) := by decide +kernel
theorem dX0_disturb_34 : decode cX0_disturb 34 = .ok (.iload 4, 2) := by decide +kernel
theorem dX0_disturb_36 : decode cX0_disturb 36 = .ok (.bipush 7, 2) := by decide +kernel
theorem dX0_disturb_38 : decode cX0_disturb 38 = .ok (.iand, 1) := by decide +kernel
theorem dX0_disturb_39 : decode cX0_disturb 39 = .ok (.ishl, 1) := by decide +kernel
theorem dX0_disturb_40 : decode cX0_disturb 40 = .ok (.invokevirtual 82, 3) := by decide +kernel
theorem dX0_disturb_43 : decode cX0_disturb 43 = .ok (.iinc 3 1, 3) := by decide +kernel
theorem dX0_disturb_46 : decode cX0_disturb 46 = .ok (.goto (-44), 3) := by decide +kernel
theorem dX0_disturb_49 : decode cX0_disturb 49 = .ok (.aload_n 0, 1) := by decide +kernel
theorem dX0_disturb_50 : decode cX0_disturb 50 = .ok (.getfield 26, 3) := by decide +kernel
theorem dX0_disturb_53 : decode cX0_disturb 53 = .ok (.iload_n 2, 1) := by decide +kernel
theorem dX0_disturb_54 : decode cX0_disturb 54 = .ok (.iconst 0, 1) := by decide +kernel
theorem dX0_disturb_55 : decode cX0_disturb 55 = .ok (.iastore, 1) := by decide +kernel
theorem dX0_disturb_56 : decode cX0_disturb 56 = .ok (.return_, 1) := by decide +kernel
theorem dX0_isHeard_0 : decode cX0_isHeard 0 = .ok (.aload_n 0, 1) := by decide +kernel
theorem dX0_isHeard_1 : decode cX0_isHeard 1 = .ok (.getfield 42, 3) := by decide +kernel
theorem dX0_isHeard_4 : decode cX0_isHeard 4 = .ok (.iconst 1, 1) := by decide +kernel
theorem dX0_isHeard_5 : decode cX0_isHeard 5 = .ok (.isub, 1) := by decide +kernel
theorem dX0_isHeard_6 : decode cX0_isHeard 6 = .ok (.istore_n 3, 1) := by decide +kernel
theorem dX0_isHeard_7 : decode cX0_isHeard 7 = .ok (.iload_n 3, 1) := by decide +kernel
theorem dX0_isHeard_8 : decode cX0_isHeard 8 = .ok (.ifCond .lt 49, 3) := by decide +kernel
theorem dX0_isHeard_11 : decode cX0_isHeard 11 = .ok (.iload_n 3, 1) := by decide +kernel
theorem dX0_isHeard_12 : decode cX0_isHeard 12 = .ok (.aload_n 0, 1) := by decide +kernel
theorem dX0_isHeard_13 : decode cX0_isHeard 13 = .ok (.getfield 13, 3) := by decide +kernel
theorem dX0_isHeard_16 : decode cX0_isHeard 16 = .ok (.arraylength, 1) := by decide +kernel
theorem dX0_isHeard_17 : decode cX0_isHeard 17 = .ok (.if_icmp .ge 40, 3) := by decide +kernel
theorem dX0_isHeard_20 : decode cX0_isHeard 20 = .ok (.aload_n 0, 1) := by decide +kernel
theorem dX0_isHeard_21 : decode cX0_isHeard 21 = .ok (.getfield 78, 3) := by decide +kernel
theorem dX0_isHeard_24 : decode cX0_isHeard 24 = .ok (.ifCond .ne 33, 3) := by decide +kernel
theorem dX0_isHeard_27 : decode cX0_isHeard 27 = .ok (.aload_n 0, 1) := by decide +kernel
theorem dX0_isHeard_28 : decode cX0_isHeard 28 = .ok (.getfield 17, 3) := by decide +kernel
theorem dX0_isHeard_31 : decode cX0_isHeard 31 = .ok (.iload_n 3, 1) := by decide +kernel
theorem dX0_isHeard_32 : decode cX0_isHeard 32 = .ok (.iaload, 1) := by decide +kernel
theorem dX0_isHeard_33 : decode cX0_isHeard 33 = .ok (.iload_n 1, 1) := by decide +kernel
theorem dX0_isHeard_34 : decode cX0_isHeard 34 = .ok (.if_icmp .ne 23, 3) := by decide +kernel
theorem dX0_isHeard_37 : decode cX0_isHeard 37 = .ok (.aload_n 0, 1) := by decide +kernel
theorem dX0_isHeard_38 : decode cX0_isHeard 38 = .ok (.getfield 13, 3) := by decide +kernel
theorem dX0_isHeard_41 : decode cX0_isHeard 41 = .ok (.iload_n 3, 1) := by decide +kernel
theorem dX0_isHeard_42 : decode cX0_isHeard 42 = .ok (.aaload, 1) := by decide +kernel
theorem dX0_isHeard_43 : decode cX0_isHeard 43 = .ok (.iconst 0, 1) := by decide +kernel
theorem dX0_isHeard_44 : decode cX0_isHeard 44 = .ok (.iconst 4, 1) := by decide +kernel
theorem dX0_isHeard_45 : decode cX0_isHeard 45 = .ok (.invokevirtual 86, 3) := by decide +kernel
theorem dX0_isHeard_48 : decode cX0_isHeard 48 = .ok (.l2i, 1) := by decide +kernel
theorem dX0_isHeard_49 : decode cX0_isHeard 49 = .ok (.iload_n 2, 1) := by decide +kernel
theorem dX0_isHeard_50 : decode cX0_isHeard 50 = .ok (.if_icmp .ne 7, 3) := by decide +kernel
theorem dX0_isHeard_53 : decode cX0_isHeard 53 = .ok (.iconst 1, 1) := by decide +kernel
theorem dX0_isHeard_54 : decode cX0_isHeard 54 = .ok (.goto 4, 3) := by decide +kernel
theorem dX0_isHeard_57 : decode cX0_isHeard 57 = .ok (.iconst 0, 1) := by decide +kernel
theorem dX0_isHeard_58 : decode cX0_isHeard 58 = .ok (.ireturn, 1) := by decide +kernel
theorem dX0_isGood_0 : decode cX0_isGood 0 = .ok (.aload_n 0, 1) := by decide +kernel
theorem dX0_isGood_1 : decode cX0_isGood 1 = .ok (.getfield 42, 3) := by decide +kernel
theorem dX0_isGood_4 : decode cX0_isGood 4 = .ok (.iconst 1, 1) := by decide +kernel
theorem dX0_isGood_5 : decode cX0_isGood 5 = .ok (.isub, 1) := by decide +kernel
theorem dX0_isGood_6 : decode cX0_isGood 6 = .ok (.istore_n 3, 1) := by decide +kernel
theorem dX0_isGood_7 : decode cX0_isGood 7 = .ok (.iload_n 3, 1) := by decide +kernel
theorem dX0_isGood_8 : decode cX0_isGood 8 = .ok (.ifCond .lt 12, 3) := by decide +kernel
theorem dX0_isGood_11 : decode cX0_isGood 11 = .ok (.iload_n 3, 1) := by decide +kernel
theorem dX0_isGood_12 : decode cX0_isGood 12 = .ok (.aload_n 0, 1) := by decide +kernel
theorem dX0_isGood_13 : decode cX0_isGood 13 = .ok (.getfield 13, 3) := by decide +kernel
theorem dX0_isGood_16 : decode cX0_isGood 16 = .ok (.arraylength, 1) := by decide +kernel
theorem dX0_isGood_17 : decode cX0_isGood 17 = .ok (.if_icmp .lt 5, 3) := by decide +kernel
theorem dX0_isGood_20 : decode cX0_isGood 20 = .ok (.iconst 0, 1) := by decide +kernel
theorem dX0_isGood_21 : decode cX0_isGood 21 = .ok (.ireturn, 1) := by decide +kernel
theorem dX0_isGood_22 : decode cX0_isGood 22 = .ok (.aload_n 0, 1) := by decide +kernel
theorem dX0_isGood_23 : decode cX0_isGood 23 = .ok (.getfield 35, 3) := by decide +kernel
theorem dX0_isGood_26 : decode cX0_isGood 26 = .ok (.aload_n 0, 1) := by decide +kernel
theorem dX0_isGood_27 : decode cX0_isGood 27 = .ok (.getfield 13, 3) := by decide +kernel
theorem dX0_isGood_30 : decode cX0_isGood 30 = .ok (.iload_n 3, 1) := by decide +kernel
theorem dX0_isGood_31 : decode cX0_isGood 31 = .ok (.aaload, 1) := by decide +kernel
theorem dX0_isGood_32 : decode cX0_isGood 32 = .ok (.invokevirtual 90, 3) := by decide +kernel
theorem dX0_isGood_35 : decode cX0_isGood 35 = .ok (.aload_n 0, 1) := by decide +kernel
theorem dX0_isGood_36 : decode cX0_isGood 36 = .ok (.getfield 35, 3) := by decide +kernel
theorem dX0_isGood_39 : decode cX0_isGood 39 = .ok (.iload_n 1, 1) := by decide +kernel
theorem dX0_isGood_40 : decode cX0_isGood 40 = .ok (.invokestatic 71, 3) := by decide +kernel
theorem dX0_isGood_43 : decode cX0_isGood 43 = .ok (.aload_n 0, 1) := by decide +kernel
theorem dX0_isGood_44 : decode cX0_isGood 44 = .ok (.getfield 35, 3) := by decide +kernel
theorem dX0_isGood_47 : decode cX0_isGood 47 = .ok (.getfield 46, 3) := by decide +kernel
theorem dX0_isGood_50 : decode cX0_isGood 50 = .ok (.iconst 3, 1) := by decide +kernel
theorem dX0_isGood_51 : decode cX0_isGood 51 = .ok (.isub, 1) := by decide +kernel
theorem dX0_isGood_52 : decode cX0_isGood 52 = .ok (.istore 4, 2) := by decide +kernel
theorem dX0_isGood_54 : decode cX0_isGood 54 = .ok (.aload_n 0, 1) := by decide +kernel
theorem dX0_isGood_55 : decode cX0_isGood 55 = .ok (.aload_n 0, 1) := by decide +kernel
theorem dX0_isGood_56 : decode cX0_isGood 56 = .ok (.getfield 35, 3) := by decide +kernel
theorem dX0_isGood_59 : decode cX0_isGood 59 = .ok (.iconst 4, 1) := by decide +kernel
theorem dX0_isGood_60 : decode cX0_isGood 60 = .ok (.invokevirtual 49, 3) := by decide +kernel
theorem dX0_isGood_63 : decode cX0_isGood 63 = .ok (.putfield 94, 3) := by decide +kernel
theorem dX0_isGood_66 : decode cX0_isGood 66 = .ok (.aload_n 0, 1) := by decide +kernel
theorem dX0_isGood_67 : decode cX0_isGood 67 = .ok (.getfield 39, 3) := by decide +kernel
theorem dX0_isGood_70 : decode cX0_isGood 70 = .ok (.invokevirtual 53, 3) := by decide +kernel
theorem dX0_isGood_73 : decode cX0_isGood 73 = .ok (.aload_n 0, 1) := by decide +kernel
theorem dX0_isGood_74 : decode cX0_isGood 74 = .ok (.getfield 39, 3) := by decide +kernel
theorem dX0_isGood_77 : decode cX0_isGood 77 = .ok (.aload_n 0, 1) := by decide +kernel
theorem dX0_isGood_78 : decode cX0_isGood 78 = .ok (.getfield 35, 3) := by decide +kernel
theorem dX0_isGood_81 : decode cX0_isGood 81 = .ok (.bipush 6, 2) := by decide +kernel
theorem dX0_isGood_83 : decode cX0_isGood 83 = .ok (.iload 4, 2) := by decide +kernel
theorem dX0_isGood_85 : decode cX0_isGood 85 = .ok (.bipush 6, 2) := by decide +kernel
theorem dX0_isGood_87 : decode cX0_isGood 87 = .ok (.isub, 1) := by decide +kernel
theorem dX0_isGood_88 : decode cX0_isGood 88 = .ok (.invokevirtual 63, 3) := by decide +kernel
theorem dX0_isGood_91 : decode cX0_isGood 91 = .ok (.aload_n 0, 1) := by decide +kernel
theorem dX0_isGood_92 : decode cX0_isGood 92 = .ok (.getfield 35, 3) := by decide +kernel
theorem dX0_isGood_95 : decode cX0_isGood 95 = .ok (.iconst 5, 1) := by decide +kernel
theorem dX0_isGood_96 : decode cX0_isGood 96 = .ok (.invokevirtual 49, 3) := by decide +kernel
theorem dX0_isGood_99 : decode cX0_isGood 99 = .ok (.aload_n 0, 1) := by decide +kernel
theorem dX0_isGood_100 : decode cX0_isGood 100 = .ok (.getfield 39, 3) := by decide +kernel
theorem dX0_isGood_103 : decode cX0_isGood 103 = .ok (.getfield 46, 3) := by decide +kernel
theorem dX0_isGood_106 : decode cX0_isGood 106 = .ok (.if_icmp .ne 32, 3) := by decide +kernel
theorem dX0_isGood_109 : decode cX0_isGood 109 = .ok (.aload_n 0, 1) := by decide +kernel
theorem dX0_isGood_110 : decode cX0_isGood 110 = .ok (.getfield 35, 3) := by decide +kernel
theorem dX0_isGood_113 : decode cX0_isGood 113 = .ok (.iload 4, 2) := by decide +kernel
theorem dX0_isGood_115 : decode cX0_isGood 115 = .ok (.iconst 3, 1) := by decide +kernel
theorem dX0_isGood_116 : decode cX0_isGood 116 = .ok (.invokevirtual 86, 3) := by decide +kernel
theorem dX0_isGood_119 : decode cX0_isGood 119 = .ok (.aload_n 0, 1) := by decide +kernel
theorem dX0_isGood_120 : decode cX0_isGood 120 = .ok (.getfield 35, 3) := by decide +kernel
theorem dX0_isGood_123 : decode cX0_isGood 123 = .ok (.iload 4, 2) := by decide +kernel
theorem dX0_isGood_125 : decode cX0_isGood 125 = .ok (.iload_n 2, 1) := by decide +kernel
theorem dX0_isGood_126 : decode cX0_isGood 126 = .ok (.invokestatic 67, 3) := by decide +kernel
theorem dX0_isGood_129 : decode cX0_isGood 129 = .ok (.i2l, 1) := by decide +kernel
theorem dX0_isGood_130 : decode cX0_isGood 130 = .ok (.lcmp, 1) := by decide +kernel
theorem dX0_isGood_131 : decode cX0_isGood 131 = .ok (.ifCond .ne 7, 3) := by decide +kernel
theorem dX0_isGood_134 : decode cX0_isGood 134 = .ok (.iconst 1, 1) := by decide +kernel
theorem dX0_isGood_135 : decode cX0_isGood 135 = .ok (.goto 4, 3) := by decide +kernel
theorem dX0_isGood_138 : decode cX0_isGood 138 = .ok (.iconst 0, 1) := by decide +kernel
theorem dX0_isGood_139 : decode cX0_isGood 139 = .ok (.ireturn, 1) := by decide +kernel
theorem dX0_whiten_0 : decode cX0_whiten 0 = .ok (.bipush 64, 2) := by decide +kernel
theorem dX0_whiten_2 : decode cX0_whiten 2 = .ok (.iload_n 1, 1) := by decide +kernel
theorem dX0_whiten_3 : decode cX0_whiten 3 = .ok (.iadd, 1) := by decide +kernel
theorem dX0_whiten_4 : decode cX0_whiten 4 = .ok (.istore_n 2, 1) := by decide +kernel
theorem dX0_whiten_5 : decode cX0_whiten 5 = .ok (.iconst 4, 1) := by decide +kernel
theorem dX0_whiten_6 : decode cX0_whiten 6 = .ok (.istore_n 3, 1) := by decide +kernel
theorem dX0_whiten_7 : decode cX0_whiten 7 = .ok (.iload_n 3, 1) := by decide +kernel
theorem dX0_whiten_8 : decode cX0_whiten 8 = .ok (.aload_n 0, 1) := by decide +kernel
theorem dX0_whiten_9 : decode cX0_whiten 9 = .ok (.getfield 46, 3) := by decide +kernel
theorem dX0_whiten_12 : decode cX0_whiten 12 = .ok (.if_icmp .ge 64, 3) := by decide +kernel
theorem dX0_whiten_15 : decode cX0_whiten 15 = .ok (.iconst 0, 1) := by decide +kernel
theorem dX0_whiten_16 : decode cX0_whiten 16 = .ok (.istore 4, 2) := by decide +kernel
theorem dX0_whiten_18 : decode cX0_whiten 18 = .ok (.iconst 0, 1) := by decide +kernel
theorem dX0_whiten_19 : decode cX0_whiten 19 = .ok (.istore 5, 2) := by decide +kernel
theorem dX0_whiten_21 : decode cX0_whiten 21 = .ok (.iload 5, 2) := by decide +kernel
theorem dX0_whiten_23 : decode cX0_whiten 23 = .ok (.bipush 8, 2) := by decide +kernel
theorem dX0_whiten_25 : decode cX0_whiten 25 = .ok (.if_icmp .ge 34, 3) := by decide +kernel
theorem dX0_whiten_28 : decode cX0_whiten 28 = .ok (.iload_n 2, 1) := by decide +kernel
theorem dX0_whiten_29 : decode cX0_whiten 29 = .ok (.iconst 1, 1) := by decide +kernel
theorem dX0_whiten_30 : decode cX0_whiten 30 = .ok (.iand, 1) := by decide +kernel
theorem dX0_whiten_31 : decode cX0_whiten 31 = .ok (.istore 6, 2) := by decide +kernel
theorem dX0_whiten_33 : decode cX0_whiten 33 = .ok (.iload 4, 2) := by decide +kernel
theorem dX0_whiten_35 : decode cX0_whiten 35 = .ok (.iload 6, 2) := by decide +kernel
theorem dX0_whiten_37 : decode cX0_whiten 37 = .ok (.iload 5, 2) := by decide +kernel
theorem dX0_whiten_39 : decode cX0_whiten 39 = .ok (.ishl, 1) := by decide +kernel
theorem dX0_whiten_40 : decode cX0_whiten 40 = .ok (.ior, 1) := by decide +kernel
theorem dX0_whiten_41 : decode cX0_whiten 41 = .ok (.istore 4, 2) := by decide +kernel
theorem dX0_whiten_43 : decode cX0_whiten 43 = .ok (.iload_n 2, 1) := by decide +kernel
theorem dX0_whiten_44 : decode cX0_whiten 44 = .ok (.iconst 1, 1) := by decide +kernel
theorem dX0_whiten_45 : decode cX0_whiten 45 = .ok (.ishr, 1) := by decide +kernel
theorem dX0_whiten_46 : decode cX0_whiten 46 = .ok (.bipush 68, 2) := by decide +kernel
theorem dX0_whiten_48 : decode cX0_whiten 48 = .ok (.iload 6, 2) := by decide +kernel
theorem dX0_whiten_50 : decode cX0_whiten 50 = .ok (.imul, 1) := by decide +kernel
theorem dX0_whiten_51 : decode cX0_whiten 51 = .ok (.ixor, 1) := by decide +kernel
theorem dX0_whiten_52 : decode cX0_whiten 52 = .ok (.istore_n 2, 1) := by decide +kernel
theorem dX0_whiten_53 : decode cX0_whiten 53 = .ok (.iinc 5 1, 3) := by decide +kernel
theorem dX0_whiten_56 : decode cX0_whiten 56 = .ok (.goto (-35), 3) := by decide +kernel
theorem dX0_whiten_59 : decode cX0_whiten 59 = .ok (.aload_n 0, 1) := by decide +kernel
theorem dX0_whiten_60 : decode cX0_whiten 60 = .ok (.getfield 97, 3) := by decide +kernel
theorem dX0_whiten_63 : decode cX0_whiten 63 = .ok (.iload_n 3, 1) := by decide +kernel
theorem dX0_whiten_64 : decode cX0_whiten 64 = .ok (.dup2, 1) := by decide +kernel
theorem dX0_whiten_65 : decode cX0_whiten 65 = .ok (.iaload, 1) := by decide +kernel
theorem dX0_whiten_66 : decode cX0_whiten 66 = .ok (.iload 4, 2) := by decide +kernel
theorem dX0_whiten_68 : decode cX0_whiten 68 = .ok (.ixor, 1) := by decide +kernel
theorem dX0_whiten_69 : decode cX0_whiten 69 = .ok (.iastore, 1) := by decide +kernel
theorem dX0_whiten_70 : decode cX0_whiten 70 = .ok (.iinc 3 1, 3) := by decide +kernel
theorem dX0_whiten_73 : decode cX0_whiten 73 = .ok (.goto (-66), 3) := by decide +kernel
theorem dX0_whiten_76 : decode cX0_whiten 76 = .ok (.return_, 1) := by decide +kernel
theorem dX0_crcInOrder_0 : decode cX0_crcInOrder 0 = .ok (.iload_n 2, 1) := by decide +kernel
theorem dX0_crcInOrder_1 : decode cX0_crcInOrder 1 = .ok (.ldc 100, 2) := by decide +kernel
theorem dX0_crcInOrder_3 : decode cX0_crcInOrder 3 = .ok (.iand, 1) := by decide +kernel
theorem dX0_crcInOrder_4 : decode cX0_crcInOrder 4 = .ok (.istore_n 3, 1) := by decide +kernel
theorem dX0_crcInOrder_5 : decode cX0_crcInOrder 5 = .ok (.iconst 4, 1) := by decide +kernel
theorem dX0_crcInOrder_6 : decode cX0_crcInOrder 6 = .ok (.istore 4, 2) := by decide +kernel
theorem dX0_crcInOrder_8 : decode cX0_crcInOrder 8 = .ok (.iload 4, 2) := by decide +kernel
theorem dX0_crcInOrder_10 : decode cX0_crcInOrder 10 = .ok (.iload_n 1, 1) := by decide +kernel
theorem dX0_crcInOrder_11 : decode cX0_crcInOrder 11 = .ok (.if_icmp .ge 67, 3) := by decide +kernel
theorem dX0_crcInOrder_14 : decode cX0_crcInOrder 14 = .ok (.iload 4, 2) := by decide +kernel
theorem dX0_crcInOrder_16 : decode cX0_crcInOrder 16 = .ok (.aload_n 0, 1) := by decide +kernel
theorem dX0_crcInOrder_17 : decode cX0_crcInOrder 17 = .ok (.getfield 46, 3) := by decide +kernel
theorem dX0_crcInOrder_20 : decode cX0_crcInOrder 20 = .ok (.if_icmp .ge 58, 3) := by decide +kernel
theorem dX0_crcInOrder_23 : decode cX0_crcInOrder 23 = .ok (.iconst 0, 1) := by decide +kernel
theorem dX0_crcInOrder_24 : decode cX0_crcInOrder 24 = .ok (.istore 5, 2) := by decide +kernel
theorem dX0_crcInOrder_26 : decode cX0_crcInOrder 26 = .ok (.iload 5, 2) := by decide +kernel
theorem dX0_crcInOrder_28 : decode cX0_crcInOrder 28 = .ok (.bipush 8, 2) := by decide +kernel
theorem dX0_crcInOrder_30 : decode cX0_crcInOrder 30 = .ok (.if_icmp .ge 42, 3) := by decide +kernel
theorem dX0_crcInOrder_33 : decode cX0_crcInOrder 33 = .ok (.aload_n 0, 1) := by decide +kernel
theorem dX0_crcInOrder_34 : decode cX0_crcInOrder 34 = .ok (.getfield 97, 3) := by decide +kernel
theorem dX0_crcInOrder_37 : decode cX0_crcInOrder 37 = .ok (.iload 4, 2) := by decide +kernel
theorem dX0_crcInOrder_39 : decode cX0_crcInOrder 39 = .ok (.iaload, 1) := by decide +kernel
theorem dX0_crcInOrder_40 : decode cX0_crcInOrder 40 = .ok (.iload 5, 2) := by decide +kernel
theorem dX0_crcInOrder_42 : decode cX0_crcInOrder 42 = .ok (.ishr, 1) := by decide +kernel
theorem dX0_crcInOrder_43 : decode cX0_crcInOrder 43 = .ok (.iload_n 3, 1) := by decide +kernel
theorem dX0_crcInOrder_44 : decode cX0_crcInOrder 44 = .ok (.bipush 23, 2) := by decide +kernel
theorem dX0_crcInOrder_46 : decode cX0_crcInOrder 46 = .ok (.ishr, 1) := by decide +kernel
theorem dX0_crcInOrder_47 : decode cX0_crcInOrder 47 = .ok (.ixor, 1) := by decide +kernel
theorem dX0_crcInOrder_48 : decode cX0_crcInOrder 48 = .ok (.iconst 1, 1) := by decide +kernel
theorem dX0_crcInOrder_49 : decode cX0_crcInOrder 49 = .ok (.iand, 1) := by decide +kernel
theorem dX0_crcInOrder_50 : decode cX0_crcInOrder 50 = .ok (.istore 6, 2) := by decide +kernel
theorem dX0_crcInOrder_52 : decode cX0_crcInOrder 52 = .ok (.iload_n 3, 1) := by decide +kernel
theorem dX0_crcInOrder_53 : decode cX0_crcInOrder 53 = .ok (.iconst 1, 1) := by decide +kernel
theorem dX0_crcInOrder_54 : decode cX0_crcInOrder 54 = .ok (.ishl, 1) := by decide +kernel
theorem dX0_crcInOrder_55 : decode cX0_crcInOrder 55 = .ok (.ldc 100, 2) := by decide +kernel
theorem dX0_crcInOrder_57 : decode cX0_crcInOrder 57 = .ok (.iand, 1) := by decide +kernel
theorem dX0_crcInOrder_58 : decode cX0_crcInOrder 58 = .ok (.sipush 1627, 3) := by decide +kernel
theorem dX0_crcInOrder_61 : decode cX0_crcInOrder 61 = .ok (.iload 6, 2) := by decide +kernel
theorem dX0_crcInOrder_63 : decode cX0_crcInOrder 63 = .ok (.imul, 1) := by decide +kernel
theorem dX0_crcInOrder_64 : decode cX0_crcInOrder 64 = .ok (.ixor, 1) := by decide +kernel
theorem dX0_crcInOrder_65 : decode cX0_crcInOrder 65 = .ok (.istore_n 3, 1) := by decide +kernel
theorem dX0_crcInOrder_66 : decode cX0_crcInOrder 66 = .ok (.iinc 5 1, 3) := by decide +kernel
theorem dX0_crcInOrder_69 : decode cX0_crcInOrder 69 = .ok (.goto (-43), 3) := by decide +kernel
theorem dX0_crcInOrder_72 : decode cX0_crcInOrder 72 = .ok (.iinc 4 1, 3) := by decide +kernel
theorem dX0_crcInOrder_75 : decode cX0_crcInOrder 75 = .ok (.goto (-67), 3) := by decide +kernel
theorem dX0_crcInOrder_78 : decode cX0_crcInOrder 78 = .ok (.iconst 0, 1) := by decide +kernel
theorem dX0_crcInOrder_79 : decode cX0_crcInOrder 79 = .ok (.istore 4, 2) := by decide +kernel
theorem dX0_crcInOrder_81 : decode cX0_crcInOrder 81 = .ok (.iconst 0, 1) := by decide +kernel
theorem dX0_crcInOrder_82 : decode cX0_crcInOrder 82 = .ok (.istore 5, 2) := by decide +kernel
theorem dX0_crcInOrder_84 : decode cX0_crcInOrder 84 = .ok (.iload 5, 2) := by decide +kernel
theorem dX0_crcInOrder_86 : decode cX0_crcInOrder 86 = .ok (.bipush 24, 2) := by decide +kernel
theorem dX0_crcInOrder_88 : decode cX0_crcInOrder 88 = .ok (.if_icmp .ge 26, 3) := by decide +kernel
theorem dX0_crcInOrder_91 : decode cX0_crcInOrder 91 = .ok (.iload 4, 2) := by decide +kernel
theorem dX0_crcInOrder_93 : decode cX0_crcInOrder 93 = .ok (.iload_n 3, 1) := by decide +kernel
theorem dX0_crcInOrder_94 : decode cX0_crcInOrder 94 = .ok (.bipush 23, 2) := by decide +kernel
theorem dX0_crcInOrder_96 : decode cX0_crcInOrder 96 = .ok (.iload 5, 2) := by decide +kernel
theorem dX0_crcInOrder_98 : decode cX0_crcInOrder 98 = .ok (.isub, 1) := by decide +kernel
theorem dX0_crcInOrder_99 : decode cX0_crcInOrder 99 = .ok (.ishr, 1) := by decide +kernel
theorem dX0_crcInOrder_100 : decode cX0_crcInOrder 100 = .ok (.iconst 1, 1) := by decide +kernel
theorem dX0_crcInOrder_101 : decode cX0_crcInOrder 101 = .ok (.iand, 1) := by decide +kernel
theorem dX0_crcInOrder_102 : decode cX0_crcInOrder 102 = .ok (.iload 5, 2) := by decide +kernel
theorem dX0_crcInOrder_104 : decode cX0_crcInOrder 104 = .ok (.ishl, 1) := by decide +kernel
theorem dX0_crcInOrder_105 : decode cX0_crcInOrder 105 = .ok (.ior, 1) := by decide +kernel
theorem dX0_crcInOrder_106 : decode cX0_crcInOrder 106 = .ok (.istore 4, 2) := by decide +kernel
theorem dX0_crcInOrder_108 : decode cX0_crcInOrder 108 = .ok (.iinc 5 1, 3) := by decide +kernel
theorem dX0_crcInOrder_111 : decode cX0_crcInOrder 111 = .ok (.goto (-27), 3) := by decide +kernel
theorem dX0_crcInOrder_114 : decode cX0_crcInOrder 114 = .ok (.iload 4, 2) := by decide +kernel
theorem dX0_crcInOrder_116 : decode cX0_crcInOrder 116 = .ok (.ireturn, 1) := by decide +kernel
theorem dX1_init_0 : decode cX1_init 0 = .ok (.aload_n 0, 1) := by decide +kernel
theorem dX1_init_1 : decode cX1_init 1 = .ok (.invokespecial 1, 3) := by decide +kernel
theorem dX1_init_4 : decode cX1_init 4 = .ok (.aload_n 0, 1) := by decide +kernel
theorem dX1_init_5 : decode cX1_init 5 = .ok (.sipush 176, 3) := by decide +kernel
theorem dX1_init_8 : decode cX1_init 8 = .ok (.newarray .int, 2) := by decide +kernel
theorem dX1_init_10 : decode cX1_init 10 = .ok (.putfield 9, 3) := by decide +kernel
theorem dX1_init_13 : decode cX1_init 13 = .ok (.aload_n 0, 1) := by decide +kernel
theorem dX1_init_14 : decode cX1_init 14 = .ok (.bipush 16, 2) := by decide +kernel
theorem dX1_init_16 : decode cX1_init 16 = .ok (.newarray .int, 2) := by decide +kernel
theorem dX1_init_18 : decode cX1_init 18 = .ok (.putfield 13, 3) := by decide +kernel
theorem dX1_init_21 : decode cX1_init 21 = .ok (.return_, 1) := by decide +kernel
theorem dX1_loadKey_0 : decode cX1_loadKey 0 = .ok (.iconst 0, 1) := by decide +kernel
theorem dX1_loadKey_1 : decode cX1_loadKey 1 = .ok (.istore_n 2, 1) := by decide +kernel
theorem dX1_loadKey_2 : decode cX1_loadKey 2 = .ok (.iload_n 2, 1) := by decide +kernel
theorem dX1_loadKey_3 : decode cX1_loadKey 3 = .ok (.bipush 16, 2) := by decide +kernel
theorem dX1_loadKey_5 : decode cX1_loadKey 5 = .ok (.if_icmp .ge 28, 3) := by decide +kernel
theorem dX1_loadKey_8 : decode cX1_loadKey 8 = .ok (.iload_n 2, 1) := by decide +kernel
theorem dX1_loadKey_9 : decode cX1_loadKey 9 = .ok (.aload_n 1, 1) := by decide +kernel
theorem dX1_loadKey_10 : decode cX1_loadKey 10 = .ok (.arraylength, 1) := by decide +kernel
theorem dX1_loadKey_11 : decode cX1_loadKey 11 = .ok (.if_icmp .ge 22, 3) := by decide +kernel
theorem dX1_loadKey_14 : decode cX1_loadKey 14 = .ok (.aload_n 0, 1) := by decide +kernel
theorem dX1_loadKey_15 : decode cX1_loadKey 15 = .ok (.getfield 9, 3) := by decide +kernel
theorem dX1_loadKey_18 : decode cX1_loadKey 18 = .ok (.iload_n 2, 1) := by decide +kernel
theorem dX1_loadKey_19 : decode cX1_loadKey 19 = .ok (.aload_n 1, 1) := by decide +kernel
theorem dX1_loadKey_20 : decode cX1_loadKey 20 = .ok (.iload_n 2, 1) := by decide +kernel
theorem dX1_loadKey_21 : decode cX1_loadKey 21 = .ok (.iaload, 1) := by decide +kernel
theorem dX1_loadKey_22 : decode cX1_loadKey 22 = .ok (.sipush 255, 3) := by decide +kernel
theorem dX1_loadKey_25 : decode cX1_loadKey 25 = .ok (.iand, 1) := by decide +kernel
theorem dX1_loadKey_26 : decode cX1_loadKey 26 = .ok (.iastore, 1) := by decide +kernel
theorem dX1_loadKey_27 : decode cX1_loadKey 27 = .ok (.iinc 2 1, 3) := by decide +kernel
theorem dX1_loadKey_30 : decode cX1_loadKey 30 = .ok (.goto (-28), 3) := by decide +kernel
theorem dX1_loadKey_33 : decode cX1_loadKey 33 = .ok (.iconst 1, 1) := by decide +kernel
theorem dX1_loadKey_34 : decode cX1_loadKey 34 = .ok (.istore_n 2, 1) := by decide +kernel
theorem dX1_loadKey_35 : decode cX1_loadKey 35 = .ok (.bipush 16, 2) := by decide +kernel
theorem dX1_loadKey_37 : decode cX1_loadKey 37 = .ok (.istore_n 3, 1) := by decide +kernel
theorem dX1_loadKey_38 : decode cX1_loadKey 38 = .ok (.iload_n 3, 1) := by decide +kernel
theorem dX1_loadKey_39 : decode cX1_loadKey 39 = .ok (.aload_n 0, 1) := by decide +kernel
theorem dX1_loadKey_40 : decode cX1_loadKey 40 = .ok (.getfield 9, 3) := by decide +kernel
theorem dX1_loadKey_43 : decode cX1_loadKey 43 = .ok (.arraylength, 1) := by decide +kernel
theorem dX1_loadKey_44 : decode cX1_loadKey 44 = .ok (.if_icmp .ge 104, 3) := by decide +kernel
theorem dX1_loadKey_47 : decode cX1_loadKey 47 = .ok (.iload_n 3, 1) := by decide +kernel
theorem dX1_loadKey_48 : decode cX1_loadKey 48 = .ok (.bipush 16, 2) := by decide +kernel
theorem dX1_loadKey_50 : decode cX1_loadKey 50 = .ok (.irem, 1) := by decide +kernel
theorem dX1_loadKey_51 : decode cX1_loadKey 51 = .ok (.istore 4, 2) := by decide +kernel
theorem dX1_loadKey_53 : decode cX1_loadKey 53 = .ok (.aload_n 0, 1) := by decide +kernel
theorem dX1_loadKey_54 : decode cX1_loadKey 54 = .ok (.getfield 9, 3) := by decide +kernel
theorem dX1_loadKey_57 : decode cX1_loadKey 57 = .ok (.iload_n 3, 1) := by decide +kernel
theorem dX1_loadKey_58 : decode cX1_loadKey 58 = .ok (.iconst 4, 1) := by decide +kernel
theorem dX1_loadKey_59 : decode cX1_loadKey 59 = .ok (.isub, 1) := by decide +kernel
theorem dX1_loadKey_60 : decode cX1_loadKey 60 = .ok (.iaload, 1) := by decide +kernel
theorem dX1_loadKey_61 : decode cX1_loadKey 61 = .ok (.istore 5, 2) := by decide +kernel
theorem dX1_loadKey_63 : decode cX1_loadKey 63 = .ok (.iload 4, 2) := by decide +kernel
theorem dX1_loadKey_65 : decode cX1_loadKey 65 = .ok (.iconst 4, 1) := by decide +kernel
theorem dX1_loadKey_66 : decode cX1_loadKey 66 = .ok (.if_icmp .ge 34, 3) := by decide +kernel
theorem dX1_loadKey_69 : decode cX1_loadKey 69 = .ok (.getstatic 16, 3) := by decide +kernel
theorem dX1_loadKey_72 : decode cX1_loadKey 72 = .ok (.aload_n 0, 1) := by decide +kernel
theorem dX1_loadKey_73 : decode cX1_loadKey 73 = .ok (.getfield 9, 3) := by decide +kernel
theorem dX1_loadKey_76 : decode cX1_loadKey 76 = .ok (.iload 4, 2) := by decide +kernel
theorem dX1_loadKey_78 : decode cX1_loadKey 78 = .ok (.iconst 3, 1) := by decide +kernel
theorem dX1_loadKey_79 : decode cX1_loadKey 79 = .ok (.if_icmp .ne 10, 3) := by decide +kernel
theorem dX1_loadKey_82 : decode cX1_loadKey 82 = .ok (.iload_n 3, 1) := by decide +kernel
theorem dX1_loadKey_83 : decode cX1_loadKey 83 = .ok (.bipush 7, 2) := by decide +kernel
theorem dX1_loadKey_85 : decode cX1_loadKey 85 = .ok (.isub, 1) := by decide +kernel
theorem dX1_loadKey_86 : decode cX1_loadKey 86 = .ok (.goto 6, 3) := by decide +kernel
theorem dX1_loadKey_89 : decode cX1_loadKey 89 = .ok (.iload_n 3, 1) := by decide +kernel
theorem dX1_loadKey_90 : decode cX1_loadKey 90 = .ok (.iconst 3, 1) := by decide +kernel
theorem dX1_loadKey_91 : decode cX1_loadKey 91 = .ok (.isub, 1) := by decide +kernel
theorem dX1_loadKey_92 : decode cX1_loadKey 92 = .ok (.iaload, 1) := by decide +kernel
theorem dX1_loadKey_93 : decode cX1_loadKey 93 = .ok (.sipush 255, 3) := by decide +kernel
theorem dX1_loadKey_96 : decode cX1_loadKey 96 = .ok (.iand, 1) := by decide +kernel
theorem dX1_loadKey_97 : decode cX1_loadKey 97 = .ok (.iaload, 1) := by decide +kernel
theorem dX1_loadKey_98 : decode cX1_loadKey 98 = .ok (.istore 5, 2) := by decide +kernel
theorem dX1_loadKey_100 : decode cX1_loadKey 100 = .ok (.iload 4, 2) := by decide +kernel
theorem dX1_loadKey_102 : decode cX1_loadKey 102 = .ok (.ifCond .ne 22, 3) := by decide +kernel
theorem dX1_loadKey_105 : decode cX1_loadKey 105 = .ok (.iload 5, 2) := by decide +kernel
theorem dX1_loadKey_107 : decode cX1_loadKey 107 = .ok (.iload_n 2, 1) := by decide +kernel
theorem dX1_loadKey_108 : decode cX1_loadKey 108 = .ok (.ixor, 1) := by decide +kernel
theorem dX1_loadKey_109 : decode cX1_loadKey 109 = .ok (.istore 5, 2) := by decide +kernel
theorem dX1_loadKey_111 : decode cX1_loadKey 111 = .ok (.iload_n 2, 1) := by decide +kernel
theorem dX1_loadKey_112 : decode cX1_loadKey 112 = .ok (.iconst 1, 1) := by decide +kernel
theorem dX1_loadKey_113 : decode cX1_loadKey 113 = .ok (.ishl, 1) := by decide +kernel
theorem dX1_loadKey_114 : decode cX1_loadKey 114 = .ok (.sipush 283, 3) := by decide +kernel
theorem dX1_loadKey_117 : decode cX1_loadKey 117 = .ok (.iload_n 2, 1) := by decide +kernel
theorem dX1_loadKey_118 : decode cX1_loadKey 118 = .ok (.bipush 7, 2) := by decide +kernel
theorem dX1_loadKey_120 : decode cX1_loadKey 120 = .ok (.ishr, 1) := by decide +kernel
theorem dX1_loadKey_121 : decode cX1_loadKey 121 = .ok (.imul, 1) := by decide +kernel
theorem dX1_loadKey_122 : decode cX1_loadKey 122 = .ok (.ixor, 1) := by decide +kernel
theorem dX1_loadKey_123 : decode cX1_loadKey 123 = .ok (.istore_n 2, 1) := by decide +kernel
theorem dX1_loadKey_124 : decode cX1_loadKey 124 = .ok (.aload_n 0, 1) := by decide +kernel
theorem dX1_loadKey_125 : decode cX1_loadKey 125 = .ok (.getfield 9, 3) := by decide +kernel
theorem dX1_loadKey_128 : decode cX1_loadKey 128 = .ok (.iload_n 3, 1) := by decide +kernel
theorem dX1_loadKey_129 : decode cX1_loadKey 129 = .ok (.aload_n 0, 1) := by decide +kernel
theorem dX1_loadKey_130 : decode cX1_loadKey 130 = .ok (.getfield 9, 3) := by decide +kernel
theorem dX1_loadKey_133 : decode cX1_loadKey 133 = .ok (.iload_n 3, 1) := by decide +kernel
theorem dX1_loadKey_134 : decode cX1_loadKey 134 = .ok (.bipush 16, 2) := by decide +kernel
theorem dX1_loadKey_136 : decode cX1_loadKey 136 = .ok (.isub, 1) := by decide +kernel
theorem dX1_loadKey_137 : decode cX1_loadKey 137 = .ok (.iaload, 1) := by decide +kernel
theorem dX1_loadKey_138 : decode cX1_loadKey 138 = .ok (.iload 5, 2) := by decide +kernel
theorem dX1_loadKey_140 : decode cX1_loadKey 140 = .ok (.ixor, 1) := by decide +kernel
theorem dX1_loadKey_141 : decode cX1_loadKey 141 = .ok (.iastore, 1) := by decide +kernel
theorem dX1_loadKey_142 : decode cX1_loadKey 142 = .ok (.iinc 3 1, 3) := by decide +kernel
theorem dX1_loadKey_145 : decode cX1_loadKey 145 = .ok (.goto (-107), 3) := by decide +kernel
theorem dX1_loadKey_148 : decode cX1_loadKey 148 = .ok (.return_, 1) := by decide +kernel
theorem dX1_encipher_0 : decode cX1_encipher 0 = .ok (.aload_n 1, 1) := by decide +kernel
theorem dX1_encipher_1 : decode cX1_encipher 1 = .ok (.arraylength, 1) := by decide +kernel
theorem dX1_encipher_2 : decode cX1_encipher 2 = .ok (.bipush 16, 2) := by decide +kernel
theorem dX1_encipher_4 : decode cX1_encipher 4 = .ok (.if_icmp .ge 4, 3) := by decide +kernel
theorem dX1_encipher_7 : decode cX1_encipher 7 = .ok (.return_, 1) := by decide +kernel
theorem dX1_encipher_8 : decode cX1_encipher 8 = .ok (.iconst 0, 1) := by decide +kernel
theorem dX1_encipher_9 : decode cX1_encipher 9 = .ok (.istore_n 2, 1) := by decide +kernel
theorem dX1_encipher_10 : decode cX1_encipher 10 = .ok (.iload_n 2, 1) := by decide +kernel
theorem dX1_encipher_11 : decode cX1_encipher 11 = .ok (.bipush 16, 2) := by decide +kernel
theorem dX1_encipher_13 : decode cX1_encipher 13 = .ok (.if_icmp .ge 26, 3) := by decide +kernel
theorem dX1_encipher_16 : decode cX1_encipher 16 = .ok (.aload_n 1, 1) := by decide +kernel
theorem dX1_encipher_17 : decode cX1_encipher 17 = .ok (.iload_n 2, 1) := by decide +kernel
theorem dX1_encipher_18 : decode cX1_encipher 18 = .ok (.aload_n 1, 1) := by decide +kernel
theorem dX1_encipher_19 : decode cX1_encipher 19 = .ok (.iload_n 2, 1) := by decide +kernel
theorem dX1_encipher_20 : decode cX1_encipher 20 = .ok (.iaload, 1) := by decide +kernel
theorem dX1_encipher_21 : decode cX1_encipher 21 = .ok (.aload_n 0, 1) := by decide +kernel
theorem dX1_encipher_22 : decode cX1_encipher 22 = .ok (.getfield 9, 3) := by decide +kernel
theorem dX1_encipher_25 : decode cX1_encipher 25 = .ok (.iload_n 2, 1) := by decide +kernel
theorem dX1_encipher_26 : decode cX1_encipher 26 = .ok (.iaload, 1) := by decide +kernel
theorem dX1_encipher_27 : decode cX1_encipher 27 = .ok (.ixor, 1) := by decide +kernel
theorem dX1_encipher_28 : decode cX1_encipher 28 = .ok (.sipush 255, 3) := by decide +kernel
theorem dX1_encipher_31 : decode cX1_encipher 31 = .ok (.iand, 1) := by decide +kernel
theorem dX1_encipher_32 : decode cX1_encipher 32 = .ok (.iastore, 1) := by decide +kernel
theorem dX1_encipher_33 : decode cX1_encipher 33 = .ok (.iinc 2 1, 3) := by decide +kernel
theorem dX1_encipher_36 : decode cX1_encipher 36 = .ok (.goto (-26), 3) := by decide +kernel
theorem dX1_encipher_39 : decode cX1_encipher 39 = .ok (.iconst 1, 1) := by decide +kernel
theorem dX1_encipher_40 : decode cX1_encipher 40 = .ok (.istore_n 2, 1) := by decide +kernel
theorem dX1_encipher_41 : decode cX1_encipher 41 = .ok (.iload_n 2, 1) := by decide +kernel
theorem dX1_encipher_42 : decode cX1_encipher 42 = .ok (.bipush 10, 2) := by decide +kernel
theorem dX1_encipher_44 : decode cX1_encipher 44 = .ok (.if_icmp .gt 179, 3) := by decide +kernel
theorem dX1_encipher_47 : decode cX1_encipher 47 = .ok (.iconst 0, 1) := by decide +kernel
theorem dX1_encipher_48 : decode cX1_encipher 48 = .ok (.istore_n 3, 1) := by decide +kernel
theorem dX1_encipher_49 : decode cX1_encipher 49 = .ok (.iload_n 3, 1) := by decide +kernel
theorem dX1_encipher_50 : decode cX1_encipher 50 = .ok (.bipush 16, 2) := by decide +kernel
theorem dX1_encipher_52 : decode cX1_encipher 52 = .ok (.if_icmp .ge 35, 3) := by decide +kernel
theorem dX1_encipher_55 : decode cX1_encipher 55 = .ok (.aload_n 0, 1) := by decide +kernel
theorem dX1_encipher_56 : decode cX1_encipher 56 = .ok (.getfield 13, 3) := by decide +kernel
theorem dX1_encipher_59 : decode cX1_encipher 59 = .ok (.iload_n 3, 1) := by decide +kernel
theorem dX1_encipher_60 : decode cX1_encipher 60 = .ok (.getstatic 16, 3) := by decide +kernel
theorem dX1_encipher_63 : decode cX1_encipher 63 = .ok (.aload_n 1, 1) := by decide +kernel
theorem dX1_encipher_64 : decode cX1_encipher 64 = .ok (.iload_n 3, 1) := by decide +kernel
theorem dX1_encipher_65 : decode cX1_encipher 65 = .ok (.iconst 4, 1) := by decide +kernel
theorem dX1_encipher_66 : decode cX1_encipher 66 = .ok (.iload_n 3, 1) := by decide +kernel
theorem dX1_encipher_67 : decode cX1_encipher 67 = .ok (.iconst 3, 1) := by decide +kernel
theorem dX1_encipher_68 : decode cX1_encipher 68 = .ok (.iand, 1) := by decide +kernel
theorem dX1_encipher_69 : decode cX1_encipher 69 = .ok (.imul, 1) := by decide +kernel
theorem dX1_encipher_70 : decode cX1_encipher 70 = .ok (.iadd, 1) := by decide +kernel
theorem dX1_encipher_71 : decode cX1_encipher 71 = .ok (.bipush 15, 2) := by decide +kernel
theorem dX1_encipher_73 : decode cX1_encipher 73 = .ok (.iand, 1) := by decide +kernel
theorem dX1_encipher_74 : decode cX1_encipher 74 = .ok (.iaload, 1) := by decide +kernel
theorem dX1_encipher_75 : decode cX1_encipher 75 = .ok (.sipush 255, 3) := by decide +kernel
theorem dX1_encipher_78 : decode cX1_encipher 78 = .ok (.iand, 1) := by decide +kernel
theorem dX1_encipher_79 : decode cX1_encipher 79 = .ok (.iaload, 1) := by decide +kernel
theorem dX1_encipher_80 : decode cX1_encipher 80 = .ok (.iastore, 1) := by decide +kernel
theorem dX1_encipher_81 : decode cX1_encipher 81 = .ok (.iinc 3 1, 3) := by decide +kernel
theorem dX1_encipher_84 : decode cX1_encipher 84 = .ok (.goto (-35), 3) := by decide +kernel
theorem dX1_encipher_87 : decode cX1_encipher 87 = .ok (.iconst 0, 1) := by decide +kernel
theorem dX1_encipher_88 : decode cX1_encipher 88 = .ok (.istore_n 3, 1) := by decide +kernel
theorem dX1_encipher_89 : decode cX1_encipher 89 = .ok (.iload_n 3, 1) := by decide +kernel
theorem dX1_encipher_90 : decode cX1_encipher 90 = .ok (.bipush 16, 2) := by decide +kernel
theorem dX1_encipher_92 : decode cX1_encipher 92 = .ok (.if_icmp .ge 125, 3) := by decide +kernel
theorem dX1_encipher_95 : decode cX1_encipher 95 = .ok (.iload_n 3, 1) := by decide +kernel
theorem dX1_encipher_96 : decode cX1_encipher 96 = .ok (.bipush 12, 2) := by decide +kernel
theorem dX1_encipher_98 : decode cX1_encipher 98 = .ok (.iand, 1) := by decide +kernel
theorem dX1_encipher_99 : decode cX1_encipher 99 = .ok (.istore 4, 2) := by decide +kernel
theorem dX1_encipher_101 : decode cX1_encipher 101 = .ok (.aload_n 0, 1) := by decide +kernel
theorem dX1_encipher_102 : decode cX1_encipher 102 = .ok (.getfield 13, 3) := by decide +kernel
theorem dX1_encipher_105 : decode cX1_encipher 105 = .ok (.iload_n 3, 1) := by decide +kernel
theorem dX1_encipher_106 : decode cX1_encipher 106 = .ok (.iaload, 1) := by decide +kernel
theorem dX1_encipher_107 : decode cX1_encipher 107 = .ok (.istore 5, 2) := by decide +kernel
theorem dX1_encipher_109 : decode cX1_encipher 109 = .ok (.iload_n 2, 1) := by decide +kernel
theorem dX1_encipher_110 : decode cX1_encipher 110 = .ok (.bipush 10, 2) := by decide +kernel
theorem dX1_encipher_112 : decode cX1_encipher 112 = .ok (.if_icmp .ge 82, 3) := by decide +kernel
theorem dX1_encipher_115 : decode cX1_encipher 115 = .ok (.iload 5, 2) := by decide +kernel
theorem dX1_encipher_117 : decode cX1_encipher 117 = .ok (.aload_n 0, 1) := by decide +kernel
theorem dX1_encipher_118 : decode cX1_encipher 118 = .ok (.getfield 13, 3) := by decide +kernel
theorem dX1_encipher_121 : decode cX1_encipher 121 = .ok (.iload 4, 2) := by decide +kernel
theorem dX1_encipher_123 : decode cX1_encipher 123 = .ok (.iload_n 3, 1) := by decide +kernel
theorem dX1_encipher_124 : decode cX1_encipher 124 = .ok (.iconst 1, 1) := by decide +kernel
theorem dX1_encipher_125 : decode cX1_encipher 125 = .ok (.iadd, 1) := by decide +kernel
theorem dX1_encipher_126 : decode cX1_encipher 126 = .ok (.iconst 3, 1) := by decide +kernel
theorem dX1_encipher_127 : decode cX1_encipher 127 = .ok (.iand, 1) := by decide +kernel
theorem dX1_encipher_128 : decode cX1_encipher 128 = .ok (.iadd, 1) := by decide +kernel
theorem dX1_encipher_129 : decode cX1_encipher 129 = .ok (.iaload, 1) := by decide +kernel
theorem dX1_encipher_130 : decode cX1_encipher 130 = .ok (.ixor, 1) := by decide +kernel
theorem dX1_encipher_131 : decode cX1_encipher 131 = .ok (.istore 6, 2) := by decide +kernel
theorem dX1_encipher_133 : decode cX1_encipher 133 = .ok (.iload 5, 2) := by decide +kernel
theorem dX1_encipher_135 : decode cX1_encipher 135 = .ok (.aload_n 0, 1) := by decide +kernel
theorem dX1_encipher_136 : decode cX1_encipher 136 = .ok (.getfield 13, 3) := by decide +kernel
theorem dX1_encipher_139 : decode cX1_encipher 139 = .ok (.iload 4, 2) := by decide +kernel
theorem dX1_encipher_141 : decode cX1_encipher 141 = .ok (.iaload, 1) := by decide +kernel
theorem dX1_encipher_142 : decode cX1_encipher 142 = .ok (.aload_n 0, 1) := by decide +kernel
theorem dX1_encipher_143 : decode cX1_encipher 143 = .ok (.getfield 13, 3) := by decide +kernel
theorem dX1_encipher_146 : decode cX1_encipher 146 = .ok (.iload 4, 2) := by decide +kernel
theorem dX1_encipher_148 : decode cX1_encipher 148 = .ok (.iconst 1, 1) := by decide +kernel
theorem dX1_encipher_149 : decode cX1_encipher 149 = .ok (.iadd, 1) := by decide +kernel
theorem dX1_encipher_150 : decode cX1_encipher 150 = .ok (.iaload, 1) := by decide +kernel
theorem dX1_encipher_151 : decode cX1_encipher 151 = .ok (.ixor, 1) := by decide +kernel
theorem dX1_encipher_152 : decode cX1_encipher 152 = .ok (.aload_n 0, 1) := by decide +kernel
theorem dX1_encipher_153 : decode cX1_encipher 153 = .ok (.getfield 13, 3) := by decide +kernel
theorem dX1_encipher_156 : decode cX1_encipher 156 = .ok (.iload 4, 2) := by decide +kernel
theorem dX1_encipher_158 : decode cX1_encipher 158 = .ok (.iconst 2, 1) := by decide +kernel
theorem dX1_encipher_159 : decode cX1_encipher 159 = .ok (.iadd, 1) := by decide +kernel
theorem dX1_encipher_160 : decode cX1_encipher 160 = .ok (.iaload, 1) := by decide +kernel
theorem dX1_encipher_161 : decode cX1_encipher 161 = .ok (.ixor, 1) := by decide +kernel
theorem dX1_encipher_162 : decode cX1_encipher 162 = .ok (.aload_n 0, 1) := by decide +kernel
theorem dX1_encipher_163 : decode cX1_encipher 163 = .ok (.getfield 13, 3) := by decide +kernel
theorem dX1_encipher_166 : decode cX1_encipher 166 = .ok (.iload 4, 2) := by decide +kernel
theorem dX1_encipher_168 : decode cX1_encipher 168 = .ok (.iconst 3, 1) := by decide +kernel
theorem dX1_encipher_169 : decode cX1_encipher 169 = .ok (.iadd, 1) := by decide +kernel
theorem dX1_encipher_170 : decode cX1_encipher 170 = .ok (.iaload, 1) := by decide +kernel
theorem dX1_encipher_171 : decode cX1_encipher 171 = .ok (.ixor, 1) := by decide +kernel
theorem dX1_encipher_172 : decode cX1_encipher 172 = .ok (.ixor, 1) := by decide +kernel
theorem dX1_encipher_173 : decode cX1_encipher 173 = .ok (.istore 5, 2) := by decide +kernel
theorem dX1_encipher_175 : decode cX1_encipher 175 = .ok (.iload 5, 2) := by decide +kernel
theorem dX1_encipher_177 : decode cX1_encipher 177 = .ok (.iload 6, 2) := by decide +kernel
theorem dX1_encipher_179 : decode cX1_encipher 179 = .ok (.iconst 1, 1) := by decide +kernel
theorem dX1_encipher_180 : decode cX1_encipher 180 = .ok (.ishl, 1) := by decide +kernel
theorem dX1_encipher_181 : decode cX1_encipher 181 = .ok (.sipush 283, 3) := by decide +kernel
theorem dX1_encipher_184 : decode cX1_encipher 184 = .ok (.iload 6, 2) := by decide +kernel
theorem dX1_encipher_186 : decode cX1_encipher 186 = .ok (.bipush 7, 2) := by decide +kernel
theorem dX1_encipher_188 : decode cX1_encipher 188 = .ok (.ishr, 1) := by decide +kernel
theorem dX1_encipher_189 : decode cX1_encipher 189 = .ok (.imul, 1) := by decide +kernel
theorem dX1_encipher_190 : decode cX1_encipher 190 = .ok (.ixor, 1) := by decide +kernel
theorem dX1_encipher_191 : decode cX1_encipher 191 = .ok (.ixor, 1) := by decide +kernel
theorem dX1_encipher_192 : decode cX1_encipher 192 = .ok (.istore 5, 2) := by decide +kernel
theorem dX1_encipher_194 : decode cX1_encipher 194 = .ok (.aload_n 1, 1) := by decide +kernel
theorem dX1_encipher_195 : decode cX1_encipher 195 = .ok (.iload_n 3, 1) := by decide +kernel
theorem dX1_encipher_196 : decode cX1_encipher 196 = .ok (.iload 5, 2) := by decide +kernel
theorem dX1_encipher_198 : decode cX1_encipher 198 = .ok (.aload_n 0, 1) := by decide +kernel
theorem dX1_encipher_199 : decode cX1_encipher 199 = .ok (.getfield 9, 3) := by decide +kernel
theorem dX1_encipher_202 : decode cX1_encipher 202 = .ok (.bipush 16, 2) := by decide +kernel
theorem dX1_encipher_204 : decode cX1_encipher 204 = .ok (.iload_n 2, 1) := by decide +kernel
theorem dX1_encipher_205 : decode cX1_encipher 205 = .ok (.imul, 1) := by decide +kernel
theorem dX1_encipher_206 : decode cX1_encipher 206 = .ok (.iload_n 3, 1) := by decide +kernel
theorem dX1_encipher_207 : decode cX1_encipher 207 = .ok (.iadd, 1) := by decide +kernel
theorem dX1_encipher_208 : decode cX1_encipher 208 = .ok (.iaload, 1) := by decide +kernel
theorem dX1_encipher_209 : decode cX1_encipher 209 = .ok (.ixor, 1) := by decide +kernel
theorem dX1_encipher_210 : decode cX1_encipher 210 = .ok (.iastore, 1) := by decide +kernel
theorem dX1_encipher_211 : decode cX1_encipher 211 = .ok (.iinc 3 1, 3) := by decide +kernel
theorem dX1_encipher_214 : decode cX1_encipher 214 = .ok (.goto (-125), 3) := by decide +kernel
theorem dX1_encipher_217 : decode cX1_encipher 217 = .ok (.iinc 2 1, 3) := by decide +kernel
theorem dX1_encipher_220 : decode cX1_encipher 220 = .ok (.goto (-179), 3) := by decide +kernel
theorem dX1_encipher_223 : decode cX1_encipher 223 = .ok (.return_, 1) := by decide +kernel
theorem dX2_init_0 : decode cX2_init 0 = .ok (.aload_n 0, 1) := by decide +kernel
theorem dX2_init_1 : decode cX2_init 1 = .ok (.invokespecial 3, 3) := by decide +kernel
theorem dX2_init_4 : decode cX2_init 4 = .ok (.aload_n 0, 1) := by decide +kernel
theorem dX2_init_5 : decode cX2_init 5 = .ok (.iconst (-1), 1) := by decide +kernel
theorem dX2_init_6 : decode cX2_init 6 = .ok (.putfield 9, 3) := by decide +kernel
theorem dX2_init_9 : decode cX2_init 9 = .ok (.aload_n 0, 1) := by decide +kernel
theorem dX2_init_10 : decode cX2_init 10 = .ok (.new 15, 3) := by decide +kernel
theorem dX2_init_13 : decode cX2_init 13 = .ok (.dup, 1) := by decide +kernel
theorem dX2_init_14 : decode cX2_init 14 = .ok (.bipush 40, 2) := by decide +kernel
theorem dX2_init_16 : decode cX2_init 16 = .ok (.invokespecial 17, 3) := by decide +kernel
theorem dX2_init_19 : decode cX2_init 19 = .ok (.putfield 20, 3) := by decide +kernel
theorem dX2_init_22 : decode cX2_init 22 = .ok (.return_, 1) := by decide +kernel
theorem dX2_begin_0 : decode cX2_begin 0 = .ok (.aload_n 0, 1) := by decide +kernel
theorem dX2_begin_1 : decode cX2_begin 1 = .ok (.iload_n 1, 1) := by decide +kernel
theorem dX2_begin_2 : decode cX2_begin 2 = .ok (.putfield 9, 3) := by decide +kernel
theorem dX2_begin_5 : decode cX2_begin 5 = .ok (.aload_n 0, 1) := by decide +kernel
theorem dX2_begin_6 : decode cX2_begin 6 = .ok (.iload_n 2, 1) := by decide +kernel
theorem dX2_begin_7 : decode cX2_begin 7 = .ok (.putfield 24, 3) := by decide +kernel
theorem dX2_begin_10 : decode cX2_begin 10 = .ok (.aload_n 0, 1) := by decide +kernel
theorem dX2_begin_11 : decode cX2_begin 11 = .ok (.iload_n 3, 1) := by decide +kernel
theorem dX2_begin_12 : decode cX2_begin 12 = .ok (.putfield 27, 3) := by decide +kernel
theorem dX2_begin_15 : decode cX2_begin 15 = .ok (.aload_n 0, 1) := by decide +kernel
theorem dX2_begin_16 : decode cX2_begin 16 = .ok (.iconst 0, 1) := by decide +kernel
theorem dX2_begin_17 : decode cX2_begin 17 = .ok (.putfield 30, 3) := by decide +kernel
theorem dX2_begin_20 : decode cX2_begin 20 = .ok (.aload_n 0, 1) := by decide +kernel
theorem dX2_begin_21 : decode cX2_begin 21 = .ok (.iconst 0, 1) := by decide +kernel
theorem dX2_begin_22 : decode cX2_begin 22 = .ok (.putfield 33, 3) := by decide +kernel
theorem dX2_begin_25 : decode cX2_begin 25 = .ok (.aload_n 0, 1) := by decide +kernel
theorem dX2_begin_26 : decode cX2_begin 26 = .ok (.getfield 20, 3) := by decide +kernel
theorem dX2_begin_29 : decode cX2_begin 29 = .ok (.invokevirtual 36, 3) := by decide +kernel
theorem dX2_begin_32 : decode cX2_begin 32 = .ok (.return_, 1) := by decide +kernel
theorem dX2_firstHandle_0 : decode cX2_firstHandle 0 = .ok (.aload_n 0, 1) := by decide +kernel
theorem dX2_firstHandle_1 : decode cX2_firstHandle 1 = .ok (.getfield 9, 3) := by decide +kernel
theorem dX2_firstHandle_4 : decode cX2_firstHandle 4 = .ok (.iconst 2, 1) := by decide +kernel
theorem dX2_firstHandle_5 : decode cX2_firstHandle 5 = .ok (.if_icmp .eq 11, 3) := by decide +kernel
theorem dX2_firstHandle_8 : decode cX2_firstHandle 8 = .ok (.aload_n 0, 1) := by decide +kernel
theorem dX2_firstHandle_9 : decode cX2_firstHandle 9 = .ok (.getfield 9, 3) := by decide +kernel
theorem dX2_firstHandle_12 : decode cX2_firstHandle 12 = .ok (.iconst 3, 1) := by decide +kernel
theorem dX2_firstHandle_13 : decode cX2_firstHandle 13 = .ok (.if_icmp .ne 10, 3) := by decide +kernel
theorem dX2_firstHandle_16 : decode cX2_firstHandle 16 = .ok (.aload_n 0, 1) := by decide +kernel
theorem dX2_firstHandle_17 : decode cX2_firstHandle 17 = .ok (.getfield 24, 3) := by decide +kernel
theorem dX2_firstHandle_20 : decode cX2_firstHandle 20 = .ok (.goto 4, 3) := by decide +kernel
theorem dX2_firstHandle_23 : decode cX2_firstHandle 23 = .ok (.iconst 1, 1) := by decide +kernel
theorem dX2_firstHandle_24 : decode cX2_firstHandle 24 = .ok (.ireturn, 1) := by decide +kernel
theorem dX2_lastHandle_0 : decode cX2_lastHandle 0 = .ok (.aload_n 0, 1) := by decide +kernel
theorem dX2_lastHandle_1 : decode cX2_lastHandle 1 = .ok (.getfield 9, 3) := by decide +kernel
theorem dX2_lastHandle_4 : decode cX2_lastHandle 4 = .ok (.iconst 2, 1) := by decide +kernel
theorem dX2_lastHandle_5 : decode cX2_lastHandle 5 = .ok (.if_icmp .eq 11, 3) := by decide +kernel
theorem dX2_lastHandle_8 : decode cX2_lastHandle 8 = .ok (.aload_n 0, 1) := by decide +kernel
theorem dX2_lastHandle_9 : decode cX2_lastHandle 9 = .ok (.getfield 9, 3) := by decide +kernel
theorem dX2_lastHandle_12 : decode cX2_lastHandle 12 = .ok (.iconst 3, 1) := by decide +kernel
theorem dX2_lastHandle_13 : decode cX2_lastHandle 13 = .ok (.if_icmp .ne 10, 3) := by decide +kernel
theorem dX2_lastHandle_16 : decode cX2_lastHandle 16 = .ok (.aload_n 0, 1) := by decide +kernel
theorem dX2_lastHandle_17 : decode cX2_lastHandle 17 = .ok (.getfield 27, 3) := by decide +kernel
theorem dX2_lastHandle_20 : decode cX2_lastHandle 20 = .ok (.goto 5, 3) := by decide +kernel
theorem dX2_lastHandle_23 : decode cX2_lastHandle 23 = .ok (.ldc 39, 2) := by decide +kernel
theorem dX2_lastHandle_25 : decode cX2_lastHandle 25 = .ok (.ireturn, 1) := by decide +kernel
theorem dX2_ask_0 : decode cX2_ask 0 = .ok (.aload_n 0, 1) := by decide +kernel
theorem dX2_ask_1 : decode cX2_ask 1 = .ok (.getfield 9, 3) := by decide +kernel
theorem dX2_ask_4 : decode cX2_ask 4 = .ok (.tableswitch 160 0 5 #[40, 58, 72, 86, 97, 148], 40) := by decide +kernel
theorem dX2_ask_44 : decode cX2_ask 44 = .ok (.aload_n 3, 1) := by decide +kernel
theorem dX2_ask_45 : decode cX2_ask 45 = .ok (.iconst 2, 1) := by decide +kernel
theorem dX2_ask_46 : decode cX2_ask 46 = .ok (.invokevirtual 40, 3) := by decide +kernel
theorem dX2_ask_49 : decode cX2_ask 49 = .ok (.aload_n 3, 1) := by decide +kernel
theorem dX2_ask_50 : decode cX2_ask 50 = .ok (.aload_n 2, 1) := by decide +kernel
theorem dX2_ask_51 : decode cX2_ask 51 = .ok (.getfield 43, 3) := by decide +kernel
theorem dX2_ask_54 : decode cX2_ask 54 = .ok (.i2l, 1) := by decide +kernel
theorem dX2_ask_55 : decode cX2_ask 55 = .ok (.iconst 2, 1) := by decide +kernel
theorem dX2_ask_56 : decode cX2_ask 56 = .ok (.invokevirtual 48, 3) := by decide +kernel
theorem dX2_ask_59 : decode cX2_ask 59 = .ok (.goto 132, 3) := by decide +kernel
theorem dX2_ask_62 : decode cX2_ask 62 = .ok (.aload_n 0, 1) := by decide +kernel
theorem dX2_ask_63 : decode cX2_ask 63 = .ok (.bipush 16, 2) := by decide +kernel
theorem dX2_ask_65 : decode cX2_ask 65 = .ok (.iload_n 1, 1) := by decide +kernel
theorem dX2_ask_66 : decode cX2_ask 66 = .ok (.sipush 10240, 3) := by decide +kernel
theorem dX2_ask_69 : decode cX2_ask 69 = .ok (.aload_n 3, 1) := by decide +kernel
theorem dX2_ask_70 : decode cX2_ask 70 = .ok (.invokevirtual 52, 3) := by decide +kernel
theorem dX2_ask_73 : decode cX2_ask 73 = .ok (.goto 118, 3) := by decide +kernel
theorem dX2_ask_76 : decode cX2_ask 76 = .ok (.aload_n 0, 1) := by decide +kernel
theorem dX2_ask_77 : decode cX2_ask 77 = .ok (.bipush 8, 2) := by decide +kernel
theorem dX2_ask_79 : decode cX2_ask 79 = .ok (.iload_n 1, 1) := by decide +kernel
theorem dX2_ask_80 : decode cX2_ask 80 = .ok (.sipush 10243, 3) := by decide +kernel
theorem dX2_ask_83 : decode cX2_ask 83 = .ok (.aload_n 3, 1) := by decide +kernel
theorem dX2_ask_84 : decode cX2_ask 84 = .ok (.invokevirtual 52, 3) := by decide +kernel
theorem dX2_ask_87 : decode cX2_ask 87 = .ok (.goto 104, 3) := by decide +kernel
theorem dX2_ask_90 : decode cX2_ask 90 = .ok (.aload_n 0, 1) := by decide +kernel
theorem dX2_ask_91 : decode cX2_ask 91 = .ok (.iconst 4, 1) := by decide +kernel
theorem dX2_ask_92 : decode cX2_ask 92 = .ok (.iload_n 1, 1) := by decide +kernel
theorem dX2_ask_93 : decode cX2_ask 93 = .ok (.iconst (-1), 1) := by decide +kernel
theorem dX2_ask_94 : decode cX2_ask 94 = .ok (.aload_n 3, 1) := by decide +kernel
theorem dX2_ask_95 : decode cX2_ask 95 = .ok (.invokevirtual 52, 3) := by decide +kernel
theorem dX2_ask_98 : decode cX2_ask 98 = .ok (.goto 93, 3) := by decide +kernel
theorem dX2_ask_101 : decode cX2_ask 101 = .ok (.aload_n 3, 1) := by decide +kernel
theorem dX2_ask_102 : decode cX2_ask 102 = .ok (.aload_n 0, 1) := by decide +kernel
theorem dX2_ask_103 : decode cX2_ask 103 = .ok (.getfield 30, 3) := by decide +kernel
theorem dX2_ask_106 : decode cX2_ask 106 = .ok (.ifCond .ne 8, 3) := by decide +kernel
theorem dX2_ask_109 : decode cX2_ask 109 = .ok (.bipush 10, 2) := by decide +kernel
theorem dX2_ask_111 : decode cX2_ask 111 = .ok (.goto 5, 3) := by decide +kernel
theorem dX2_ask_114 : decode cX2_ask 114 = .ok (.bipush 12, 2) := by decide +kernel
theorem dX2_ask_116 : decode cX2_ask 116 = .ok (.invokevirtual 40, 3) := by decide +kernel
theorem dX2_ask_119 : decode cX2_ask 119 = .ok (.aload_n 3, 1) := by decide +kernel
theorem dX2_ask_120 : decode cX2_ask 120 = .ok (.aload_n 0, 1) := by decide +kernel
theorem dX2_ask_121 : decode cX2_ask 121 = .ok (.getfield 24, 3) := by decide +kernel
theorem dX2_ask_124 : decode cX2_ask 124 = .ok (.i2l, 1) := by decide +kernel
theorem dX2_ask_125 : decode cX2_ask 125 = .ok (.iconst 2, 1) := by decide +kernel
theorem dX2_ask_126 : decode cX2_ask 126 = .ok (.invokevirtual 48, 3) := by decide +kernel
theorem dX2_ask_129 : decode cX2_ask 129 = .ok (.aload_n 0, 1) := by decide +kernel
theorem dX2_ask_130 : decode cX2_ask 130 = .ok (.getfield 30, 3) := by decide +kernel
theorem dX2_ask_133 : decode cX2_ask 133 = .ok (.ifCond .eq 58, 3) := by decide +kernel
theorem dX2_ask_136 : decode cX2_ask 136 = .ok (.aload_n 3, 1) := by decide +kernel
theorem dX2_ask_137 : decode cX2_ask 137 = .ok (.aload_n 0, 1) := by decide +kernel
theorem dX2_ask_138 : decode cX2_ask 138 = .ok (.getfield 20, 3) := by decide +kernel
theorem dX2_ask_141 : decode cX2_ask 141 = .ok (.getfield 56, 3) := by decide +kernel
theorem dX2_ask_144 : decode cX2_ask 144 = .ok (.i2l, 1) := by decide +kernel
theorem dX2_ask_145 : decode cX2_ask 145 = .ok (.iconst 2, 1) := by decide +kernel
theorem dX2_ask_146 : decode cX2_ask 146 = .ok (.invokevirtual 48, 3) := by decide +kernel
theorem dX2_ask_149 : decode cX2_ask 149 = .ok (.goto 42, 3) := by decide +kernel
theorem dX2_ask_152 : decode cX2_ask 152 = .ok (.aload_n 0, 1) := by decide +kernel
theorem dX2_ask_153 : decode cX2_ask 153 = .ok (.aload_n 2, 1) := by decide +kernel
theorem dX2_ask_154 : decode cX2_ask 154 = .ok (.getfield 59, 3) := by decide +kernel
theorem dX2_ask_157 : decode cX2_ask 157 = .ok (.aload_n 3, 1) := by decide +kernel
theorem dX2_ask_158 : decode cX2_ask 158 = .ok (.invokevirtual 62, 3) := by decide +kernel
theorem dX2_ask_161 : decode cX2_ask 161 = .ok (.goto 30, 3) := by decide +kernel
theorem dX2_ask_164 : decode cX2_ask 164 = .ok (.aload_n 0, 1) := by decide +kernel
theorem dX2_ask_165 : decode cX2_ask 165 = .ok (.bipush 6, 2) := by decide +kernel
theorem dX2_ask_167 : decode cX2_ask 167 = .ok (.iload_n 1, 1) := by decide +kernel
theorem dX2_ask_168 : decode cX2_ask 168 = .ok (.sipush 10240, 3) := by decide +kernel
theorem dX2_ask_171 : decode cX2_ask 171 = .ok (.aload_n 3, 1) := by decide +kernel
theorem dX2_ask_172 : decode cX2_ask 172 = .ok (.invokevirtual 52, 3) := by decide +kernel
theorem dX2_ask_175 : decode cX2_ask 175 = .ok (.aload_n 3, 1) := by decide +kernel
theorem dX2_ask_176 : decode cX2_ask 176 = .ok (.aload_n 0, 1) := by decide +kernel
theorem dX2_ask_177 : decode cX2_ask 177 = .ok (.getfield 20, 3) := by decide +kernel
theorem dX2_ask_180 : decode cX2_ask 180 = .ok (.iconst 0, 1) := by decide +kernel
theorem dX2_ask_181 : decode cX2_ask 181 = .ok (.aload_n 0, 1) := by decide +kernel
theorem dX2_ask_182 : decode cX2_ask 182 = .ok (.getfield 20, 3) := by decide +kernel
theorem dX2_ask_185 : decode cX2_ask 185 = .ok (.getfield 56, 3) := by decide +kernel
theorem dX2_ask_188 : decode cX2_ask 188 = .ok (.invokevirtual 66, 3) := by decide +kernel
theorem dX2_ask_191 : decode cX2_ask 191 = .ok (.aload_n 0, 1) := by decide +kernel
theorem dX2_ask_192 : decode cX2_ask 192 = .ok (.aload_n 3, 1) := by decide +kernel
theorem dX2_ask_193 : decode cX2_ask 193 = .ok (.iconst 0, 1) := by decide +kernel
theorem dX2_ask_194 : decode cX2_ask 194 = .ok (.invokevirtual 70, 3) := by decide +kernel
theorem dX2_ask_197 : decode cX2_ask 197 = .ok (.putfield 30, 3) := by decide +kernel
theorem dX2_ask_200 : decode cX2_ask 200 = .ok (.return_, 1) := by decide +kernel
theorem dX2_putRange_0 : decode cX2_putRange 0 = .ok (.aload 4, 2) := by decide +kernel
theorem dX2_putRange_2 : decode cX2_putRange 2 = .ok (.iload_n 1, 1) := by decide +kernel
theorem dX2_putRange_3 : decode cX2_putRange 3 = .ok (.invokevirtual 40, 3) := by decide +kernel
theorem dX2_putRange_6 : decode cX2_putRange 6 = .ok (.aload 4, 2) := by decide +kernel
theorem dX2_putRange_8 : decode cX2_putRange 8 = .ok (.iload_n 2, 1) := by decide +kernel
theorem dX2_putRange_9 : decode cX2_putRange 9 = .ok (.i2l, 1) := by decide +kernel
theorem dX2_putRange_10 : decode cX2_putRange 10 = .ok (.iconst 2, 1) := by decide +kernel
theorem dX2_putRange_11 : decode cX2_putRange 11 = .ok (.invokevirtual 48, 3) := by decide +kernel
theorem dX2_putRange_14 : decode cX2_putRange 14 = .ok (.aload 4, 2) := by decide +kernel
theorem dX2_putRange_16 : decode cX2_putRange 16 = .ok (.aload_n 0, 1) := by decide +kernel
theorem dX2_putRange_17 : decode cX2_putRange 17 = .ok (.invokevirtual 74, 3) := by decide +kernel
theorem dX2_putRange_20 : decode cX2_putRange 20 = .ok (.i2l, 1) := by decide +kernel
theorem dX2_putRange_21 : decode cX2_putRange 21 = .ok (.iconst 2, 1) := by decide +kernel
theorem dX2_putRange_22 : decode cX2_putRange 22 = .ok (.invokevirtual 48, 3) := by decide +kernel
theorem dX2_putRange_25 : decode cX2_putRange 25 = .ok (.iload_n 3, 1) := by decide +kernel
theorem dX2_putRange_26 : decode cX2_putRange 26 = .ok (.iconst (-1), 1) := by decide +kernel
theorem dX2_putRange_27 : decode cX2_putRange 27 = .ok (.if_icmp .eq 11, 3) := by decide +kernel
theorem dX2_putRange_30 : decode cX2_putRange 30 = .ok (.aload 4, 2) := by decide +kernel
theorem dX2_putRange_32 : decode cX2_putRange 32 = .ok (.iload_n 3, 1) := by decide +kernel
theorem dX2_putRange_33 : decode cX2_putRange 33 = .ok (.i2l, 1) := by decide +kernel
theorem dX2_putRange_34 : decode cX2_putRange 34 = .ok (.iconst 2, 1) := by decide +kernel
theorem dX2_putRange_35 : decode cX2_putRange 35 = .ok (.invokevirtual 48, 3) := by decide +kernel
theorem dX2_putRange_38 : decode cX2_putRange 38 = .ok (.return_, 1) := by decide +kernel
theorem dX2_askToWrite_0 : decode cX2_askToWrite 0 = .ok (.aload_n 0, 1) := by decide +kernel
theorem dX2_askToWrite_1 : decode cX2_askToWrite 1 = .ok (.getfield 33, 3) := by decide +kernel
theorem dX2_askToWrite_4 : decode cX2_askToWrite 4 = .ok (.ifCond .ne 51, 3) := by decide +kernel
theorem dX2_askToWrite_7 : decode cX2_askToWrite 7 = .ok (.aload_n 0, 1) := by decide +kernel
theorem dX2_askToWrite_8 : decode cX2_askToWrite 8 = .ok (.getfield 20, 3) := by decide +kernel
theorem dX2_askToWrite_11 : decode cX2_askToWrite 11 = .ok (.getfield 56, 3) := by decide +kernel
theorem dX2_askToWrite_14 : decode cX2_askToWrite 14 = .ok (.iload_n 1, 1) := by decide +kernel
theorem dX2_askToWrite_15 : decode cX2_askToWrite 15 = .ok (.iconst 3, 1) := by decide +kernel
theorem dX2_askToWrite_16 : decode cX2_askToWrite 16 = .ok (.isub, 1) := by decide +kernel
theorem dX2_askToWrite_17 : decode cX2_askToWrite 17 = .ok (.if_icmp .gt 38, 3) := by decide +kernel
theorem dX2_askToWrite_20 : decode cX2_askToWrite 20 = .ok (.aload_n 2, 1) := by decide +kernel
theorem dX2_askToWrite_21 : decode cX2_askToWrite 21 = .ok (.bipush 18, 2) := by decide +kernel
theorem dX2_askToWrite_23 : decode cX2_askToWrite 23 = .ok (.invokevirtual 40, 3) := by decide +kernel
theorem dX2_askToWrite_26 : decode cX2_askToWrite 26 = .ok (.aload_n 2, 1) := by decide +kernel
theorem dX2_askToWrite_27 : decode cX2_askToWrite 27 = .ok (.aload_n 0, 1) := by decide +kernel
theorem dX2_askToWrite_28 : decode cX2_askToWrite 28 = .ok (.getfield 24, 3) := by decide +kernel
theorem dX2_askToWrite_31 : decode cX2_askToWrite 31 = .ok (.i2l, 1) := by decide +kernel
theorem dX2_askToWrite_32 : decode cX2_askToWrite 32 = .ok (.iconst 2, 1) := by decide +kernel
theorem dX2_askToWrite_33 : decode cX2_askToWrite 33 = .ok (.invokevirtual 48, 3) := by decide +kernel
theorem dX2_askToWrite_36 : decode cX2_askToWrite 36 = .ok (.aload_n 2, 1) := by decide +kernel
theorem dX2_askToWrite_37 : decode cX2_askToWrite 37 = .ok (.aload_n 0, 1) := by decide +kernel
theorem dX2_askToWrite_38 : decode cX2_askToWrite 38 = .ok (.getfield 20, 3) := by decide +kernel
theorem dX2_askToWrite_41 : decode cX2_askToWrite 41 = .ok (.iconst 0, 1) := by decide +kernel
theorem dX2_askToWrite_42 : decode cX2_askToWrite 42 = .ok (.aload_n 0, 1) := by decide +kernel
theorem dX2_askToWrite_43 : decode cX2_askToWrite 43 = .ok (.getfield 20, 3) := by decide +kernel
theorem dX2_askToWrite_46 : decode cX2_askToWrite 46 = .ok (.getfield 56, 3) := by decide +kernel
theorem dX2_askToWrite_49 : decode cX2_askToWrite 49 = .ok (.invokevirtual 66, 3) := by decide +kernel
theorem dX2_askToWrite_52 : decode cX2_askToWrite 52 = .ok (.goto 94, 3) := by decide +kernel
theorem dX2_askToWrite_55 : decode cX2_askToWrite 55 = .ok (.aload_n 0, 1) := by decide +kernel
theorem dX2_askToWrite_56 : decode cX2_askToWrite 56 = .ok (.getfield 33, 3) := by decide +kernel
theorem dX2_askToWrite_59 : decode cX2_askToWrite 59 = .ok (.aload_n 0, 1) := by decide +kernel
theorem dX2_askToWrite_60 : decode cX2_askToWrite 60 = .ok (.getfield 20, 3) := by decide +kernel
theorem dX2_askToWrite_63 : decode cX2_askToWrite 63 = .ok (.getfield 56, 3) := by decide +kernel
theorem dX2_askToWrite_66 : decode cX2_askToWrite 66 = .ok (.if_icmp .ge 69, 3) := by decide +kernel
theorem dX2_askToWrite_69 : decode cX2_askToWrite 69 = .ok (.aload_n 2, 1) := by decide +kernel
theorem dX2_askToWrite_70 : decode cX2_askToWrite 70 = .ok (.bipush 22, 2) := by decide +kernel
theorem dX2_askToWrite_72 : decode cX2_askToWrite 72 = .ok (.invokevirtual 40, 3) := by decide +kernel
theorem dX2_askToWrite_75 : decode cX2_askToWrite 75 = .ok (.aload_n 2, 1) := by decide +kernel
theorem dX2_askToWrite_76 : decode cX2_askToWrite 76 = .ok (.aload_n 0, 1) := by decide +kernel
theorem dX2_askToWrite_77 : decode cX2_askToWrite 77 = .ok (.getfield 24, 3) := by decide +kernel
theorem dX2_askToWrite_80 : decode cX2_askToWrite 80 = .ok (.i2l, 1) := by decide +kernel
theorem dX2_askToWrite_81 : decode cX2_askToWrite 81 = .ok (.iconst 2, 1) := by decide +kernel
theorem dX2_askToWrite_82 : decode cX2_askToWrite 82 = .ok (.invokevirtual 48, 3) := by decide +kernel
theorem dX2_askToWrite_85 : decode cX2_askToWrite 85 = .ok (.aload_n 2, 1) := by decide +kernel
theorem dX2_askToWrite_86 : decode cX2_askToWrite 86 = .ok (.aload_n 0, 1) := by decide +kernel
theorem dX2_askToWrite_87 : decode cX2_askToWrite 87 = .ok (.getfield 33, 3) := by decide +kernel
theorem dX2_askToWrite_90 : decode cX2_askToWrite 90 = .ok (.i2l, 1) := by decide +kernel
theorem dX2_askToWrite_91 : decode cX2_askToWrite 91 = .ok (.iconst 2, 1) := by decide +kernel
theorem dX2_askToWrite_92 : decode cX2_askToWrite 92 = .ok (.invokevirtual 48, 3) := by decide +kernel
theorem dX2_askToWrite_95 : decode cX2_askToWrite 95 = .ok (.aload_n 2, 1) := by decide +kernel
theorem dX2_askToWrite_96 : decode cX2_askToWrite 96 = .ok (.aload_n 0, 1) := by decide +kernel
theorem dX2_askToWrite_97 : decode cX2_askToWrite 97 = .ok (.getfield 20, 3) := by decide +kernel
theorem dX2_askToWrite_100 : decode cX2_askToWrite 100 = .ok (.aload_n 0, 1) := by decide +kernel
theorem dX2_askToWrite_101 : decode cX2_askToWrite 101 = .ok (.getfield 33, 3) := by decide +kernel
theorem dX2_askToWrite_104 : decode cX2_askToWrite 104 = .ok (.iload_n 1, 1) := by decide +kernel
theorem dX2_askToWrite_105 : decode cX2_askToWrite 105 = .ok (.iconst 5, 1) := by decide +kernel
theorem dX2_askToWrite_106 : decode cX2_askToWrite 106 = .ok (.isub, 1) := by decide +kernel
theorem dX2_askToWrite_107 : decode cX2_askToWrite 107 = .ok (.invokevirtual 66, 3) := by decide +kernel
theorem dX2_askToWrite_110 : decode cX2_askToWrite 110 = .ok (.aload_n 0, 1) := by decide +kernel
theorem dX2_askToWrite_111 : decode cX2_askToWrite 111 = .ok (.aload_n 0, 1) := by decide +kernel
theorem dX2_askToWrite_112 : decode cX2_askToWrite 112 = .ok (.getfield 20, 3) := by decide +kernel
theorem dX2_askToWrite_115 : decode cX2_askToWrite 115 = .ok (.getfield 56, 3) := by decide +kernel
theorem dX2_askToWrite_118 : decode cX2_askToWrite 118 = .ok (.aload_n 0, 1) := by decide +kernel
theorem dX2_askToWrite_119 : decode cX2_askToWrite 119 = .ok (.getfield 33, 3) := by decide +kernel
theorem dX2_askToWrite_122 : decode cX2_askToWrite 122 = .ok (.iload_n 1, 1) := by decide +kernel
theorem dX2_askToWrite_123 : decode cX2_askToWrite 123 = .ok (.iadd, 1) := by decide +kernel
theorem dX2_askToWrite_124 : decode cX2_askToWrite 124 = .ok (.iconst 5, 1) := by decide +kernel
theorem dX2_askToWrite_125 : decode cX2_askToWrite 125 = .ok (.isub, 1) := by decide +kernel
theorem dX2_askToWrite_126 : decode cX2_askToWrite 126 = .ok (.invokestatic 78, 3) := by decide +kernel
theorem dX2_askToWrite_129 : decode cX2_askToWrite 129 = .ok (.putfield 33, 3) := by decide +kernel
theorem dX2_askToWrite_132 : decode cX2_askToWrite 132 = .ok (.goto 14, 3) := by decide +kernel
theorem dX2_askToWrite_135 : decode cX2_askToWrite 135 = .ok (.aload_n 2, 1) := by decide +kernel
theorem dX2_askToWrite_136 : decode cX2_askToWrite 136 = .ok (.bipush 24, 2) := by decide +kernel
theorem dX2_askToWrite_138 : decode cX2_askToWrite 138 = .ok (.invokevirtual 40, 3) := by decide +kernel
theorem dX2_askToWrite_141 : decode cX2_askToWrite 141 = .ok (.aload_n 2, 1) := by decide +kernel
theorem dX2_askToWrite_142 : decode cX2_askToWrite 142 = .ok (.iconst 1, 1) := by decide +kernel
theorem dX2_askToWrite_143 : decode cX2_askToWrite 143 = .ok (.invokevirtual 40, 3) := by decide +kernel
theorem dX2_askToWrite_146 : decode cX2_askToWrite 146 = .ok (.return_, 1) := by decide +kernel
theorem dX2_goOn_0 : decode cX2_goOn 0 = .ok (.aload_n 0, 1) := by decide +kernel
theorem dX2_goOn_1 : decode cX2_goOn 1 = .ok (.getfield 9, 3) := by decide +kernel
theorem dX2_goOn_4 : decode cX2_goOn 4 = .ok (.iconst (-1), 1) := by decide +kernel
theorem dX2_goOn_5 : decode cX2_goOn 5 = .ok (.if_icmp .ne 4, 3) := by decide +kernel
theorem dX2_goOn_8 : decode cX2_goOn 8 = .ok (.return_, 1) := by decide +kernel
theorem dX2_goOn_9 : decode cX2_goOn 9 = .ok (.aload_n 1, 1) := by decide +kernel
theorem dX2_goOn_10 : decode cX2_goOn 10 = .ok (.iconst 0, 1) := by decide +kernel
theorem dX2_goOn_11 : decode cX2_goOn 11 = .ok (.invokevirtual 70, 3) := by decide +kernel
theorem dX2_goOn_14 : decode cX2_goOn 14 = .ok (.istore 5, 2) := by decide +kernel
theorem dX2_goOn_16 : decode cX2_goOn 16 = .ok (.iload 5, 2) := by decide +kernel
theorem dX2_goOn_18 : decode cX2_goOn 18 = .ok (.iconst 1, 1) := by decide +kernel
theorem dX2_goOn_19 : decode cX2_goOn 19 = .ok (.if_icmp .ne 30, 3) := by decide +kernel
theorem dX2_goOn_22 : decode cX2_goOn 22 = .ok (.aload_n 1, 1) := by decide +kernel
theorem dX2_goOn_23 : decode cX2_goOn 23 = .ok (.getfield 56, 3) := by decide +kernel
theorem dX2_goOn_26 : decode cX2_goOn 26 = .ok (.iconst 5, 1) := by decide +kernel
theorem dX2_goOn_27 : decode cX2_goOn 27 = .ok (.if_icmp .ne 21, 3) := by decide +kernel
theorem dX2_goOn_30 : decode cX2_goOn 30 = .ok (.aload_n 1, 1) := by decide +kernel
theorem dX2_goOn_31 : decode cX2_goOn 31 = .ok (.iconst 1, 1) := by decide +kernel
theorem dX2_goOn_32 : decode cX2_goOn 32 = .ok (.invokevirtual 70, 3) := by decide +kernel
theorem dX2_goOn_35 : decode cX2_goOn 35 = .ok (.aload_n 0, 1) := by decide +kernel
theorem dX2_goOn_36 : decode cX2_goOn 36 = .ok (.getfield 30, 3) := by decide +kernel
theorem dX2_goOn_39 : decode cX2_goOn 39 = .ok (.if_icmp .ne 9, 3) := by decide +kernel
theorem dX2_goOn_42 : decode cX2_goOn 42 = .ok (.aload_n 0, 1) := by decide +kernel
theorem dX2_goOn_43 : decode cX2_goOn 43 = .ok (.aload_n 1, 1) := by decide +kernel
theorem dX2_goOn_44 : decode cX2_goOn 44 = .ok (.aload_n 3, 1) := by decide +kernel
theorem dX2_goOn_45 : decode cX2_goOn 45 = .ok (.invokevirtual 84, 3) := by decide +kernel
theorem dX2_goOn_48 : decode cX2_goOn 48 = .ok (.return_, 1) := by decide +kernel
theorem dX2_goOn_49 : decode cX2_goOn 49 = .ok (.iload 5, 2) := by decide +kernel
theorem dX2_goOn_51 : decode cX2_goOn 51 = .ok (.aload_n 0, 1) := by decide +kernel
theorem dX2_goOn_52 : decode cX2_goOn 52 = .ok (.getfield 30, 3) := by decide +kernel
theorem dX2_goOn_55 : decode cX2_goOn 55 = .ok (.iconst 1, 1) := by decide +kernel
theorem dX2_goOn_56 : decode cX2_goOn 56 = .ok (.iadd, 1) := by decide +kernel
theorem dX2_goOn_57 : decode cX2_goOn 57 = .ok (.if_icmp .ne 12, 3) := by decide +kernel
theorem dX2_goOn_60 : decode cX2_goOn 60 = .ok (.iload 5, 2) := by decide +kernel
theorem dX2_goOn_62 : decode cX2_goOn 62 = .ok (.aload_n 1, 1) := by decide +kernel
theorem dX2_goOn_63 : decode cX2_goOn 63 = .ok (.invokestatic 88, 3) := by decide +kernel
theorem dX2_goOn_66 : decode cX2_goOn 66 = .ok (.ifCond .ne 4, 3) := by decide +kernel
theorem dX2_goOn_69 : decode cX2_goOn 69 = .ok (.return_, 1) := by decide +kernel
theorem dX2_goOn_70 : decode cX2_goOn 70 = .ok (.aload_n 0, 1) := by decide +kernel
theorem dX2_goOn_71 : decode cX2_goOn 71 = .ok (.getfield 9, 3) := by decide +kernel
theorem dX2_goOn_74 : decode cX2_goOn 74 = .ok (.lookupswitch 100 #[(0, 34), (4, 51), (5, 63)], 34) := by decide +kernel
theorem dX2_goOn_108 : decode cX2_goOn 108 = .ok (.aload_n 2, 1) := by decide +kernel
theorem dX2_goOn_109 : decode cX2_goOn 109 = .ok (.aload_n 1, 1) := by decide +kernel
theorem dX2_goOn_110 : decode cX2_goOn 110 = .ok (.iconst 1, 1) := by decide +kernel
theorem dX2_goOn_111 : decode cX2_goOn 111 = .ok (.invokevirtual 92, 3) := by decide +kernel
theorem dX2_goOn_114 : decode cX2_goOn 114 = .ok (.invokevirtual 95, 3) := by decide +kernel
theorem dX2_goOn_117 : decode cX2_goOn 117 = .ok (.aload_n 0, 1) := by decide +kernel
theorem dX2_goOn_118 : decode cX2_goOn 118 = .ok (.aload_n 3, 1) := by decide +kernel
theorem dX2_goOn_119 : decode cX2_goOn 119 = .ok (.invokevirtual 98, 3) := by decide +kernel
theorem dX2_goOn_122 : decode cX2_goOn 122 = .ok (.goto 61, 3) := by decide +kernel
theorem dX2_goOn_125 : decode cX2_goOn 125 = .ok (.aload_n 0, 1) := by decide +kernel
theorem dX2_goOn_126 : decode cX2_goOn 126 = .ok (.aload_n 1, 1) := by decide +kernel
theorem dX2_goOn_127 : decode cX2_goOn 127 = .ok (.aload_n 2, 1) := by decide +kernel
theorem dX2_goOn_128 : decode cX2_goOn 128 = .ok (.aload_n 3, 1) := by decide +kernel
theorem dX2_goOn_129 : decode cX2_goOn 129 = .ok (.aload 4, 2) := by decide +kernel
theorem dX2_goOn_131 : decode cX2_goOn 131 = .ok (.invokevirtual 102, 3) := by decide +kernel
theorem dX2_goOn_134 : decode cX2_goOn 134 = .ok (.goto 49, 3) := by decide +kernel
theorem dX2_goOn_137 : decode cX2_goOn 137 = .ok (.iload 5, 2) := by decide +kernel
theorem dX2_goOn_139 : decode cX2_goOn 139 = .ok (.bipush 23, 2) := by decide +kernel
theorem dX2_goOn_141 : decode cX2_goOn 141 = .ok (.if_icmp .ne 14, 3) := by decide +kernel
theorem dX2_goOn_144 : decode cX2_goOn 144 = .ok (.aload_n 0, 1) := by decide +kernel
theorem dX2_goOn_145 : decode cX2_goOn 145 = .ok (.iconst 0, 1) := by decide +kernel
theorem dX2_goOn_146 : decode cX2_goOn 146 = .ok (.aload_n 2, 1) := by decide +kernel
theorem dX2_goOn_147 : decode cX2_goOn 147 = .ok (.aload 4, 2) := by decide +kernel
theorem dX2_goOn_149 : decode cX2_goOn 149 = .ok (.invokevirtual 106, 3) := by decide +kernel
theorem dX2_goOn_152 : decode cX2_goOn 152 = .ok (.goto 31, 3) := by decide +kernel
theorem dX2_goOn_155 : decode cX2_goOn 155 = .ok (.aload_n 3, 1) := by decide +kernel
theorem dX2_goOn_156 : decode cX2_goOn 156 = .ok (.iconst 5, 1) := by decide +kernel
theorem dX2_goOn_157 : decode cX2_goOn 157 = .ok (.aload_n 0, 1) := by decide +kernel
theorem dX2_goOn_158 : decode cX2_goOn 158 = .ok (.getfield 24, 3) := by decide +kernel
theorem dX2_goOn_161 : decode cX2_goOn 161 = .ok (.iconst 0, 1) := by decide +kernel
theorem dX2_goOn_162 : decode cX2_goOn 162 = .ok (.iconst 0, 1) := by decide +kernel
theorem dX2_goOn_163 : decode cX2_goOn 163 = .ok (.invokevirtual 110, 3) := by decide +kernel
theorem dX2_goOn_166 : decode cX2_goOn 166 = .ok (.aload_n 0, 1) := by decide +kernel
theorem dX2_goOn_167 : decode cX2_goOn 167 = .ok (.aload_n 3, 1) := by decide +kernel
theorem dX2_goOn_168 : decode cX2_goOn 168 = .ok (.invokevirtual 98, 3) := by decide +kernel
theorem dX2_goOn_171 : decode cX2_goOn 171 = .ok (.goto 12, 3) := by decide +kernel
theorem dX2_goOn_174 : decode cX2_goOn 174 = .ok (.aload_n 0, 1) := by decide +kernel
theorem dX2_goOn_175 : decode cX2_goOn 175 = .ok (.aload_n 1, 1) := by decide +kernel
theorem dX2_goOn_176 : decode cX2_goOn 176 = .ok (.aload_n 2, 1) := by decide +kernel
theorem dX2_goOn_177 : decode cX2_goOn 177 = .ok (.aload_n 3, 1) := by decide +kernel
theorem dX2_goOn_178 : decode cX2_goOn 178 = .ok (.aload 4, 2) := by decide +kernel
theorem dX2_goOn_180 : decode cX2_goOn 180 = .ok (.invokevirtual 116, 3) := by decide +kernel
theorem dX2_goOn_183 : decode cX2_goOn 183 = .ok (.return_, 1) := by decide +kernel
theorem dX2_isWhole_0 : decode cX2_isWhole 0 = .ok (.iload_n 0, 1) := by decide +kernel
theorem dX2_isWhole_1 : decode cX2_isWhole 1 = .ok (.tableswitch 266 3 25 #[107, 266, 121, 266, 149, 266, 160, 266, 266, 266, 266, 266, 266, 266, 192, 266, 224, 266, 266, 266, 238, 266, 252], 107) := by decide +kernel
theorem dX2_isWhole_108 : decode cX2_isWhole 108 = .ok (.aload_n 1, 1) := by decide +kernel
theorem dX2_isWhole_109 : decode cX2_isWhole 109 = .ok (.getfield 56, 3) := by decide +kernel
theorem dX2_isWhole_112 : decode cX2_isWhole 112 = .ok (.iconst 3, 1) := by decide +kernel
theorem dX2_isWhole_113 : decode cX2_isWhole 113 = .ok (.if_icmp .ne 7, 3) := by decide +kernel
theorem dX2_isWhole_116 : decode cX2_isWhole 116 = .ok (.iconst 1, 1) := by decide +kernel
theorem dX2_isWhole_117 : decode cX2_isWhole 117 = .ok (.goto 4, 3) := by decide +kernel
theorem dX2_isWhole_120 : decode cX2_isWhole 120 = .ok (.iconst 0, 1) := by decide +kernel
theorem dX2_isWhole_121 : decode cX2_isWhole 121 = .ok (.ireturn, 1) := by decide +kernel
theorem dX2_isWhole_122 : decode cX2_isWhole 122 = .ok (.aload_n 1, 1) := by decide +kernel
theorem dX2_isWhole_123 : decode cX2_isWhole 123 = .ok (.iconst 1, 1) := by decide +kernel
theorem dX2_isWhole_124 : decode cX2_isWhole 124 = .ok (.invokevirtual 70, 3) := by decide +kernel
theorem dX2_isWhole_127 : decode cX2_isWhole 127 = .ok (.iconst 1, 1) := by decide +kernel
theorem dX2_isWhole_128 : decode cX2_isWhole 128 = .ok (.if_icmp .ne 20, 3) := by decide +kernel
theorem dX2_isWhole_131 : decode cX2_isWhole 131 = .ok (.aload_n 1, 1) := by decide +kernel
theorem dX2_isWhole_132 : decode cX2_isWhole 132 = .ok (.getfield 56, 3) := by decide +kernel
theorem dX2_isWhole_135 : decode cX2_isWhole 135 = .ok (.iconst 2, 1) := by decide +kernel
theorem dX2_isWhole_136 : decode cX2_isWhole 136 = .ok (.isub, 1) := by decide +kernel
theorem dX2_isWhole_137 : decode cX2_isWhole 137 = .ok (.iconst 4, 1) := by decide +kernel
theorem dX2_isWhole_138 : decode cX2_isWhole 138 = .ok (.invokestatic 119, 3) := by decide +kernel
theorem dX2_isWhole_141 : decode cX2_isWhole 141 = .ok (.ifCond .eq 7, 3) := by decide +kernel
theorem dX2_isWhole_144 : decode cX2_isWhole 144 = .ok (.iconst 1, 1) := by decide +kernel
theorem dX2_isWhole_145 : decode cX2_isWhole 145 = .ok (.goto 4, 3) := by decide +kernel
theorem dX2_isWhole_148 : decode cX2_isWhole 148 = .ok (.iconst 0, 1) := by decide +kernel
theorem dX2_isWhole_149 : decode cX2_isWhole 149 = .ok (.ireturn, 1) := by decide +kernel
theorem dX2_isWhole_150 : decode cX2_isWhole 150 = .ok (.aload_n 1, 1) := by decide +kernel
theorem dX2_isWhole_151 : decode cX2_isWhole 151 = .ok (.getfield 56, 3) := by decide +kernel
theorem dX2_isWhole_154 : decode cX2_isWhole 154 = .ok (.iconst 1, 1) := by decide +kernel
theorem dX2_isWhole_155 : decode cX2_isWhole 155 = .ok (.isub, 1) := by decide +kernel
theorem dX2_isWhole_156 : decode cX2_isWhole 156 = .ok (.iconst 4, 1) := by decide +kernel
theorem dX2_isWhole_157 : decode cX2_isWhole 157 = .ok (.invokestatic 119, 3) := by decide +kernel
theorem dX2_isWhole_160 : decode cX2_isWhole 160 = .ok (.ireturn, 1) := by decide +kernel
theorem dX2_isWhole_161 : decode cX2_isWhole 161 = .ok (.aload_n 1, 1) := by decide +kernel
theorem dX2_isWhole_162 : decode cX2_isWhole 162 = .ok (.iconst 1, 1) := by decide +kernel
theorem dX2_isWhole_163 : decode cX2_isWhole 163 = .ok (.invokevirtual 70, 3) := by decide +kernel
theorem dX2_isWhole_166 : decode cX2_isWhole 166 = .ok (.iconst 2, 1) := by decide +kernel
theorem dX2_isWhole_167 : decode cX2_isWhole 167 = .ok (.if_icmp .lt 24, 3) := by decide +kernel
theorem dX2_isWhole_170 : decode cX2_isWhole 170 = .ok (.aload_n 1, 1) := by decide +kernel
theorem dX2_isWhole_171 : decode cX2_isWhole 171 = .ok (.getfield 56, 3) := by decide +kernel
theorem dX2_isWhole_174 : decode cX2_isWhole 174 = .ok (.iconst 2, 1) := by decide +kernel
theorem dX2_isWhole_175 : decode cX2_isWhole 175 = .ok (.isub, 1) := by decide +kernel
theorem dX2_isWhole_176 : decode cX2_isWhole 176 = .ok (.aload_n 1, 1) := by decide +kernel
theorem dX2_isWhole_177 : decode cX2_isWhole 177 = .ok (.iconst 1, 1) := by decide +kernel
theorem dX2_isWhole_178 : decode cX2_isWhole 178 = .ok (.invokevirtual 70, 3) := by decide +kernel
theorem dX2_isWhole_181 : decode cX2_isWhole 181 = .ok (.invokestatic 119, 3) := by decide +kernel
theorem dX2_isWhole_184 : decode cX2_isWhole 184 = .ok (.ifCond .eq 7, 3) := by decide +kernel
theorem dX2_isWhole_187 : decode cX2_isWhole 187 = .ok (.iconst 1, 1) := by decide +kernel
theorem dX2_isWhole_188 : decode cX2_isWhole 188 = .ok (.goto 4, 3) := by decide +kernel
theorem dX2_isWhole_191 : decode cX2_isWhole 191 = .ok (.iconst 0, 1) := by decide +kernel
theorem dX2_isWhole_192 : decode cX2_isWhole 192 = .ok (.ireturn, 1) := by decide +kernel
theorem dX2_isWhole_193 : decode cX2_isWhole 193 = .ok (.aload_n 1, 1) := by decide +kernel
theorem dX2_isWhole_194 : decode cX2_isWhole 194 = .ok (.iconst 1, 1) := by decide +kernel
theorem dX2_isWhole_195 : decode cX2_isWhole 195 = .ok (.invokevirtual 70, 3) := by decide +kernel
theorem dX2_isWhole_198 : decode cX2_isWhole 198 = .ok (.iconst 4, 1) := by decide +kernel
theorem dX2_isWhole_199 : decode cX2_isWhole 199 = .ok (.if_icmp .lt 24, 3) := by decide +kernel
theorem dX2_isWhole_202 : decode cX2_isWhole 202 = .ok (.aload_n 1, 1) := by decide +kernel
theorem dX2_isWhole_203 : decode cX2_isWhole 203 = .ok (.getfield 56, 3) := by decide +kernel
theorem dX2_isWhole_206 : decode cX2_isWhole 206 = .ok (.iconst 2, 1) := by decide +kernel
theorem dX2_isWhole_207 : decode cX2_isWhole 207 = .ok (.isub, 1) := by decide +kernel
theorem dX2_isWhole_208 : decode cX2_isWhole 208 = .ok (.aload_n 1, 1) := by decide +kernel
theorem dX2_isWhole_209 : decode cX2_isWhole 209 = .ok (.iconst 1, 1) := by decide +kernel
theorem dX2_isWhole_210 : decode cX2_isWhole 210 = .ok (.invokevirtual 70, 3) := by decide +kernel
theorem dX2_isWhole_213 : decode cX2_isWhole 213 = .ok (.invokestatic 119, 3) := by decide +kernel
theorem dX2_isWhole_216 : decode cX2_isWhole 216 = .ok (.ifCond .eq 7, 3) := by decide +kernel
theorem dX2_isWhole_219 : decode cX2_isWhole 219 = .ok (.iconst 1, 1) := by decide +kernel
theorem dX2_isWhole_220 : decode cX2_isWhole 220 = .ok (.goto 4, 3) := by decide +kernel
theorem dX2_isWhole_223 : decode cX2_isWhole 223 = .ok (.iconst 0, 1) := by decide +kernel
theorem dX2_isWhole_224 : decode cX2_isWhole 224 = .ok (.ireturn, 1) := by decide +kernel
theorem dX2_isWhole_225 : decode cX2_isWhole 225 = .ok (.aload_n 1, 1) := by decide +kernel
theorem dX2_isWhole_226 : decode cX2_isWhole 226 = .ok (.getfield 56, 3) := by decide +kernel
theorem dX2_isWhole_229 : decode cX2_isWhole 229 = .ok (.iconst 1, 1) := by decide +kernel
theorem dX2_isWhole_230 : decode cX2_isWhole 230 = .ok (.if_icmp .ne 7, 3) := by decide +kernel
theorem dX2_isWhole_233 : decode cX2_isWhole 233 = .ok (.iconst 1, 1) := by decide +kernel
theorem dX2_isWhole_234 : decode cX2_isWhole 234 = .ok (.goto 4, 3) := by decide +kernel
theorem dX2_isWhole_237 : decode cX2_isWhole 237 = .ok (.iconst 0, 1) := by decide +kernel
theorem dX2_isWhole_238 : decode cX2_isWhole 238 = .ok (.ireturn, 1) := by decide +kernel
theorem dX2_isWhole_239 : decode cX2_isWhole 239 = .ok (.aload_n 1, 1) := by decide +kernel
theorem dX2_isWhole_240 : decode cX2_isWhole 240 = .ok (.getfield 56, 3) := by decide +kernel
theorem dX2_isWhole_243 : decode cX2_isWhole 243 = .ok (.iconst 5, 1) := by decide +kernel
theorem dX2_isWhole_244 : decode cX2_isWhole 244 = .ok (.if_icmp .lt 7, 3) := by decide +kernel
theorem dX2_isWhole_247 : decode cX2_isWhole 247 = .ok (.iconst 1, 1) := by decide +kernel
theorem dX2_isWhole_248 : decode cX2_isWhole 248 = .ok (.goto 4, 3) := by decide +kernel
theorem dX2_isWhole_251 : decode cX2_isWhole 251 = .ok (.iconst 0, 1) := by decide +kernel
theorem dX2_isWhole_252 : decode cX2_isWhole 252 = .ok (.ireturn, 1) := by decide +kernel
theorem dX2_isWhole_253 : decode cX2_isWhole 253 = .ok (.aload_n 1, 1) := by decide +kernel
theorem dX2_isWhole_254 : decode cX2_isWhole 254 = .ok (.getfield 56, 3) := by decide +kernel
theorem dX2_isWhole_257 : decode cX2_isWhole 257 = .ok (.iconst 1, 1) := by decide +kernel
theorem dX2_isWhole_258 : decode cX2_isWhole 258 = .ok (.if_icmp .ne 7, 3) := by decide +kernel
theorem dX2_isWhole_261 : decode cX2_isWhole 261 = .ok (.iconst 1, 1) := by decide +kernel
theorem dX2_isWhole_262 : decode cX2_isWhole 262 = .ok (.goto 4, 3) := by decide +kernel
theorem dX2_isWhole_265 : decode cX2_isWhole 265 = .ok (.iconst 0, 1) := by decide +kernel
theorem dX2_isWhole_266 : decode cX2_isWhole 266 = .ok (.ireturn, 1) := by decide +kernel
theorem dX2_isWhole_267 : decode cX2_isWhole 267 = .ok (.iconst 1, 1) := by decide +kernel
theorem dX2_isWhole_268 : decode cX2_isWhole 268 = .ok (.ireturn, 1) := by decide +kernel
theorem dX2_areRows_0 : decode cX2_areRows 0 = .ok (.iload_n 1, 1) := by decide +kernel
theorem dX2_areRows_1 : decode cX2_areRows 1 = .ok (.ifCond .le 18, 3) := by decide +kernel
theorem dX2_areRows_4 : decode cX2_areRows 4 = .ok (.iload_n 0, 1) := by decide +kernel
theorem dX2_areRows_5 : decode cX2_areRows 5 = .ok (.iload_n 1, 1) := by decide +kernel
theorem dX2_areRows_6 : decode cX2_areRows 6 = .ok (.if_icmp .lt 13, 3) := by decide +kernel
theorem dX2_areRows_9 : decode cX2_areRows 9 = .ok (.iload_n 0, 1) := by decide +kernel
theorem dX2_areRows_10 : decode cX2_areRows 10 = .ok (.iload_n 1, 1) := by decide +kernel
theorem dX2_areRows_11 : decode cX2_areRows 11 = .ok (.irem, 1) := by decide +kernel
theorem dX2_areRows_12 : decode cX2_areRows 12 = .ok (.ifCond .ne 7, 3) := by decide +kernel
theorem dX2_areRows_15 : decode cX2_areRows 15 = .ok (.iconst 1, 1) := by decide +kernel
theorem dX2_areRows_16 : decode cX2_areRows 16 = .ok (.goto 4, 3) := by decide +kernel
theorem dX2_areRows_19 : decode cX2_areRows 19 = .ok (.iconst 0, 1) := by decide +kernel
theorem dX2_areRows_20 : decode cX2_areRows 20 = .ok (.ireturn, 1) := by decide +kernel
theorem dX2_finish_0 : decode cX2_finish 0 = .ok (.aload_n 1, 1) := by decide +kernel
theorem dX2_finish_1 : decode cX2_finish 1 = .ok (.bipush 8, 2) := by decide +kernel
theorem dX2_finish_3 : decode cX2_finish 3 = .ok (.aload_n 0, 1) := by decide +kernel
theorem dX2_finish_4 : decode cX2_finish 4 = .ok (.getfield 9, 3) := by decide +kernel
theorem dX2_finish_7 : decode cX2_finish 7 = .ok (.iconst 0, 1) := by decide +kernel
theorem dX2_finish_8 : decode cX2_finish 8 = .ok (.iconst 0, 1) := by decide +kernel
theorem dX2_finish_9 : decode cX2_finish 9 = .ok (.invokevirtual 110, 3) := by decide +kernel
theorem dX2_finish_12 : decode cX2_finish 12 = .ok (.aload_n 0, 1) := by decide +kernel
theorem dX2_finish_13 : decode cX2_finish 13 = .ok (.iconst (-1), 1) := by decide +kernel
theorem dX2_finish_14 : decode cX2_finish 14 = .ok (.putfield 9, 3) := by decide +kernel
theorem dX2_finish_17 : decode cX2_finish 17 = .ok (.return_, 1) := by decide +kernel
theorem dX2_hearError_0 : decode cX2_hearError 0 = .ok (.aload_n 0, 1) := by decide +kernel
theorem dX2_hearError_1 : decode cX2_hearError 1 = .ok (.getfield 9, 3) := by decide +kernel
theorem dX2_hearError_4 : decode cX2_hearError 4 = .ok (.iconst 1, 1) := by decide +kernel
theorem dX2_hearError_5 : decode cX2_hearError 5 = .ok (.if_icmp .eq 28, 3) := by decide +kernel
theorem dX2_hearError_8 : decode cX2_hearError 8 = .ok (.aload_n 0, 1) := by decide +kernel
theorem dX2_hearError_9 : decode cX2_hearError 9 = .ok (.getfield 9, 3) := by decide +kernel
theorem dX2_hearError_12 : decode cX2_hearError 12 = .ok (.iconst 2, 1) := by decide +kernel
theorem dX2_hearError_13 : decode cX2_hearError 13 = .ok (.if_icmp .eq 20, 3) := by decide +kernel
theorem dX2_hearError_16 : decode cX2_hearError 16 = .ok (.aload_n 0, 1) := by decide +kernel
theorem dX2_hearError_17 : decode cX2_hearError 17 = .ok (.getfield 9, 3) := by decide +kernel
theorem dX2_hearError_20 : decode cX2_hearError 20 = .ok (.iconst 3, 1) := by decide +kernel
theorem dX2_hearError_21 : decode cX2_hearError 21 = .ok (.if_icmp .eq 12, 3) := by decide +kernel
theorem dX2_hearError_24 : decode cX2_hearError 24 = .ok (.aload_n 0, 1) := by decide +kernel
theorem dX2_hearError_25 : decode cX2_hearError 25 = .ok (.getfield 9, 3) := by decide +kernel
theorem dX2_hearError_28 : decode cX2_hearError 28 = .ok (.bipush 6, 2) := by decide +kernel
theorem dX2_hearError_30 : decode cX2_hearError 30 = .ok (.if_icmp .ne 7, 3) := by decide +kernel
theorem dX2_hearError_33 : decode cX2_hearError 33 = .ok (.iconst 1, 1) := by decide +kernel
theorem dX2_hearError_34 : decode cX2_hearError 34 = .ok (.goto 4, 3) := by decide +kernel
theorem dX2_hearError_37 : decode cX2_hearError 37 = .ok (.iconst 0, 1) := by decide +kernel
theorem dX2_hearError_38 : decode cX2_hearError 38 = .ok (.istore_n 3, 1) := by decide +kernel
theorem dX2_hearError_39 : decode cX2_hearError 39 = .ok (.iload_n 3, 1) := by decide +kernel
theorem dX2_hearError_40 : decode cX2_hearError 40 = .ok (.ifCond .eq 19, 3) := by decide +kernel
theorem dX2_hearError_43 : decode cX2_hearError 43 = .ok (.aload_n 1, 1) := by decide +kernel
theorem dX2_hearError_44 : decode cX2_hearError 44 = .ok (.iconst 4, 1) := by decide +kernel
theorem dX2_hearError_45 : decode cX2_hearError 45 = .ok (.invokevirtual 70, 3) := by decide +kernel
theorem dX2_hearError_48 : decode cX2_hearError 48 = .ok (.bipush 10, 2) := by decide +kernel
theorem dX2_hearError_50 : decode cX2_hearError 50 = .ok (.if_icmp .ne 9, 3) := by decide +kernel
theorem dX2_hearError_53 : decode cX2_hearError 53 = .ok (.aload_n 0, 1) := by decide +kernel
theorem dX2_hearError_54 : decode cX2_hearError 54 = .ok (.aload_n 2, 1) := by decide +kernel
theorem dX2_hearError_55 : decode cX2_hearError 55 = .ok (.invokevirtual 98, 3) := by decide +kernel
theorem dX2_hearError_58 : decode cX2_hearError 58 = .ok (.return_, 1) := by decide +kernel
theorem dX2_hearError_59 : decode cX2_hearError 59 = .ok (.aload_n 2, 1) := by decide +kernel
theorem dX2_hearError_60 : decode cX2_hearError 60 = .ok (.bipush 9, 2) := by decide +kernel
theorem dX2_hearError_62 : decode cX2_hearError 62 = .ok (.aload_n 1, 1) := by decide +kernel
theorem dX2_hearError_63 : decode cX2_hearError 63 = .ok (.iconst 1, 1) := by decide +kernel
theorem dX2_hearError_64 : decode cX2_hearError 64 = .ok (.invokevirtual 70, 3) := by decide +kernel
theorem dX2_hearError_67 : decode cX2_hearError 67 = .ok (.aload_n 1, 1) := by decide +kernel
theorem dX2_hearError_68 : decode cX2_hearError 68 = .ok (.iconst 2, 1) := by decide +kernel
theorem dX2_hearError_69 : decode cX2_hearError 69 = .ok (.invokevirtual 92, 3) := by decide +kernel
theorem dX2_hearError_72 : decode cX2_hearError 72 = .ok (.aload_n 1, 1) := by decide +kernel
theorem dX2_hearError_73 : decode cX2_hearError 73 = .ok (.iconst 4, 1) := by decide +kernel
theorem dX2_hearError_74 : decode cX2_hearError 74 = .ok (.invokevirtual 70, 3) := by decide +kernel
theorem dX2_hearError_77 : decode cX2_hearError 77 = .ok (.invokevirtual 110, 3) := by decide +kernel
theorem dX2_hearError_80 : decode cX2_hearError 80 = .ok (.aload_n 0, 1) := by decide +kernel
theorem dX2_hearError_81 : decode cX2_hearError 81 = .ok (.iconst (-1), 1) := by decide +kernel
theorem dX2_hearError_82 : decode cX2_hearError 82 = .ok (.putfield 9, 3) := by decide +kernel
theorem dX2_hearError_85 : decode cX2_hearError 85 = .ok (.return_, 1) := by decide +kernel
theorem dX2_hearValue_0 : decode cX2_hearValue 0 = .ok (.aload_n 0, 1) := by decide +kernel
theorem dX2_hearValue_1 : decode cX2_hearValue 1 = .ok (.getfield 20, 3) := by decide +kernel
theorem dX2_hearValue_4 : decode cX2_hearValue 4 = .ok (.aload_n 1, 1) := by decide +kernel
theorem dX2_hearValue_5 : decode cX2_hearValue 5 = .ok (.iconst 1, 1) := by decide +kernel
theorem dX2_hearValue_6 : decode cX2_hearValue 6 = .ok (.aload_n 1, 1) := by decide +kernel
theorem dX2_hearValue_7 : decode cX2_hearValue 7 = .ok (.getfield 56, 3) := by decide +kernel
theorem dX2_hearValue_10 : decode cX2_hearValue 10 = .ok (.invokevirtual 66, 3) := by decide +kernel
theorem dX2_hearValue_13 : decode cX2_hearValue 13 = .ok (.aload_n 1, 1) := by decide +kernel
theorem dX2_hearValue_14 : decode cX2_hearValue 14 = .ok (.getfield 56, 3) := by decide +kernel
theorem dX2_hearValue_17 : decode cX2_hearValue 17 = .ok (.aload_n 2, 1) := by decide +kernel
theorem dX2_hearValue_18 : decode cX2_hearValue 18 = .ok (.getfield 59, 3) := by decide +kernel
theorem dX2_hearValue_21 : decode cX2_hearValue 21 = .ok (.if_icmp .ne 12, 3) := by decide +kernel
theorem dX2_hearValue_24 : decode cX2_hearValue 24 = .ok (.aload_n 0, 1) := by decide +kernel
theorem dX2_hearValue_25 : decode cX2_hearValue 25 = .ok (.iconst 0, 1) := by decide +kernel
theorem dX2_hearValue_26 : decode cX2_hearValue 26 = .ok (.aload_n 2, 1) := by decide +kernel
theorem dX2_hearValue_27 : decode cX2_hearValue 27 = .ok (.aload 4, 2) := by decide +kernel
theorem dX2_hearValue_29 : decode cX2_hearValue 29 = .ok (.invokevirtual 106, 3) := by decide +kernel
theorem dX2_hearValue_32 : decode cX2_hearValue 32 = .ok (.return_, 1) := by decide +kernel
theorem dX2_hearValue_33 : decode cX2_hearValue 33 = .ok (.aload_n 3, 1) := by decide +kernel
theorem dX2_hearValue_34 : decode cX2_hearValue 34 = .ok (.iconst 4, 1) := by decide +kernel
theorem dX2_hearValue_35 : decode cX2_hearValue 35 = .ok (.aload_n 0, 1) := by decide +kernel
theorem dX2_hearValue_36 : decode cX2_hearValue 36 = .ok (.getfield 24, 3) := by decide +kernel
theorem dX2_hearValue_39 : decode cX2_hearValue 39 = .ok (.iconst 0, 1) := by decide +kernel
theorem dX2_hearValue_40 : decode cX2_hearValue 40 = .ok (.aload_n 0, 1) := by decide +kernel
theorem dX2_hearValue_41 : decode cX2_hearValue 41 = .ok (.getfield 20, 3) := by decide +kernel
theorem dX2_hearValue_44 : decode cX2_hearValue 44 = .ok (.iconst 0, 1) := by decide +kernel
theorem dX2_hearValue_45 : decode cX2_hearValue 45 = .ok (.aload_n 0, 1) := by decide +kernel
theorem dX2_hearValue_46 : decode cX2_hearValue 46 = .ok (.getfield 20, 3) := by decide +kernel
theorem dX2_hearValue_49 : decode cX2_hearValue 49 = .ok (.getfield 56, 3) := by decide +kernel
theorem dX2_hearValue_52 : decode cX2_hearValue 52 = .ok (.invokevirtual 123, 3) := by decide +kernel
theorem dX2_hearValue_55 : decode cX2_hearValue 55 = .ok (.aload_n 0, 1) := by decide +kernel
theorem dX2_hearValue_56 : decode cX2_hearValue 56 = .ok (.aload_n 3, 1) := by decide +kernel
theorem dX2_hearValue_57 : decode cX2_hearValue 57 = .ok (.invokevirtual 98, 3) := by decide +kernel
theorem dX2_hearValue_60 : decode cX2_hearValue 60 = .ok (.return_, 1) := by decide +kernel
theorem dX2_hearRows_0 : decode cX2_hearRows 0 = .ok (.aload_n 1, 1) := by decide +kernel
theorem dX2_hearRows_1 : decode cX2_hearRows 1 = .ok (.iconst 0, 1) := by decide +kernel
theorem dX2_hearRows_2 : decode cX2_hearRows 2 = .ok (.invokevirtual 70, 3) := by decide +kernel
theorem dX2_hearRows_5 : decode cX2_hearRows 5 = .ok (.istore 5, 2) := by decide +kernel
theorem dX2_hearRows_7 : decode cX2_hearRows 7 = .ok (.iload 5, 2) := by decide +kernel
theorem dX2_hearRows_9 : decode cX2_hearRows 9 = .ok (.iconst 5, 1) := by decide +kernel
theorem dX2_hearRows_10 : decode cX2_hearRows 10 = .ok (.if_icmp .eq 10, 3) := by decide +kernel
theorem dX2_hearRows_13 : decode cX2_hearRows 13 = .ok (.iload 5, 2) := by decide +kernel
theorem dX2_hearRows_15 : decode cX2_hearRows 15 = .ok (.bipush 7, 2) := by decide +kernel
theorem dX2_hearRows_17 : decode cX2_hearRows 17 = .ok (.if_icmp .ne 7, 3) := by decide +kernel
theorem dX2_hearRows_20 : decode cX2_hearRows 20 = .ok (.iconst 4, 1) := by decide +kernel
theorem dX2_hearRows_21 : decode cX2_hearRows 21 = .ok (.goto 8, 3) := by decide +kernel
theorem dX2_hearRows_24 : decode cX2_hearRows 24 = .ok (.aload_n 1, 1) := by decide +kernel
theorem dX2_hearRows_25 : decode cX2_hearRows 25 = .ok (.iconst 1, 1) := by decide +kernel
theorem dX2_hearRows_26 : decode cX2_hearRows 26 = .ok (.invokevirtual 70, 3) := by decide +kernel
theorem dX2_hearRows_29 : decode cX2_hearRows 29 = .ok (.istore 6, 2) := by decide +kernel
theorem dX2_hearRows_31 : decode cX2_hearRows 31 = .ok (.iconst 0, 1) := by decide +kernel
theorem dX2_hearRows_32 : decode cX2_hearRows 32 = .ok (.istore 7, 2) := by decide +kernel
theorem dX2_hearRows_34 : decode cX2_hearRows 34 = .ok (.iload 5, 2) := by decide +kernel
theorem dX2_hearRows_36 : decode cX2_hearRows 36 = .ok (.bipush 7, 2) := by decide +kernel
theorem dX2_hearRows_38 : decode cX2_hearRows 38 = .ok (.if_icmp .ne 7, 3) := by decide +kernel
theorem dX2_hearRows_41 : decode cX2_hearRows 41 = .ok (.iconst 1, 1) := by decide +kernel
theorem dX2_hearRows_42 : decode cX2_hearRows 42 = .ok (.goto 4, 3) := by decide +kernel
theorem dX2_hearRows_45 : decode cX2_hearRows 45 = .ok (.iconst 2, 1) := by decide +kernel
theorem dX2_hearRows_46 : decode cX2_hearRows 46 = .ok (.istore 8, 2) := by decide +kernel
theorem dX2_hearRows_48 : decode cX2_hearRows 48 = .ok (.iload 6, 2) := by decide +kernel
theorem dX2_hearRows_50 : decode cX2_hearRows 50 = .ok (.ifCond .le 114, 3) := by decide +kernel
theorem dX2_hearRows_53 : decode cX2_hearRows 53 = .ok (.iload 8, 2) := by decide +kernel
theorem dX2_hearRows_55 : decode cX2_hearRows 55 = .ok (.iload 6, 2) := by decide +kernel
theorem dX2_hearRows_57 : decode cX2_hearRows 57 = .ok (.iadd, 1) := by decide +kernel
theorem dX2_hearRows_58 : decode cX2_hearRows 58 = .ok (.aload_n 1, 1) := by decide +kernel
theorem dX2_hearRows_59 : decode cX2_hearRows 59 = .ok (.getfield 56, 3) := by decide +kernel
theorem dX2_hearRows_62 : decode cX2_hearRows 62 = .ok (.if_icmp .gt 102, 3) := by decide +kernel
theorem dX2_hearRows_65 : decode cX2_hearRows 65 = .ok (.aload_n 1, 1) := by decide +kernel
theorem dX2_hearRows_66 : decode cX2_hearRows 66 = .ok (.iload 8, 2) := by decide +kernel
theorem dX2_hearRows_68 : decode cX2_hearRows 68 = .ok (.invokevirtual 92, 3) := by decide +kernel
theorem dX2_hearRows_71 : decode cX2_hearRows 71 = .ok (.istore 9, 2) := by decide +kernel
theorem dX2_hearRows_73 : decode cX2_hearRows 73 = .ok (.iload 5, 2) := by decide +kernel
theorem dX2_hearRows_75 : decode cX2_hearRows 75 = .ok (.bipush 9, 2) := by decide +kernel
theorem dX2_hearRows_77 : decode cX2_hearRows 77 = .ok (.if_icmp .ne 7, 3) := by decide +kernel
theorem dX2_hearRows_80 : decode cX2_hearRows 80 = .ok (.iconst 0, 1) := by decide +kernel
theorem dX2_hearRows_81 : decode cX2_hearRows 81 = .ok (.goto 11, 3) := by decide +kernel
theorem dX2_hearRows_84 : decode cX2_hearRows 84 = .ok (.aload_n 1, 1) := by decide +kernel
theorem dX2_hearRows_85 : decode cX2_hearRows 85 = .ok (.iload 8, 2) := by decide +kernel
theorem dX2_hearRows_87 : decode cX2_hearRows 87 = .ok (.iconst 2, 1) := by decide +kernel
theorem dX2_hearRows_88 : decode cX2_hearRows 88 = .ok (.iadd, 1) := by decide +kernel
theorem dX2_hearRows_89 : decode cX2_hearRows 89 = .ok (.invokevirtual 92, 3) := by decide +kernel
theorem dX2_hearRows_92 : decode cX2_hearRows 92 = .ok (.istore 10, 2) := by decide +kernel
theorem dX2_hearRows_94 : decode cX2_hearRows 94 = .ok (.iload 5, 2) := by decide +kernel
theorem dX2_hearRows_96 : decode cX2_hearRows 96 = .ok (.bipush 9, 2) := by decide +kernel
theorem dX2_hearRows_98 : decode cX2_hearRows 98 = .ok (.if_icmp .ne 7, 3) := by decide +kernel
theorem dX2_hearRows_101 : decode cX2_hearRows 101 = .ok (.iconst 2, 1) := by decide +kernel
theorem dX2_hearRows_102 : decode cX2_hearRows 102 = .ok (.goto 4, 3) := by decide +kernel
theorem dX2_hearRows_105 : decode cX2_hearRows 105 = .ok (.iconst 4, 1) := by decide +kernel
theorem dX2_hearRows_106 : decode cX2_hearRows 106 = .ok (.istore 11, 2) := by decide +kernel
theorem dX2_hearRows_108 : decode cX2_hearRows 108 = .ok (.aload_n 3, 1) := by decide +kernel
theorem dX2_hearRows_109 : decode cX2_hearRows 109 = .ok (.aload_n 0, 1) := by decide +kernel
theorem dX2_hearRows_110 : decode cX2_hearRows 110 = .ok (.getfield 9, 3) := by decide +kernel
theorem dX2_hearRows_113 : decode cX2_hearRows 113 = .ok (.iload 9, 2) := by decide +kernel
theorem dX2_hearRows_115 : decode cX2_hearRows 115 = .ok (.iload 10, 2) := by decide +kernel
theorem dX2_hearRows_117 : decode cX2_hearRows 117 = .ok (.aload_n 1, 1) := by decide +kernel
theorem dX2_hearRows_118 : decode cX2_hearRows 118 = .ok (.iload 8, 2) := by decide +kernel
theorem dX2_hearRows_120 : decode cX2_hearRows 120 = .ok (.iload 11, 2) := by decide +kernel
theorem dX2_hearRows_122 : decode cX2_hearRows 122 = .ok (.iadd, 1) := by decide +kernel
theorem dX2_hearRows_123 : decode cX2_hearRows 123 = .ok (.iload 6, 2) := by decide +kernel
theorem dX2_hearRows_125 : decode cX2_hearRows 125 = .ok (.iload 11, 2) := by decide +kernel
theorem dX2_hearRows_127 : decode cX2_hearRows 127 = .ok (.isub, 1) := by decide +kernel
theorem dX2_hearRows_128 : decode cX2_hearRows 128 = .ok (.invokevirtual 123, 3) := by decide +kernel
theorem dX2_hearRows_131 : decode cX2_hearRows 131 = .ok (.iload 5, 2) := by decide +kernel
theorem dX2_hearRows_133 : decode cX2_hearRows 133 = .ok (.bipush 17, 2) := by decide +kernel
theorem dX2_hearRows_135 : decode cX2_hearRows 135 = .ok (.if_icmp .eq 10, 3) := by decide +kernel
theorem dX2_hearRows_138 : decode cX2_hearRows 138 = .ok (.iload 5, 2) := by decide +kernel
theorem dX2_hearRows_140 : decode cX2_hearRows 140 = .ok (.bipush 7, 2) := by decide +kernel
theorem dX2_hearRows_142 : decode cX2_hearRows 142 = .ok (.if_icmp .ne 8, 3) := by decide +kernel
theorem dX2_hearRows_145 : decode cX2_hearRows 145 = .ok (.iload 10, 2) := by decide +kernel
theorem dX2_hearRows_147 : decode cX2_hearRows 147 = .ok (.goto 5, 3) := by decide +kernel
theorem dX2_hearRows_150 : decode cX2_hearRows 150 = .ok (.iload 9, 2) := by decide +kernel
theorem dX2_hearRows_152 : decode cX2_hearRows 152 = .ok (.istore 7, 2) := by decide +kernel
theorem dX2_hearRows_154 : decode cX2_hearRows 154 = .ok (.iload 8, 2) := by decide +kernel
theorem dX2_hearRows_156 : decode cX2_hearRows 156 = .ok (.iload 6, 2) := by decide +kernel
theorem dX2_hearRows_158 : decode cX2_hearRows 158 = .ok (.iadd, 1) := by decide +kernel
theorem dX2_hearRows_159 : decode cX2_hearRows 159 = .ok (.istore 8, 2) := by decide +kernel
theorem dX2_hearRows_161 : decode cX2_hearRows 161 = .ok (.goto (-113), 3) := by decide +kernel
theorem dX2_hearRows_164 : decode cX2_hearRows 164 = .ok (.iload 7, 2) := by decide +kernel
theorem dX2_hearRows_166 : decode cX2_hearRows 166 = .ok (.aload_n 0, 1) := by decide +kernel
theorem dX2_hearRows_167 : decode cX2_hearRows 167 = .ok (.invokevirtual 74, 3) := by decide +kernel
theorem dX2_hearRows_170 : decode cX2_hearRows 170 = .ok (.if_icmp .ge 17, 3) := by decide +kernel
theorem dX2_hearRows_173 : decode cX2_hearRows 173 = .ok (.aload_n 0, 1) := by decide +kernel
theorem dX2_hearRows_174 : decode cX2_hearRows 174 = .ok (.iload 7, 2) := by decide +kernel
theorem dX2_hearRows_176 : decode cX2_hearRows 176 = .ok (.iconst 1, 1) := by decide +kernel
theorem dX2_hearRows_177 : decode cX2_hearRows 177 = .ok (.iadd, 1) := by decide +kernel
theorem dX2_hearRows_178 : decode cX2_hearRows 178 = .ok (.aload_n 2, 1) := by decide +kernel
theorem dX2_hearRows_179 : decode cX2_hearRows 179 = .ok (.aload 4, 2) := by decide +kernel
theorem dX2_hearRows_181 : decode cX2_hearRows 181 = .ok (.invokevirtual 106, 3) := by decide +kernel
theorem dX2_hearRows_184 : decode cX2_hearRows 184 = .ok (.goto 8, 3) := by decide +kernel
theorem dX2_hearRows_187 : decode cX2_hearRows 187 = .ok (.aload_n 0, 1) := by decide +kernel
theorem dX2_hearRows_188 : decode cX2_hearRows 188 = .ok (.aload_n 3, 1) := by decide +kernel
theorem dX2_hearRows_189 : decode cX2_hearRows 189 = .ok (.invokevirtual 98, 3) := by decide +kernel
theorem dX2_hearRows_192 : decode cX2_hearRows 192 = .ok (.return_, 1) := by decide +kernel
theorem dX3_init_0 : decode cX3_init 0 = .ok (.aload_n 0, 1) := by decide +kernel
theorem dX3_init_1 : decode cX3_init 1 = .ok (.invokespecial 3, 3) := by decide +kernel
theorem dX3_init_4 : decode cX3_init 4 = .ok (.aload_n 0, 1) := by decide +kernel
theorem dX3_init_5 : decode cX3_init 5 = .ok (.new 9, 3) := by decide +kernel
theorem dX3_init_8 : decode cX3_init 8 = .ok (.dup, 1) := by decide +kernel
theorem dX3_init_9 : decode cX3_init 9 = .ok (.bipush 20, 2) := by decide +kernel
theorem dX3_init_11 : decode cX3_init 11 = .ok (.invokespecial 11, 3) := by decide +kernel
theorem dX3_init_14 : decode cX3_init 14 = .ok (.putfield 14, 3) := by decide +kernel
theorem dX3_init_17 : decode cX3_init 17 = .ok (.aload_n 0, 1) := by decide +kernel
theorem dX3_init_18 : decode cX3_init 18 = .ok (.new 9, 3) := by decide +kernel
theorem dX3_init_21 : decode cX3_init 21 = .ok (.dup, 1) := by decide +kernel
theorem dX3_init_22 : decode cX3_init 22 = .ok (.bipush 31, 2) := by decide +kernel
theorem dX3_init_24 : decode cX3_init 24 = .ok (.invokespecial 11, 3) := by decide +kernel
theorem dX3_init_27 : decode cX3_init 27 = .ok (.putfield 20, 3) := by decide +kernel
theorem dX3_init_30 : decode cX3_init 30 = .ok (.aload_n 0, 1) := by decide +kernel
theorem dX3_init_31 : decode cX3_init 31 = .ok (.new 23, 3) := by decide +kernel
theorem dX3_init_34 : decode cX3_init 34 = .ok (.dup, 1) := by decide +kernel
theorem dX3_init_35 : decode cX3_init 35 = .ok (.invokespecial 25, 3) := by decide +kernel
theorem dX3_init_38 : decode cX3_init 38 = .ok (.putfield 26, 3) := by decide +kernel
theorem dX3_init_41 : decode cX3_init 41 = .ok (.aload_n 0, 1) := by decide +kernel
theorem dX3_init_42 : decode cX3_init 42 = .ok (.new 30, 3) := by decide +kernel
theorem dX3_init_45 : decode cX3_init 45 = .ok (.dup, 1) := by decide +kernel
theorem dX3_init_46 : decode cX3_init 46 = .ok (.invokespecial 32, 3) := by decide +kernel
theorem dX3_init_49 : decode cX3_init 49 = .ok (.putfield 33, 3) := by decide +kernel
theorem dX3_init_52 : decode cX3_init 52 = .ok (.aload_n 0, 1) := by decide +kernel
theorem dX3_init_53 : decode cX3_init 53 = .ok (.new 37, 3) := by decide +kernel
theorem dX3_init_56 : decode cX3_init 56 = .ok (.dup, 1) := by decide +kernel
theorem dX3_init_57 : decode cX3_init 57 = .ok (.invokespecial 39, 3) := by decide +kernel
theorem dX3_init_60 : decode cX3_init 60 = .ok (.putfield 40, 3) := by decide +kernel
theorem dX3_init_63 : decode cX3_init 63 = .ok (.aload_n 0, 1) := by decide +kernel
theorem dX3_init_64 : decode cX3_init 64 = .ok (.new 44, 3) := by decide +kernel
theorem dX3_init_67 : decode cX3_init 67 = .ok (.dup, 1) := by decide +kernel
theorem dX3_init_68 : decode cX3_init 68 = .ok (.invokespecial 46, 3) := by decide +kernel
theorem dX3_init_71 : decode cX3_init 71 = .ok (.putfield 47, 3) := by decide +kernel
theorem dX3_init_74 : decode cX3_init 74 = .ok (.aload_n 0, 1) := by decide +kernel
theorem dX3_init_75 : decode cX3_init 75 = .ok (.new 51, 3) := by decide +kernel
theorem dX3_init_78 : decode cX3_init 78 = .ok (.dup, 1) := by decide +kernel
theorem dX3_init_79 : decode cX3_init 79 = .ok (.invokespecial 53, 3) := by decide +kernel
theorem dX3_init_82 : decode cX3_init 82 = .ok (.putfield 54, 3) := by decide +kernel
theorem dX3_init_85 : decode cX3_init 85 = .ok (.aload_n 0, 1) := by decide +kernel
theorem dX3_init_86 : decode cX3_init 86 = .ok (.new 9, 3) := by decide +kernel
theorem dX3_init_89 : decode cX3_init 89 = .ok (.dup, 1) := by decide +kernel
theorem dX3_init_90 : decode cX3_init 90 = .ok (.bipush 92, 2) := by decide +kernel
theorem dX3_init_92 : decode cX3_init 92 = .ok (.invokespecial 11, 3) := by decide +kernel
theorem dX3_init_95 : decode cX3_init 95 = .ok (.putfield 58, 3) := by decide +kernel
theorem dX3_init_98 : decode cX3_init 98 = .ok (.aload_n 0, 1) := by decide +kernel
theorem dX3_init_99 : decode cX3_init 99 = .ok (.iload_n 1, 1) := by decide +kernel
theorem dX3_init_100 : decode cX3_init 100 = .ok (.putfield 61, 3) := by decide +kernel
theorem dX3_init_103 : decode cX3_init 103 = .ok (.aload_n 0, 1) := by decide +kernel
theorem dX3_init_104 : decode cX3_init 104 = .ok (.lload_n 2, 1) := by decide +kernel
theorem dX3_init_105 : decode cX3_init 105 = .ok (.putfield 65, 3) := by decide +kernel
theorem dX3_init_108 : decode cX3_init 108 = .ok (.aload_n 0, 1) := by decide +kernel
theorem dX3_init_109 : decode cX3_init 109 = .ok (.iload_n 1, 1) := by decide +kernel
theorem dX3_init_110 : decode cX3_init 110 = .ok (.putfield 69, 3) := by decide +kernel
theorem dX3_init_113 : decode cX3_init 113 = .ok (.aload_n 0, 1) := by decide +kernel
theorem dX3_init_114 : decode cX3_init 114 = .ok (.new 72, 3) := by decide +kernel
theorem dX3_init_117 : decode cX3_init 117 = .ok (.dup, 1) := by decide +kernel
theorem dX3_init_118 : decode cX3_init 118 = .ok (.aload 4, 2) := by decide +kernel
theorem dX3_init_120 : decode cX3_init 120 = .ok (.invokespecial 74, 3) := by decide +kernel
theorem dX3_init_123 : decode cX3_init 123 = .ok (.putfield 77, 3) := by decide +kernel
theorem dX3_init_126 : decode cX3_init 126 = .ok (.aload_n 0, 1) := by decide +kernel
theorem dX3_init_127 : decode cX3_init 127 = .ok (.new 81, 3) := by decide +kernel
theorem dX3_init_130 : decode cX3_init 130 = .ok (.dup, 1) := by decide +kernel
theorem dX3_init_131 : decode cX3_init 131 = .ok (.aload 4, 2) := by decide +kernel
theorem dX3_init_133 : decode cX3_init 133 = .ok (.invokespecial 83, 3) := by decide +kernel
theorem dX3_init_136 : decode cX3_init 136 = .ok (.putfield 84, 3) := by decide +kernel
theorem dX3_init_139 : decode cX3_init 139 = .ok (.return_, 1) := by decide +kernel
theorem dX3_draw_0 : decode cX3_draw 0 = .ok (.aload_n 0, 1) := by decide +kernel
theorem dX3_draw_1 : decode cX3_draw 1 = .ok (.aload_n 0, 1) := by decide +kernel
theorem dX3_draw_2 : decode cX3_draw 2 = .ok (.getfield 69, 3) := by decide +kernel
theorem dX3_draw_5 : decode cX3_draw 5 = .ok (.ldc 88, 2) := by decide +kernel
theorem dX3_draw_7 : decode cX3_draw 7 = .ok (.imul, 1) := by decide +kernel
theorem dX3_draw_8 : decode cX3_draw 8 = .ok (.sipush 12345, 3) := by decide +kernel
theorem dX3_draw_11 : decode cX3_draw 11 = .ok (.iadd, 1) := by decide +kernel
theorem dX3_draw_12 : decode cX3_draw 12 = .ok (.putfield 69, 3) := by decide +kernel
theorem dX3_draw_15 : decode cX3_draw 15 = .ok (.aload_n 0, 1) := by decide +kernel
theorem dX3_draw_16 : decode cX3_draw 16 = .ok (.getfield 69, 3) := by decide +kernel
theorem dX3_draw_19 : decode cX3_draw 19 = .ok (.bipush 16, 2) := by decide +kernel
theorem dX3_draw_21 : decode cX3_draw 21 = .ok (.ishr, 1) := by decide +kernel
theorem dX3_draw_22 : decode cX3_draw 22 = .ok (.sipush 255, 3) := by decide +kernel
theorem dX3_draw_25 : decode cX3_draw 25 = .ok (.iand, 1) := by decide +kernel
theorem dX3_draw_26 : decode cX3_draw 26 = .ok (.ireturn, 1) := by decide +kernel
theorem dX3_drawNumber_0 : decode cX3_drawNumber 0 = .ok (.iconst 0, 1) := by decide +kernel
theorem dX3_drawNumber_1 : decode cX3_drawNumber 1 = .ok (.istore_n 2, 1) := by decide +kernel
theorem dX3_drawNumber_2 : decode cX3_drawNumber 2 = .ok (.iconst 0, 1) := by decide +kernel
theorem dX3_drawNumber_3 : decode cX3_drawNumber 3 = .ok (.istore_n 3, 1) := by decide +kernel
theorem dX3_drawNumber_4 : decode cX3_drawNumber 4 = .ok (.iload_n 3, 1) := by decide +kernel
theorem dX3_drawNumber_5 : decode cX3_drawNumber 5 = .ok (.iload_n 1, 1) := by decide +kernel
theorem dX3_drawNumber_6 : decode cX3_drawNumber 6 = .ok (.if_icmp .ge 26, 3) := by decide +kernel
theorem dX3_drawNumber_9 : decode cX3_drawNumber 9 = .ok (.iload_n 3, 1) := by decide +kernel
theorem dX3_drawNumber_10 : decode cX3_drawNumber 10 = .ok (.iconst 4, 1) := by decide +kernel
theorem dX3_drawNumber_11 : decode cX3_drawNumber 11 = .ok (.if_icmp .ge 21, 3) := by decide +kernel
theorem dX3_drawNumber_14 : decode cX3_drawNumber 14 = .ok (.iload_n 2, 1) := by decide +kernel
theorem dX3_drawNumber_15 : decode cX3_drawNumber 15 = .ok (.aload_n 0, 1) := by decide +kernel
theorem dX3_drawNumber_16 : decode cX3_drawNumber 16 = .ok (.invokevirtual 89, 3) := by decide +kernel
theorem dX3_drawNumber_19 : decode cX3_drawNumber 19 = .ok (.bipush 8, 2) := by decide +kernel
theorem dX3_drawNumber_21 : decode cX3_drawNumber 21 = .ok (.iload_n 3, 1) := by decide +kernel
theorem dX3_drawNumber_22 : decode cX3_drawNumber 22 = .ok (.imul, 1) := by decide +kernel
theorem dX3_drawNumber_23 : decode cX3_drawNumber 23 = .ok (.ishl, 1) := by decide +kernel
theorem dX3_drawNumber_24 : decode cX3_drawNumber 24 = .ok (.ior, 1) := by decide +kernel
theorem dX3_drawNumber_25 : decode cX3_drawNumber 25 = .ok (.istore_n 2, 1) := by decide +kernel
theorem dX3_drawNumber_26 : decode cX3_drawNumber 26 = .ok (.iinc 3 1, 3) := by decide +kernel
theorem dX3_drawNumber_29 : decode cX3_drawNumber 29 = .ok (.goto (-25), 3) := by decide +kernel
theorem dX3_drawNumber_32 : decode cX3_drawNumber 32 = .ok (.iload_n 2, 1) := by decide +kernel
theorem dX3_drawNumber_33 : decode cX3_drawNumber 33 = .ok (.ireturn, 1) := by decide +kernel
theorem dX3_drawInto_0 : decode cX3_drawInto 0 = .ok (.iload_n 2, 1) := by decide +kernel
theorem dX3_drawInto_1 : decode cX3_drawInto 1 = .ok (.istore 4, 2) := by decide +kernel
theorem dX3_drawInto_3 : decode cX3_drawInto 3 = .ok (.iload 4, 2) := by decide +kernel
theorem dX3_drawInto_5 : decode cX3_drawInto 5 = .ok (.iload_n 2, 1) := by decide +kernel
theorem dX3_drawInto_6 : decode cX3_drawInto 6 = .ok (.isub, 1) := by decide +kernel
theorem dX3_drawInto_7 : decode cX3_drawInto 7 = .ok (.iload_n 3, 1) := by decide +kernel
theorem dX3_drawInto_8 : decode cX3_drawInto 8 = .ok (.if_icmp .ge 29, 3) := by decide +kernel
theorem dX3_drawInto_11 : decode cX3_drawInto 11 = .ok (.iload 4, 2) := by decide +kernel
theorem dX3_drawInto_13 : decode cX3_drawInto 13 = .ok (.ifCond .lt 24, 3) := by decide +kernel
theorem dX3_drawInto_16 : decode cX3_drawInto 16 = .ok (.iload 4, 2) := by decide +kernel
theorem dX3_drawInto_18 : decode cX3_drawInto 18 = .ok (.aload_n 1, 1) := by decide +kernel
theorem dX3_drawInto_19 : decode cX3_drawInto 19 = .ok (.arraylength, 1) := by decide +kernel
theorem dX3_drawInto_20 : decode cX3_drawInto 20 = .ok (.if_icmp .ge 17, 3) := by decide +kernel
theorem dX3_drawInto_23 : decode cX3_drawInto 23 = .ok (.aload_n 1, 1) := by decide +kernel
theorem dX3_drawInto_24 : decode cX3_drawInto 24 = .ok (.iload 4, 2) := by decide +kernel
theorem dX3_drawInto_26 : decode cX3_drawInto 26 = .ok (.aload_n 0, 1) := by decide +kernel
theorem dX3_drawInto_27 : decode cX3_drawInto 27 = .ok (.invokevirtual 89, 3) := by decide +kernel
theorem dX3_drawInto_30 : decode cX3_drawInto 30 = .ok (.iastore, 1) := by decide +kernel
theorem dX3_drawInto_31 : decode cX3_drawInto 31 = .ok (.iinc 4 1, 3) := by decide +kernel
theorem dX3_drawInto_34 : decode cX3_drawInto 34 = .ok (.goto (-31), 3) := by decide +kernel
theorem dX3_drawInto_37 : decode cX3_drawInto 37 = .ok (.return_, 1) := by decide +kernel
theorem dX3_inLink_0 : decode cX3_inLink 0 = .ok (.aload_n 0, 1) := by decide +kernel
theorem dX3_inLink_1 : decode cX3_inLink 1 = .ok (.getfield 93, 3) := by decide +kernel
theorem dX3_inLink_4 : decode cX3_inLink 4 = .ok (.iconst 4, 1) := by decide +kernel
theorem dX3_inLink_5 : decode cX3_inLink 5 = .ok (.if_icmp .eq 11, 3) := by decide +kernel
theorem dX3_inLink_8 : decode cX3_inLink 8 = .ok (.aload_n 0, 1) := by decide +kernel
theorem dX3_inLink_9 : decode cX3_inLink 9 = .ok (.getfield 93, 3) := by decide +kernel
theorem dX3_inLink_12 : decode cX3_inLink 12 = .ok (.iconst 5, 1) := by decide +kernel
theorem dX3_inLink_13 : decode cX3_inLink 13 = .ok (.if_icmp .ne 7, 3) := by decide +kernel
theorem dX3_inLink_16 : decode cX3_inLink 16 = .ok (.iconst 1, 1) := by decide +kernel
theorem dX3_inLink_17 : decode cX3_inLink 17 = .ok (.goto 4, 3) := by decide +kernel
theorem dX3_inLink_20 : decode cX3_inLink 20 = .ok (.iconst 0, 1) := by decide +kernel
theorem dX3_inLink_21 : decode cX3_inLink 21 = .ok (.ireturn, 1) := by decide +kernel
theorem dX3_hasEventAt_0 : decode cX3_hasEventAt 0 = .ok (.aload_n 0, 1) := by decide +kernel
theorem dX3_hasEventAt_1 : decode cX3_hasEventAt 1 = .ok (.invokevirtual 96, 3) := by decide +kernel
theorem dX3_hasEventAt_4 : decode cX3_hasEventAt 4 = .ok (.ifCond .eq 18, 3) := by decide +kernel
theorem dX3_hasEventAt_7 : decode cX3_hasEventAt 7 = .ok (.aload_n 0, 1) := by decide +kernel
theorem dX3_hasEventAt_8 : decode cX3_hasEventAt 8 = .ok (.getfield 26, 3) := by decide +kernel
theorem dX3_hasEventAt_11 : decode cX3_hasEventAt 11 = .ok (.getfield 100, 3) := by decide +kernel
theorem dX3_hasEventAt_14 : decode cX3_hasEventAt 14 = .ok (.iload_n 1, 1) := by decide +kernel
theorem dX3_hasEventAt_15 : decode cX3_hasEventAt 15 = .ok (.if_icmp .ne 7, 3) := by decide +kernel
theorem dX3_hasEventAt_18 : decode cX3_hasEventAt 18 = .ok (.iconst 1, 1) := by decide +kernel
theorem dX3_hasEventAt_19 : decode cX3_hasEventAt 19 = .ok (.goto 4, 3) := by decide +kernel
theorem dX3_hasEventAt_22 : decode cX3_hasEventAt 22 = .ok (.iconst 0, 1) := by decide +kernel
theorem dX3_hasEventAt_23 : decode cX3_hasEventAt 23 = .ok (.ireturn, 1) := by decide +kernel
theorem dX3_mayControl_0 : decode cX3_mayControl 0 = .ok (.aload_n 0, 1) := by decide +kernel
theorem dX3_mayControl_1 : decode cX3_mayControl 1 = .ok (.getfield 33, 3) := by decide +kernel
theorem dX3_mayControl_4 : decode cX3_mayControl 4 = .ok (.getfield 103, 3) := by decide +kernel
theorem dX3_mayControl_7 : decode cX3_mayControl 7 = .ok (.iconst 4, 1) := by decide +kernel
theorem dX3_mayControl_8 : decode cX3_mayControl 8 = .ok (.if_icmp .gt 17, 3) := by decide +kernel
theorem dX3_mayControl_11 : decode cX3_mayControl 11 = .ok (.aload_n 0, 1) := by decide +kernel
theorem dX3_mayControl_12 : decode cX3_mayControl 12 = .ok (.getfield 77, 3) := by decide +kernel
theorem dX3_mayControl_15 : decode cX3_mayControl 15 = .ok (.getfield 106, 3) := by decide +kernel
theorem dX3_mayControl_18 : decode cX3_mayControl 18 = .ok (.ifCond .ne 7, 3) := by decide +kernel
theorem dX3_mayControl_21 : decode cX3_mayControl 21 = .ok (.iconst 1, 1) := by decide +kernel
theorem dX3_mayControl_22 : decode cX3_mayControl 22 = .ok (.goto 4, 3) := by decide +kernel
theorem dX3_mayControl_25 : decode cX3_mayControl 25 = .ok (.iconst 0, 1) := by decide +kernel
theorem dX3_mayControl_26 : decode cX3_mayControl 26 = .ok (.ireturn, 1) := by decide +kernel
theorem dX3_report_0 : decode cX3_report 0 = .ok (.aload_n 0, 1) := by decide +kernel
theorem dX3_report_1 : decode cX3_report 1 = .ok (.dup, 1) := by decide +kernel
theorem dX3_report_2 : decode cX3_report 2 = .ok (.getfield 110, 3) := by decide +kernel
theorem dX3_report_5 : decode cX3_report 5 = .ok (.iconst 1, 1) := by decide +kernel
theorem dX3_report_6 : decode cX3_report 6 = .ok (.iadd, 1) := by decide +kernel
theorem dX3_report_7 : decode cX3_report 7 = .ok (.putfield 110, 3) := by decide +kernel
theorem dX3_report_10 : decode cX3_report 10 = .ok (.aload_n 0, 1) := by decide +kernel
theorem dX3_report_11 : decode cX3_report 11 = .ok (.aload_n 1, 1) := by decide +kernel
theorem dX3_report_12 : decode cX3_report 12 = .ok (.iconst 0, 1) := by decide +kernel
theorem dX3_report_13 : decode cX3_report 13 = .ok (.bipush 6, 2) := by decide +kernel
theorem dX3_report_15 : decode cX3_report 15 = .ok (.invokevirtual 113, 3) := by decide +kernel
theorem dX3_report_18 : decode cX3_report 18 = .ok (.putfield 117, 3) := by decide +kernel
theorem dX3_report_21 : decode cX3_report 21 = .ok (.aload_n 0, 1) := by decide +kernel
theorem dX3_report_22 : decode cX3_report 22 = .ok (.getfield 20, 3) := by decide +kernel
theorem dX3_report_25 : decode cX3_report 25 = .ok (.invokevirtual 120, 3) := by decide +kernel
theorem dX3_report_28 : decode cX3_report 28 = .ok (.aload_n 0, 1) := by decide +kernel
theorem dX3_report_29 : decode cX3_report 29 = .ok (.getfield 20, 3) := by decide +kernel
theorem dX3_report_32 : decode cX3_report 32 = .ok (.aload_n 1, 1) := by decide +kernel
theorem dX3_report_33 : decode cX3_report 33 = .ok (.bipush 6, 2) := by decide +kernel
theorem dX3_report_35 : decode cX3_report 35 = .ok (.aload_n 1, 1) := by decide +kernel
theorem dX3_report_36 : decode cX3_report 36 = .ok (.getfield 123, 3) := by decide +kernel
theorem dX3_report_39 : decode cX3_report 39 = .ok (.invokevirtual 126, 3) := by decide +kernel
theorem dX3_report_42 : decode cX3_report 42 = .ok (.return_, 1) := by decide +kernel
theorem dX3_accepts_0 : decode cX3_accepts 0 = .ok (.aload_n 1, 1) := by decide +kernel
theorem dX3_accepts_1 : decode cX3_accepts 1 = .ok (.getfield 123, 3) := by decide +kernel
theorem dX3_accepts_4 : decode cX3_accepts 4 = .ok (.bipush 29, 2) := by decide +kernel
theorem dX3_accepts_6 : decode cX3_accepts 6 = .ok (.if_icmp .ne 19, 3) := by decide +kernel
theorem dX3_accepts_9 : decode cX3_accepts 9 = .ok (.aload_n 1, 1) := by decide +kernel
theorem dX3_accepts_10 : decode cX3_accepts 10 = .ok (.bipush 6, 2) := by decide +kernel
theorem dX3_accepts_12 : decode cX3_accepts 12 = .ok (.bipush 6, 2) := by decide +kernel
theorem dX3_accepts_14 : decode cX3_accepts 14 = .ok (.invokevirtual 113, 3) := by decide +kernel
theorem dX3_accepts_17 : decode cX3_accepts 17 = .ok (.aload_n 0, 1) := by decide +kernel
theorem dX3_accepts_18 : decode cX3_accepts 18 = .ok (.getfield 65, 3) := by decide +kernel
theorem dX3_accepts_21 : decode cX3_accepts 21 = .ok (.lcmp, 1) := by decide +kernel
theorem dX3_accepts_22 : decode cX3_accepts 22 = .ok (.ifCond .eq 5, 3) := by decide +kernel
theorem dX3_accepts_25 : decode cX3_accepts 25 = .ok (.iconst 0, 1) := by decide +kernel
theorem dX3_accepts_26 : decode cX3_accepts 26 = .ok (.ireturn, 1) := by decide +kernel
theorem dX3_accepts_27 : decode cX3_accepts 27 = .ok (.aload_n 1, 1) := by decide +kernel
theorem dX3_accepts_28 : decode cX3_accepts 28 = .ok (.bipush 19, 2) := by decide +kernel
theorem dX3_accepts_30 : decode cX3_accepts 30 = .ok (.invokevirtual 130, 3) := by decide +kernel
theorem dX3_accepts_33 : decode cX3_accepts 33 = .ok (.istore_n 2, 1) := by decide +kernel
theorem dX3_accepts_34 : decode cX3_accepts 34 = .ok (.aload_n 1, 1) := by decide +kernel
theorem dX3_accepts_35 : decode cX3_accepts 35 = .ok (.bipush 21, 2) := by decide +kernel
theorem dX3_accepts_37 : decode cX3_accepts 37 = .ok (.invokevirtual 130, 3) := by decide +kernel
theorem dX3_accepts_40 : decode cX3_accepts 40 = .ok (.istore_n 3, 1) := by decide +kernel
theorem dX3_accepts_41 : decode cX3_accepts 41 = .ok (.aload_n 1, 1) := by decide +kernel
theorem dX3_accepts_42 : decode cX3_accepts 42 = .ok (.bipush 28, 2) := by decide +kernel
theorem dX3_accepts_44 : decode cX3_accepts 44 = .ok (.invokevirtual 134, 3) := by decide +kernel
theorem dX3_accepts_47 : decode cX3_accepts 47 = .ok (.istore 4, 2) := by decide +kernel
theorem dX3_accepts_49 : decode cX3_accepts 49 = .ok (.aload_n 1, 1) := by decide +kernel
theorem dX3_accepts_50 : decode cX3_accepts 50 = .ok (.bipush 23, 2) := by decide +kernel
theorem dX3_accepts_52 : decode cX3_accepts 52 = .ok (.iconst 5, 1) := by decide +kernel
theorem dX3_accepts_53 : decode cX3_accepts 53 = .ok (.invokevirtual 113, 3) := by decide +kernel
theorem dX3_accepts_56 : decode cX3_accepts 56 = .ok (.lstore 5, 2) := by decide +kernel
theorem dX3_accepts_58 : decode cX3_accepts 58 = .ok (.iload_n 2, 1) := by decide +kernel
theorem dX3_accepts_59 : decode cX3_accepts 59 = .ok (.iload_n 3, 1) := by decide +kernel
theorem dX3_accepts_60 : decode cX3_accepts 60 = .ok (.iload 4, 2) := by decide +kernel
theorem dX3_accepts_62 : decode cX3_accepts 62 = .ok (.lload 5, 2) := by decide +kernel
theorem dX3_accepts_64 : decode cX3_accepts 64 = .ok (.invokestatic 137, 3) := by decide +kernel
theorem dX3_accepts_67 : decode cX3_accepts 67 = .ok (.ifCond .ne 5, 3) := by decide +kernel
theorem dX3_accepts_70 : decode cX3_accepts 70 = .ok (.iconst 0, 1) := by decide +kernel
theorem dX3_accepts_71 : decode cX3_accepts 71 = .ok (.ireturn, 1) := by decide +kernel
theorem dX3_accepts_72 : decode cX3_accepts 72 = .ok (.aload_n 0, 1) := by decide +kernel
theorem dX3_accepts_73 : decode cX3_accepts 73 = .ok (.getfield 26, 3) := by decide +kernel
theorem dX3_accepts_76 : decode cX3_accepts 76 = .ok (.aload_n 1, 1) := by decide +kernel
theorem dX3_accepts_77 : decode cX3_accepts 77 = .ok (.iconst 0, 1) := by decide +kernel
theorem dX3_accepts_78 : decode cX3_accepts 78 = .ok (.bipush 6, 2) := by decide +kernel
theorem dX3_accepts_80 : decode cX3_accepts 80 = .ok (.invokevirtual 113, 3) := by decide +kernel
theorem dX3_accepts_83 : decode cX3_accepts 83 = .ok (.putfield 141, 3) := by decide +kernel
theorem dX3_accepts_86 : decode cX3_accepts 86 = .ok (.aload_n 0, 1) := by decide +kernel
theorem dX3_accepts_87 : decode cX3_accepts 87 = .ok (.getfield 26, 3) := by decide +kernel
theorem dX3_accepts_90 : decode cX3_accepts 90 = .ok (.aload_n 1, 1) := by decide +kernel
theorem dX3_accepts_91 : decode cX3_accepts 91 = .ok (.bipush 12, 2) := by decide +kernel
theorem dX3_accepts_93 : decode cX3_accepts 93 = .ok (.iconst 4, 1) := by decide +kernel
theorem dX3_accepts_94 : decode cX3_accepts 94 = .ok (.invokevirtual 113, 3) := by decide +kernel
theorem dX3_accepts_97 : decode cX3_accepts 97 = .ok (.l2i, 1) := by decide +kernel
theorem dX3_accepts_98 : decode cX3_accepts 98 = .ok (.putfield 144, 3) := by decide +kernel
theorem dX3_accepts_101 : decode cX3_accepts 101 = .ok (.aload_n 0, 1) := by decide +kernel
theorem dX3_accepts_102 : decode cX3_accepts 102 = .ok (.getfield 26, 3) := by decide +kernel
theorem dX3_accepts_105 : decode cX3_accepts 105 = .ok (.aload_n 1, 1) := by decide +kernel
theorem dX3_accepts_106 : decode cX3_accepts 106 = .ok (.bipush 16, 2) := by decide +kernel
theorem dX3_accepts_108 : decode cX3_accepts 108 = .ok (.iconst 3, 1) := by decide +kernel
theorem dX3_accepts_109 : decode cX3_accepts 109 = .ok (.invokevirtual 113, 3) := by decide +kernel
theorem dX3_accepts_112 : decode cX3_accepts 112 = .ok (.l2i, 1) := by decide +kernel
theorem dX3_accepts_113 : decode cX3_accepts 113 = .ok (.putfield 147, 3) := by decide +kernel
theorem dX3_accepts_116 : decode cX3_accepts 116 = .ok (.aload_n 0, 1) := by decide +kernel
theorem dX3_accepts_117 : decode cX3_accepts 117 = .ok (.getfield 26, 3) := by decide +kernel
theorem dX3_accepts_120 : decode cX3_accepts 120 = .ok (.iload_n 2, 1) := by decide +kernel
theorem dX3_accepts_121 : decode cX3_accepts 121 = .ok (.iload_n 3, 1) := by decide +kernel
theorem dX3_accepts_122 : decode cX3_accepts 122 = .ok (.iload 4, 2) := by decide +kernel
theorem dX3_accepts_124 : decode cX3_accepts 124 = .ok (.lload 5, 2) := by decide +kernel
theorem dX3_accepts_126 : decode cX3_accepts 126 = .ok (.invokevirtual 150, 3) := by decide +kernel
theorem dX3_accepts_129 : decode cX3_accepts 129 = .ok (.iconst 1, 1) := by decide +kernel
theorem dX3_accepts_130 : decode cX3_accepts 130 = .ok (.ireturn, 1) := by decide +kernel
theorem dX3_enterLink_0 : decode cX3_enterLink 0 = .ok (.aload_n 0, 1) := by decide +kernel
theorem dX3_enterLink_1 : decode cX3_enterLink 1 = .ok (.iload_n 1, 1) := by decide +kernel
theorem dX3_enterLink_2 : decode cX3_enterLink 2 = .ok (.putfield 93, 3) := by decide +kernel
theorem dX3_enterLink_5 : decode cX3_enterLink 5 = .ok (.aload_n 0, 1) := by decide +kernel
theorem dX3_enterLink_6 : decode cX3_enterLink 6 = .ok (.getfield 26, 3) := by decide +kernel
theorem dX3_enterLink_9 : decode cX3_enterLink 9 = .ok (.iload_n 2, 1) := by decide +kernel
theorem dX3_enterLink_10 : decode cX3_enterLink 10 = .ok (.invokevirtual 154, 3) := by decide +kernel
theorem dX3_enterLink_13 : decode cX3_enterLink 13 = .ok (.aload_n 0, 1) := by decide +kernel
theorem dX3_enterLink_14 : decode cX3_enterLink 14 = .ok (.getfield 54, 3) := by decide +kernel
theorem dX3_enterLink_17 : decode cX3_enterLink 17 = .ok (.iconst 0, 1) := by decide +kernel
theorem dX3_enterLink_18 : decode cX3_enterLink 18 = .ok (.iload_n 1, 1) := by decide +kernel
theorem dX3_enterLink_19 : decode cX3_enterLink 19 = .ok (.iconst 0, 1) := by decide +kernel
theorem dX3_enterLink_20 : decode cX3_enterLink 20 = .ok (.iconst 0, 1) := by decide +kernel
theorem dX3_enterLink_21 : decode cX3_enterLink 21 = .ok (.invokevirtual 157, 3) := by decide +kernel
theorem dX3_enterLink_24 : decode cX3_enterLink 24 = .ok (.return_, 1) := by decide +kernel
theorem dX3_currentIsAcknowledged_0 : decode cX3_currentIsAcknowledged 0 = .ok (.aload_n 0, 1) := by decide +kernel
theorem dX3_currentIsAcknowledged_1 : decode cX3_currentIsAcknowledged 1 = .ok (.getfield 33, 3) := by decide +kernel
theorem dX3_currentIsAcknowledged_4 : decode cX3_currentIsAcknowledged 4 = .ok (.getfield 161, 3) := by decide +kernel
theorem dX3_currentIsAcknowledged_7 : decode cX3_currentIsAcknowledged 7 = .ok (.istore_n 1, 1) := by decide +kernel
theorem dX3_currentIsAcknowledged_8 : decode cX3_currentIsAcknowledged 8 = .ok (.aload_n 0, 1) := by decide +kernel
theorem dX3_currentIsAcknowledged_9 : decode cX3_currentIsAcknowledged 9 = .ok (.getfield 33, 3) := by decide +kernel
theorem dX3_currentIsAcknowledged_12 : decode cX3_currentIsAcknowledged 12 = .ok (.invokevirtual 164, 3) := by decide +kernel
theorem dX3_currentIsAcknowledged_15 : decode cX3_currentIsAcknowledged 15 = .ok (.iload_n 1, 1) := by decide +kernel
theorem dX3_currentIsAcknowledged_16 : decode cX3_currentIsAcknowledged 16 = .ok (.iconst 2, 1) := by decide +kernel
theorem dX3_currentIsAcknowledged_17 : decode cX3_currentIsAcknowledged 17 = .ok (.if_icmp .ne 15, 3) := by decide +kernel
theorem dX3_currentIsAcknowledged_20 : decode cX3_currentIsAcknowledged 20 = .ok (.aload_n 0, 1) := by decide +kernel
theorem dX3_currentIsAcknowledged_21 : decode cX3_currentIsAcknowledged 21 = .ok (.getfield 26, 3) := by decide +kernel
theorem dX3_currentIsAcknowledged_24 : decode cX3_currentIsAcknowledged 24 = .ok (.bipush 22, 2) := by decide +kernel
theorem dX3_currentIsAcknowledged_26 : decode cX3_currentIsAcknowledged 26 = .ok (.invokevirtual 167, 3) := by decide +kernel
theorem dX3_currentIsAcknowledged_29 : decode cX3_currentIsAcknowledged 29 = .ok (.goto 15, 3) := by decide +kernel
theorem dX3_currentIsAcknowledged_32 : decode cX3_currentIsAcknowledged 32 = .ok (.iload_n 1, 1) := by decide +kernel
theorem dX3_currentIsAcknowledged_33 : decode cX3_currentIsAcknowledged 33 = .ok (.iconst 5, 1) := by decide +kernel
theorem dX3_currentIsAcknowledged_34 : decode cX3_currentIsAcknowledged 34 = .ok (.if_icmp .ne 10, 3) := by decide +kernel
theorem dX3_currentIsAcknowledged_37 : decode cX3_currentIsAcknowledged 37 = .ok (.aload_n 0, 1) := by decide +kernel
theorem dX3_currentIsAcknowledged_38 : decode cX3_currentIsAcknowledged 38 = .ok (.getfield 77, 3) := by decide +kernel
theorem dX3_currentIsAcknowledged_41 : decode cX3_currentIsAcknowledged 41 = .ok (.invokevirtual 170, 3) := by decide +kernel
theorem dX3_currentIsAcknowledged_44 : decode cX3_currentIsAcknowledged 44 = .ok (.return_, 1) := by decide +kernel
theorem dX3_postValue_0 : decode cX3_postValue 0 = .ok (.aload_n 0, 1) := by decide +kernel
theorem dX3_postValue_1 : decode cX3_postValue 1 = .ok (.getfield 58, 3) := by decide +kernel
theorem dX3_postValue_4 : decode cX3_postValue 4 = .ok (.invokevirtual 120, 3) := by decide +kernel
theorem dX3_postValue_7 : decode cX3_postValue 7 = .ok (.aload_n 0, 1) := by decide +kernel
theorem dX3_postValue_8 : decode cX3_postValue 8 = .ok (.getfield 58, 3) := by decide +kernel
theorem dX3_postValue_11 : decode cX3_postValue 11 = .ok (.iload_n 1, 1) := by decide +kernel
theorem dX3_postValue_12 : decode cX3_postValue 12 = .ok (.invokevirtual 173, 3) := by decide +kernel
theorem dX3_postValue_15 : decode cX3_postValue 15 = .ok (.aload_n 0, 1) := by decide +kernel
theorem dX3_postValue_16 : decode cX3_postValue 16 = .ok (.getfield 58, 3) := by decide +kernel
theorem dX3_postValue_19 : decode cX3_postValue 19 = .ok (.iload_n 2, 1) := by decide +kernel
theorem dX3_postValue_20 : decode cX3_postValue 20 = .ok (.i2l, 1) := by decide +kernel
theorem dX3_postValue_21 : decode cX3_postValue 21 = .ok (.iconst 2, 1) := by decide +kernel
theorem dX3_postValue_22 : decode cX3_postValue 22 = .ok (.invokevirtual 176, 3) := by decide +kernel
theorem dX3_postValue_25 : decode cX3_postValue 25 = .ok (.aload_n 0, 1) := by decide +kernel
theorem dX3_postValue_26 : decode cX3_postValue 26 = .ok (.getfield 58, 3) := by decide +kernel
theorem dX3_postValue_29 : decode cX3_postValue 29 = .ok (.aload_n 3, 1) := by decide +kernel
theorem dX3_postValue_30 : decode cX3_postValue 30 = .ok (.iconst 0, 1) := by decide +kernel
theorem dX3_postValue_31 : decode cX3_postValue 31 = .ok (.iload 4, 2) := by decide +kernel
theorem dX3_postValue_33 : decode cX3_postValue 33 = .ok (.invokevirtual 126, 3) := by decide +kernel
theorem dX3_postValue_36 : decode cX3_postValue 36 = .ok (.aload_n 0, 1) := by decide +kernel
theorem dX3_postValue_37 : decode cX3_postValue 37 = .ok (.getfield 33, 3) := by decide +kernel
theorem dX3_postValue_40 : decode cX3_postValue 40 = .ok (.iconst 4, 1) := by decide +kernel
theorem dX3_postValue_41 : decode cX3_postValue 41 = .ok (.aload_n 0, 1) := by decide +kernel
theorem dX3_postValue_42 : decode cX3_postValue 42 = .ok (.getfield 58, 3) := by decide +kernel
theorem dX3_postValue_45 : decode cX3_postValue 45 = .ok (.invokevirtual 180, 3) := by decide +kernel
theorem dX3_postValue_48 : decode cX3_postValue 48 = .ok (.return_, 1) := by decide +kernel
theorem dX3_disconnect_0 : decode cX3_disconnect 0 = .ok (.aload_n 0, 1) := by decide +kernel
theorem dX3_disconnect_1 : decode cX3_disconnect 1 = .ok (.iconst 0, 1) := by decide +kernel
theorem dX3_disconnect_2 : decode cX3_disconnect 2 = .ok (.putfield 93, 3) := by decide +kernel
theorem dX3_disconnect_5 : decode cX3_disconnect 5 = .ok (.aload_n 0, 1) := by decide +kernel
theorem dX3_disconnect_6 : decode cX3_disconnect 6 = .ok (.getfield 26, 3) := by decide +kernel
theorem dX3_disconnect_9 : decode cX3_disconnect 9 = .ok (.invokevirtual 184, 3) := by decide +kernel
theorem dX3_disconnect_12 : decode cX3_disconnect 12 = .ok (.aload_n 0, 1) := by decide +kernel
theorem dX3_disconnect_13 : decode cX3_disconnect 13 = .ok (.getfield 33, 3) := by decide +kernel
theorem dX3_disconnect_16 : decode cX3_disconnect 16 = .ok (.invokevirtual 187, 3) := by decide +kernel
theorem dX3_disconnect_19 : decode cX3_disconnect 19 = .ok (.aload_n 0, 1) := by decide +kernel
theorem dX3_disconnect_20 : decode cX3_disconnect 20 = .ok (.getfield 77, 3) := by decide +kernel
theorem dX3_disconnect_23 : decode cX3_disconnect 23 = .ok (.invokevirtual 188, 3) := by decide +kernel
theorem dX3_disconnect_26 : decode cX3_disconnect 26 = .ok (.aload_n 0, 1) := by decide +kernel
theorem dX3_disconnect_27 : decode cX3_disconnect 27 = .ok (.getfield 84, 3) := by decide +kernel
theorem dX3_disconnect_30 : decode cX3_disconnect 30 = .ok (.iconst 0, 1) := by decide +kernel
theorem dX3_disconnect_31 : decode cX3_disconnect 31 = .ok (.putfield 189, 3) := by decide +kernel
theorem dX3_disconnect_34 : decode cX3_disconnect 34 = .ok (.aload_n 0, 1) := by decide +kernel
theorem dX3_disconnect_35 : decode cX3_disconnect 35 = .ok (.getfield 40, 3) := by decide +kernel
theorem dX3_disconnect_38 : decode cX3_disconnect 38 = .ok (.invokevirtual 192, 3) := by decide +kernel
theorem dX3_disconnect_41 : decode cX3_disconnect 41 = .ok (.aload_n 0, 1) := by decide +kernel
theorem dX3_disconnect_42 : decode cX3_disconnect 42 = .ok (.getfield 47, 3) := by decide +kernel
theorem dX3_disconnect_45 : decode cX3_disconnect 45 = .ok (.iconst (-1), 1) := by decide +kernel
theorem dX3_disconnect_46 : decode cX3_disconnect 46 = .ok (.putfield 195, 3) := by decide +kernel
theorem dX3_disconnect_49 : decode cX3_disconnect 49 = .ok (.aload_n 0, 1) := by decide +kernel
theorem dX3_disconnect_50 : decode cX3_disconnect 50 = .ok (.getfield 54, 3) := by decide +kernel
theorem dX3_disconnect_53 : decode cX3_disconnect 53 = .ok (.bipush 7, 2) := by decide +kernel
theorem dX3_disconnect_55 : decode cX3_disconnect 55 = .ok (.iload_n 1, 1) := by decide +kernel
theorem dX3_disconnect_56 : decode cX3_disconnect 56 = .ok (.iconst 0, 1) := by decide +kernel
theorem dX3_disconnect_57 : decode cX3_disconnect 57 = .ok (.iconst 0, 1) := by decide +kernel
theorem dX3_disconnect_58 : decode cX3_disconnect 58 = .ok (.invokevirtual 157, 3) := by decide +kernel
theorem dX3_disconnect_61 : decode cX3_disconnect 61 = .ok (.return_, 1) := by decide +kernel
theorem dX4_init_0 : decode cX4_init 0 = .ok (.aload_n 0, 1) := by decide +kernel
theorem dX4_init_1 : decode cX4_init 1 = .ok (.invokespecial 3, 3) := by decide +kernel
theorem dX4_init_4 : decode cX4_init 4 = .ok (.aload_n 0, 1) := by decide +kernel
theorem dX4_init_5 : decode cX4_init 5 = .ok (.bipush 32, 2) := by decide +kernel
theorem dX4_init_7 : decode cX4_init 7 = .ok (.newarray .int, 2) := by decide +kernel
theorem dX4_init_9 : decode cX4_init 9 = .ok (.putfield 11, 3) := by decide +kernel
theorem dX4_init_12 : decode cX4_init 12 = .ok (.aload_n 0, 1) := by decide +kernel
theorem dX4_init_13 : decode cX4_init 13 = .ok (.bipush 32, 2) := by decide +kernel
theorem dX4_init_15 : decode cX4_init 15 = .ok (.iconst 3, 1) := by decide +kernel
theorem dX4_init_16 : decode cX4_init 16 = .ok (.multianewarray 15 2, 4) := by decide +kernel
theorem dX4_init_20 : decode cX4_init 20 = .ok (.putfield 17, 3) := by decide +kernel
theorem dX4_init_23 : decode cX4_init 23 = .ok (.aload_n 0, 1) := by decide +kernel
theorem dX4_init_24 : decode cX4_init 24 = .ok (.bipush 32, 2) := by decide +kernel
theorem dX4_init_26 : decode cX4_init 26 = .ok (.anewarray 20, 3) := by decide +kernel
theorem dX4_init_29 : decode cX4_init 29 = .ok (.putfield 22, 3) := by decide +kernel
theorem dX4_init_32 : decode cX4_init 32 = .ok (.iconst 0, 1) := by decide +kernel
theorem dX4_init_33 : decode cX4_init 33 = .ok (.istore_n 1, 1) := by decide +kernel
theorem dX4_init_34 : decode cX4_init 34 = .ok (.iload_n 1, 1) := by decide +kernel
theorem dX4_init_35 : decode cX4_init 35 = .ok (.aload_n 0, 1) := by decide +kernel
theorem dX4_init_36 : decode cX4_init 36 = .ok (.getfield 22, 3) := by decide +kernel
theorem dX4_init_39 : decode cX4_init 39 = .ok (.arraylength, 1) := by decide +kernel
theorem dX4_init_40 : decode cX4_init 40 = .ok (.if_icmp .ge 24, 3) := by decide +kernel
theorem dX4_init_43 : decode cX4_init 43 = .ok (.aload_n 0, 1) := by decide +kernel
theorem dX4_init_44 : decode cX4_init 44 = .ok (.getfield 22, 3) := by decide +kernel
theorem dX4_init_47 : decode cX4_init 47 = .ok (.iload_n 1, 1) := by decide +kernel
theorem dX4_init_48 : decode cX4_init 48 = .ok (.new 20, 3) := by decide +kernel
theorem dX4_init_51 : decode cX4_init 51 = .ok (.dup, 1) := by decide +kernel
theorem dX4_init_52 : decode cX4_init 52 = .ok (.bipush 40, 2) := by decide +kernel
theorem dX4_init_54 : decode cX4_init 54 = .ok (.invokespecial 26, 3) := by decide +kernel
theorem dX4_init_57 : decode cX4_init 57 = .ok (.aastore, 1) := by decide +kernel
theorem dX4_init_58 : decode cX4_init 58 = .ok (.iinc 1 1, 3) := by decide +kernel
theorem dX4_init_61 : decode cX4_init 61 = .ok (.goto (-27), 3) := by decide +kernel
theorem dX4_init_64 : decode cX4_init 64 = .ok (.return_, 1) := by decide +kernel
theorem dX4_note_0 : decode cX4_note 0 = .ok (.aload_n 0, 1) := by decide +kernel
theorem dX4_note_1 : decode cX4_note 1 = .ok (.getfield 29, 3) := by decide +kernel
theorem dX4_note_4 : decode cX4_note 4 = .ok (.bipush 32, 2) := by decide +kernel
theorem dX4_note_6 : decode cX4_note 6 = .ok (.if_icmp .lt 14, 3) := by decide +kernel
theorem dX4_note_9 : decode cX4_note 9 = .ok (.aload_n 0, 1) := by decide +kernel
theorem dX4_note_10 : decode cX4_note 10 = .ok (.dup, 1) := by decide +kernel
theorem dX4_note_11 : decode cX4_note 11 = .ok (.getfield 33, 3) := by decide +kernel
theorem dX4_note_14 : decode cX4_note 14 = .ok (.iconst 1, 1) := by decide +kernel
theorem dX4_note_15 : decode cX4_note 15 = .ok (.iadd, 1) := by decide +kernel
theorem dX4_note_16 : decode cX4_note 16 = .ok (.putfield 33, 3) := by decide +kernel
theorem dX4_note_19 : decode cX4_note 19 = .ok (.return_, 1) := by decide +kernel
theorem dX4_note_20 : decode cX4_note 20 = .ok (.aload_n 0, 1) := by decide +kernel
theorem dX4_note_21 : decode cX4_note 21 = .ok (.getfield 36, 3) := by decide +kernel
theorem dX4_note_24 : decode cX4_note 24 = .ok (.aload_n 0, 1) := by decide +kernel
theorem dX4_note_25 : decode cX4_note 25 = .ok (.getfield 29, 3) := by decide +kernel
theorem dX4_note_28 : decode cX4_note 28 = .ok (.iadd, 1) := by decide +kernel
theorem dX4_note_29 : decode cX4_note 29 = .ok (.bipush 32, 2) := by decide +kernel
theorem dX4_note_31 : decode cX4_note 31 = .ok (.irem, 1) := by decide +kernel
theorem dX4_note_32 : decode cX4_note 32 = .ok (.istore 5, 2) := by decide +kernel
theorem dX4_note_34 : decode cX4_note 34 = .ok (.aload_n 0, 1) := by decide +kernel
theorem dX4_note_35 : decode cX4_note 35 = .ok (.getfield 11, 3) := by decide +kernel
theorem dX4_note_38 : decode cX4_note 38 = .ok (.iload 5, 2) := by decide +kernel
theorem dX4_note_40 : decode cX4_note 40 = .ok (.iload_n 1, 1) := by decide +kernel
theorem dX4_note_41 : decode cX4_note 41 = .ok (.iastore, 1) := by decide +kernel
theorem dX4_note_42 : decode cX4_note 42 = .ok (.aload_n 0, 1) := by decide +kernel
theorem dX4_note_43 : decode cX4_note 43 = .ok (.getfield 17, 3) := by decide +kernel
theorem dX4_note_46 : decode cX4_note 46 = .ok (.iload 5, 2) := by decide +kernel
theorem dX4_note_48 : decode cX4_note 48 = .ok (.aaload, 1) := by decide +kernel
theorem dX4_note_49 : decode cX4_note 49 = .ok (.iconst 0, 1) := by decide +kernel
theorem dX4_note_50 : decode cX4_note 50 = .ok (.iload_n 2, 1) := by decide +kernel
theorem dX4_note_51 : decode cX4_note 51 = .ok (.iastore, 1) := by decide +kernel
theorem dX4_note_52 : decode cX4_note 52 = .ok (.aload_n 0, 1) := by decide +kernel
theorem dX4_note_53 : decode cX4_note 53 = .ok (.getfield 17, 3) := by decide +kernel
theorem dX4_note_56 : decode cX4_note 56 = .ok (.iload 5, 2) := by decide +kernel
theorem dX4_note_58 : decode cX4_note 58 = .ok (.aaload, 1) := by decide +kernel
theorem dX4_note_59 : decode cX4_note 59 = .ok (.iconst 1, 1) := by decide +kernel
theorem dX4_note_60 : decode cX4_note 60 = .ok (.iload_n 3, 1) := by decide +kernel
theorem dX4_note_61 : decode cX4_note 61 = .ok (.iastore, 1) := by decide +kernel
theorem dX4_note_62 : decode cX4_note 62 = .ok (.aload_n 0, 1) := by decide +kernel
theorem dX4_note_63 : decode cX4_note 63 = .ok (.getfield 17, 3) := by decide +kernel
theorem dX4_note_66 : decode cX4_note 66 = .ok (.iload 5, 2) := by decide +kernel
theorem dX4_note_68 : decode cX4_note 68 = .ok (.aaload, 1) := by decide +kernel
theorem dX4_note_69 : decode cX4_note 69 = .ok (.iconst 2, 1) := by decide +kernel
theorem dX4_note_70 : decode cX4_note 70 = .ok (.iload 4, 2) := by decide +kernel
theorem dX4_note_72 : decode cX4_note 72 = .ok (.iastore, 1) := by decide +kernel
theorem dX4_note_73 : decode cX4_note 73 = .ok (.aload_n 0, 1) := by decide +kernel
theorem dX4_note_74 : decode cX4_note 74 = .ok (.getfield 22, 3) := by decide +kernel
theorem dX4_note_77 : decode cX4_note 77 = .ok (.iload 5, 2) := by decide +kernel
theorem dX4_note_79 : decode cX4_note 79 = .ok (.aaload, 1) := by decide +kernel
theorem dX4_note_80 : decode cX4_note 80 = .ok (.invokevirtual 39, 3) := by decide +kernel
theorem dX4_note_83 : decode cX4_note 83 = .ok (.aload_n 0, 1) := by decide +kernel
theorem dX4_note_84 : decode cX4_note 84 = .ok (.dup, 1) := by decide +kernel
theorem dX4_note_85 : decode cX4_note 85 = .ok (.getfield 29, 3) := by decide +kernel
theorem dX4_note_88 : decode cX4_note 88 = .ok (.iconst 1, 1) := by decide +kernel
theorem dX4_note_89 : decode cX4_note 89 = .ok (.iadd, 1) := by decide +kernel
theorem dX4_note_90 : decode cX4_note 90 = .ok (.putfield 29, 3) := by decide +kernel
theorem dX4_note_93 : decode cX4_note 93 = .ok (.return_, 1) := by decide +kernel
theorem dX4_noteBytes_0 : decode cX4_noteBytes 0 = .ok (.aload_n 0, 1) := by decide +kernel
theorem dX4_noteBytes_1 : decode cX4_noteBytes 1 = .ok (.getfield 29, 3) := by decide +kernel
theorem dX4_noteBytes_4 : decode cX4_noteBytes 4 = .ok (.bipush 32, 2) := by decide +kernel
theorem dX4_noteBytes_6 : decode cX4_noteBytes 6 = .ok (.if_icmp .ge 44, 3) := by decide +kernel
theorem dX4_noteBytes_9 : decode cX4_noteBytes 9 = .ok (.aload_n 0, 1) := by decide +kernel
theorem dX4_noteBytes_10 : decode cX4_noteBytes 10 = .ok (.getfield 22, 3) := by decide +kernel
theorem dX4_noteBytes_13 : decode cX4_noteBytes 13 = .ok (.aload_n 0, 1) := by decide +kernel
theorem dX4_noteBytes_14 : decode cX4_noteBytes 14 = .ok (.getfield 36, 3) := by decide +kernel
theorem dX4_noteBytes_17 : decode cX4_noteBytes 17 = .ok (.aload_n 0, 1) := by decide +kernel
theorem dX4_noteBytes_18 : decode cX4_noteBytes 18 = .ok (.getfield 29, 3) := by decide +kernel
theorem dX4_noteBytes_21 : decode cX4_noteBytes 21 = .ok (.iadd, 1) := by decide +kernel
theorem dX4_noteBytes_22 : decode cX4_noteBytes 22 = .ok (.bipush 32, 2) := by decide +kernel
theorem dX4_noteBytes_24 : decode cX4_noteBytes 24 = .ok (.irem, 1) := by decide +kernel
theorem dX4_noteBytes_25 : decode cX4_noteBytes 25 = .ok (.aaload, 1) := by decide +kernel
theorem dX4_noteBytes_26 : decode cX4_noteBytes 26 = .ok (.astore 7, 2) := by decide +kernel
theorem dX4_noteBytes_28 : decode cX4_noteBytes 28 = .ok (.aload_n 0, 1) := by decide +kernel
theorem dX4_noteBytes_29 : decode cX4_noteBytes 29 = .ok (.iload_n 1, 1) := by decide +kernel
theorem dX4_noteBytes_30 : decode cX4_noteBytes 30 = .ok (.iload_n 2, 1) := by decide +kernel
theorem dX4_noteBytes_31 : decode cX4_noteBytes 31 = .ok (.iload_n 3, 1) := by decide +kernel
theorem dX4_noteBytes_32 : decode cX4_noteBytes 32 = .ok (.iconst 0, 1) := by decide +kernel
theorem dX4_noteBytes_33 : decode cX4_noteBytes 33 = .ok (.invokevirtual 42, 3) := by decide +kernel
theorem dX4_noteBytes_36 : decode cX4_noteBytes 36 = .ok (.aload 7, 2) := by decide +kernel
theorem dX4_noteBytes_38 : decode cX4_noteBytes 38 = .ok (.aload 4, 2) := by decide +kernel
theorem dX4_noteBytes_40 : decode cX4_noteBytes 40 = .ok (.iload 5, 2) := by decide +kernel
theorem dX4_noteBytes_42 : decode cX4_noteBytes 42 = .ok (.iload 6, 2) := by decide +kernel
theorem dX4_noteBytes_44 : decode cX4_noteBytes 44 = .ok (.invokevirtual 46, 3) := by decide +kernel
theorem dX4_noteBytes_47 : decode cX4_noteBytes 47 = .ok (.goto 13, 3) := by decide +kernel
theorem dX4_noteBytes_50 : decode cX4_noteBytes 50 = .ok (.aload_n 0, 1) := by decide +kernel
theorem dX4_noteBytes_51 : decode cX4_noteBytes 51 = .ok (.dup, 1) := by decide +kernel
theorem dX4_noteBytes_52 : decode cX4_noteBytes 52 = .ok (.getfield 33, 3) := by decide +kernel
theorem dX4_noteBytes_55 : decode cX4_noteBytes 55 = .ok (.iconst 1, 1) := by decide +kernel
theorem dX4_noteBytes_56 : decode cX4_noteBytes 56 = .ok (.iadd, 1) := by decide +kernel
theorem dX4_noteBytes_57 : decode cX4_noteBytes 57 = .ok (.putfield 33, 3) := by decide +kernel
theorem dX4_noteBytes_60 : decode cX4_noteBytes 60 = .ok (.return_, 1) := by decide +kernel
theorem dX4_figure_0 : decode cX4_figure 0 = .ok (.aload_n 0, 1) := by decide +kernel
theorem dX4_figure_1 : decode cX4_figure 1 = .ok (.getfield 29, 3) := by decide +kernel
theorem dX4_figure_4 : decode cX4_figure 4 = .ok (.ifCond .ne 5, 3) := by decide +kernel
theorem dX4_figure_7 : decode cX4_figure 7 = .ok (.iconst (-1), 1) := by decide +kernel
theorem dX4_figure_8 : decode cX4_figure 8 = .ok (.ireturn, 1) := by decide +kernel
theorem dX4_figure_9 : decode cX4_figure 9 = .ok (.iload_n 1, 1) := by decide +kernel
theorem dX4_figure_10 : decode cX4_figure 10 = .ok (.ifCond .ne 13, 3) := by decide +kernel
theorem dX4_figure_13 : decode cX4_figure 13 = .ok (.aload_n 0, 1) := by decide +kernel
theorem dX4_figure_14 : decode cX4_figure 14 = .ok (.getfield 11, 3) := by decide +kernel
theorem dX4_figure_17 : decode cX4_figure 17 = .ok (.aload_n 0, 1) := by decide +kernel
theorem dX4_figure_18 : decode cX4_figure 18 = .ok (.getfield 36, 3) := by decide +kernel
theorem dX4_figure_21 : decode cX4_figure 21 = .ok (.iaload, 1) := by decide +kernel
theorem dX4_figure_22 : decode cX4_figure 22 = .ok (.ireturn, 1) := by decide +kernel
theorem dX4_figure_23 : decode cX4_figure 23 = .ok (.iload_n 1, 1) := by decide +kernel
theorem dX4_figure_24 : decode cX4_figure 24 = .ok (.iconst 1, 1) := by decide +kernel
theorem dX4_figure_25 : decode cX4_figure 25 = .ok (.if_icmp .lt 22, 3) := by decide +kernel
theorem dX4_figure_28 : decode cX4_figure 28 = .ok (.iload_n 1, 1) := by decide +kernel
theorem dX4_figure_29 : decode cX4_figure 29 = .ok (.iconst 3, 1) := by decide +kernel
theorem dX4_figure_30 : decode cX4_figure 30 = .ok (.if_icmp .gt 17, 3) := by decide +kernel
theorem dX4_figure_33 : decode cX4_figure 33 = .ok (.aload_n 0, 1) := by decide +kernel
theorem dX4_figure_34 : decode cX4_figure 34 = .ok (.getfield 17, 3) := by decide +kernel
theorem dX4_figure_37 : decode cX4_figure 37 = .ok (.aload_n 0, 1) := by decide +kernel
theorem dX4_figure_38 : decode cX4_figure 38 = .ok (.getfield 36, 3) := by decide +kernel
theorem dX4_figure_41 : decode cX4_figure 41 = .ok (.aaload, 1) := by decide +kernel
theorem dX4_figure_42 : decode cX4_figure 42 = .ok (.iload_n 1, 1) := by decide +kernel
theorem dX4_figure_43 : decode cX4_figure 43 = .ok (.iconst 1, 1) := by decide +kernel
theorem dX4_figure_44 : decode cX4_figure 44 = .ok (.isub, 1) := by decide +kernel
theorem dX4_figure_45 : decode cX4_figure 45 = .ok (.iaload, 1) := by decide +kernel
theorem dX4_figure_46 : decode cX4_figure 46 = .ok (.ireturn, 1) := by decide +kernel
theorem dX4_figure_47 : decode cX4_figure 47 = .ok (.iload_n 1, 1) := by decide +kernel
theorem dX4_figure_48 : decode cX4_figure 48 = .ok (.iconst 4, 1) := by decide +kernel
theorem dX4_figure_49 : decode cX4_figure 49 = .ok (.if_icmp .ne 16, 3) := by decide +kernel
theorem dX4_figure_52 : decode cX4_figure 52 = .ok (.aload_n 0, 1) := by decide +kernel
theorem dX4_figure_53 : decode cX4_figure 53 = .ok (.getfield 22, 3) := by decide +kernel
theorem dX4_figure_56 : decode cX4_figure 56 = .ok (.aload_n 0, 1) := by decide +kernel
theorem dX4_figure_57 : decode cX4_figure 57 = .ok (.getfield 36, 3) := by decide +kernel
theorem dX4_figure_60 : decode cX4_figure 60 = .ok (.aaload, 1) := by decide +kernel
theorem dX4_figure_61 : decode cX4_figure 61 = .ok (.getfield 50, 3) := by decide +kernel
theorem dX4_figure_64 : decode cX4_figure 64 = .ok (.ireturn, 1) := by decide +kernel
theorem dX4_figure_65 : decode cX4_figure 65 = .ok (.iload_n 1, 1) := by decide +kernel
theorem dX4_figure_66 : decode cX4_figure 66 = .ok (.bipush 10, 2) := by decide +kernel
theorem dX4_figure_68 : decode cX4_figure 68 = .ok (.if_icmp .lt 22, 3) := by decide +kernel
theorem dX4_figure_71 : decode cX4_figure 71 = .ok (.aload_n 0, 1) := by decide +kernel
theorem dX4_figure_72 : decode cX4_figure 72 = .ok (.getfield 22, 3) := by decide +kernel
theorem dX4_figure_75 : decode cX4_figure 75 = .ok (.aload_n 0, 1) := by decide +kernel
theorem dX4_figure_76 : decode cX4_figure 76 = .ok (.getfield 36, 3) := by decide +kernel
theorem dX4_figure_79 : decode cX4_figure 79 = .ok (.aaload, 1) := by decide +kernel
theorem dX4_figure_80 : decode cX4_figure 80 = .ok (.iload_n 1, 1) := by decide +kernel
theorem dX4_figure_81 : decode cX4_figure 81 = .ok (.bipush 10, 2) := by decide +kernel
theorem dX4_figure_83 : decode cX4_figure 83 = .ok (.isub, 1) := by decide +kernel
theorem dX4_figure_84 : decode cX4_figure 84 = .ok (.invokevirtual 53, 3) := by decide +kernel
theorem dX4_figure_87 : decode cX4_figure 87 = .ok (.goto 4, 3) := by decide +kernel
theorem dX4_figure_90 : decode cX4_figure 90 = .ok (.iconst (-1), 1) := by decide +kernel
theorem dX4_figure_91 : decode cX4_figure 91 = .ok (.ireturn, 1) := by decide +kernel
theorem dX4_dropFirst_0 : decode cX4_dropFirst 0 = .ok (.aload_n 0, 1) := by decide +kernel
theorem dX4_dropFirst_1 : decode cX4_dropFirst 1 = .ok (.getfield 29, 3) := by decide +kernel
theorem dX4_dropFirst_4 : decode cX4_dropFirst 4 = .ok (.ifCond .ne 5, 3) := by decide +kernel
theorem dX4_dropFirst_7 : decode cX4_dropFirst 7 = .ok (.iconst 0, 1) := by decide +kernel
theorem dX4_dropFirst_8 : decode cX4_dropFirst 8 = .ok (.ireturn, 1) := by decide +kernel
theorem dX4_dropFirst_9 : decode cX4_dropFirst 9 = .ok (.aload_n 0, 1) := by decide +kernel
theorem dX4_dropFirst_10 : decode cX4_dropFirst 10 = .ok (.aload_n 0, 1) := by decide +kernel
theorem dX4_dropFirst_11 : decode cX4_dropFirst 11 = .ok (.getfield 36, 3) := by decide +kernel
theorem dX4_dropFirst_14 : decode cX4_dropFirst 14 = .ok (.iconst 1, 1) := by decide +kernel
theorem dX4_dropFirst_15 : decode cX4_dropFirst 15 = .ok (.iadd, 1) := by decide +kernel
theorem dX4_dropFirst_16 : decode cX4_dropFirst 16 = .ok (.bipush 32, 2) := by decide +kernel
theorem dX4_dropFirst_18 : decode cX4_dropFirst 18 = .ok (.irem, 1) := by decide +kernel
theorem dX4_dropFirst_19 : decode cX4_dropFirst 19 = .ok (.putfield 36, 3) := by decide +kernel
theorem dX4_dropFirst_22 : decode cX4_dropFirst 22 = .ok (.aload_n 0, 1) := by decide +kernel
theorem dX4_dropFirst_23 : decode cX4_dropFirst 23 = .ok (.dup, 1) := by decide +kernel
theorem dX4_dropFirst_24 : decode cX4_dropFirst 24 = .ok (.getfield 29, 3) := by decide +kernel
theorem dX4_dropFirst_27 : decode cX4_dropFirst 27 = .ok (.iconst 1, 1) := by decide +kernel
theorem dX4_dropFirst_28 : decode cX4_dropFirst 28 = .ok (.isub, 1) := by decide +kernel
theorem dX4_dropFirst_29 : decode cX4_dropFirst 29 = .ok (.putfield 29, 3) := by decide +kernel
theorem dX4_dropFirst_32 : decode cX4_dropFirst 32 = .ok (.iconst 1, 1) := by decide +kernel
theorem dX4_dropFirst_33 : decode cX4_dropFirst 33 = .ok (.ireturn, 1) := by decide +kernel
theorem dX5_init_0 : decode cX5_init 0 = .ok (.aload_n 0, 1) := by decide +kernel
theorem dX5_init_1 : decode cX5_init 1 = .ok (.invokespecial 1, 3) := by decide +kernel
theorem dX5_init_4 : decode cX5_init 4 = .ok (.aload_n 0, 1) := by decide +kernel
theorem dX5_init_5 : decode cX5_init 5 = .ok (.bipush 16, 2) := by decide +kernel
theorem dX5_init_7 : decode cX5_init 7 = .ok (.newarray .int, 2) := by decide +kernel
theorem dX5_init_9 : decode cX5_init 9 = .ok (.putfield 7, 3) := by decide +kernel
theorem dX5_init_12 : decode cX5_init 12 = .ok (.aload_n 0, 1) := by decide +kernel
theorem dX5_init_13 : decode cX5_init 13 = .ok (.bipush 16, 2) := by decide +kernel
theorem dX5_init_15 : decode cX5_init 15 = .ok (.newarray .int, 2) := by decide +kernel
theorem dX5_init_17 : decode cX5_init 17 = .ok (.putfield 13, 3) := by decide +kernel
theorem dX5_init_20 : decode cX5_init 20 = .ok (.aload_n 0, 1) := by decide +kernel
theorem dX5_init_21 : decode cX5_init 21 = .ok (.bipush 16, 2) := by decide +kernel
theorem dX5_init_23 : decode cX5_init 23 = .ok (.newarray .int, 2) := by decide +kernel
theorem dX5_init_25 : decode cX5_init 25 = .ok (.putfield 16, 3) := by decide +kernel
theorem dX5_init_28 : decode cX5_init 28 = .ok (.aload_n 0, 1) := by decide +kernel
theorem dX5_init_29 : decode cX5_init 29 = .ok (.bipush 8, 2) := by decide +kernel
theorem dX5_init_31 : decode cX5_init 31 = .ok (.newarray .int, 2) := by decide +kernel
theorem dX5_init_33 : decode cX5_init 33 = .ok (.putfield 19, 3) := by decide +kernel
theorem dX5_init_36 : decode cX5_init 36 = .ok (.aload_n 0, 1) := by decide +kernel
theorem dX5_init_37 : decode cX5_init 37 = .ok (.bipush 16, 2) := by decide +kernel
theorem dX5_init_39 : decode cX5_init 39 = .ok (.newarray .int, 2) := by decide +kernel
theorem dX5_init_41 : decode cX5_init 41 = .ok (.putfield 22, 3) := by decide +kernel
theorem dX5_init_44 : decode cX5_init 44 = .ok (.aload_n 0, 1) := by decide +kernel
theorem dX5_init_45 : decode cX5_init 45 = .ok (.bipush 16, 2) := by decide +kernel
theorem dX5_init_47 : decode cX5_init 47 = .ok (.newarray .int, 2) := by decide +kernel
theorem dX5_init_49 : decode cX5_init 49 = .ok (.putfield 25, 3) := by decide +kernel
theorem dX5_init_52 : decode cX5_init 52 = .ok (.aload_n 0, 1) := by decide +kernel
theorem dX5_init_53 : decode cX5_init 53 = .ok (.aload_n 1, 1) := by decide +kernel
theorem dX5_init_54 : decode cX5_init 54 = .ok (.putfield 28, 3) := by decide +kernel
theorem dX5_init_57 : decode cX5_init 57 = .ok (.return_, 1) := by decide +kernel
theorem dX5_reset_0 : decode cX5_reset 0 = .ok (.aload_n 0, 1) := by decide +kernel
theorem dX5_reset_1 : decode cX5_reset 1 = .ok (.iconst 0, 1) := by decide +kernel
theorem dX5_reset_2 : decode cX5_reset 2 = .ok (.putfield 32, 3) := by decide +kernel
theorem dX5_reset_5 : decode cX5_reset 5 = .ok (.aload_n 0, 1) := by decide +kernel
theorem dX5_reset_6 : decode cX5_reset 6 = .ok (.iconst 0, 1) := by decide +kernel
theorem dX5_reset_7 : decode cX5_reset 7 = .ok (.putfield 36, 3) := by decide +kernel
theorem dX5_reset_10 : decode cX5_reset 10 = .ok (.aload_n 0, 1) := by decide +kernel
theorem dX5_reset_11 : decode cX5_reset 11 = .ok (.iconst 0, 1) := by decide +kernel
theorem dX5_reset_12 : decode cX5_reset 12 = .ok (.putfield 39, 3) := by decide +kernel
theorem dX5_reset_15 : decode cX5_reset 15 = .ok (.aload_n 0, 1) := by decide +kernel
theorem dX5_reset_16 : decode cX5_reset 16 = .ok (.iconst 0, 1) := by decide +kernel
theorem dX5_reset_17 : decode cX5_reset 17 = .ok (.putfield 42, 3) := by decide +kernel
theorem dX5_reset_20 : decode cX5_reset 20 = .ok (.aload_n 0, 1) := by decide +kernel
theorem dX5_reset_21 : decode cX5_reset 21 = .ok (.iconst 0, 1) := by decide +kernel
theorem dX5_reset_22 : decode cX5_reset 22 = .ok (.putfield 45, 3) := by decide +kernel
theorem dX5_reset_25 : decode cX5_reset 25 = .ok (.aload_n 0, 1) := by decide +kernel
theorem dX5_reset_26 : decode cX5_reset 26 = .ok (.iconst 0, 1) := by decide +kernel
theorem dX5_reset_27 : decode cX5_reset 27 = .ok (.putfield 48, 3) := by decide +kernel
theorem dX5_reset_30 : decode cX5_reset 30 = .ok (.aload_n 0, 1) := by decide +kernel
theorem dX5_reset_31 : decode cX5_reset 31 = .ok (.iconst 0, 1) := by decide +kernel
theorem dX5_reset_32 : decode cX5_reset 32 = .ok (.putfield 51, 3) := by decide +kernel
theorem dX5_reset_35 : decode cX5_reset 35 = .ok (.aload_n 0, 1) := by decide +kernel
theorem dX5_reset_36 : decode cX5_reset 36 = .ok (.iconst 0, 1) := by decide +kernel
theorem dX5_reset_37 : decode cX5_reset 37 = .ok (.putfield 55, 3) := by decide +kernel
theorem dX5_reset_40 : decode cX5_reset 40 = .ok (.return_, 1) := by decide +kernel
theorem dX5_beginSending_0 : decode cX5_beginSending 0 = .ok (.aload_n 0, 1) := by decide +kernel
theorem dX5_beginSending_1 : decode cX5_beginSending 1 = .ok (.iconst 1, 1) := by decide +kernel
theorem dX5_beginSending_2 : decode cX5_beginSending 2 = .ok (.putfield 45, 3) := by decide +kernel
theorem dX5_beginSending_5 : decode cX5_beginSending 5 = .ok (.aload_n 0, 1) := by decide +kernel
theorem dX5_beginSending_6 : decode cX5_beginSending 6 = .ok (.iconst 0, 1) := by decide +kernel
theorem dX5_beginSending_7 : decode cX5_beginSending 7 = .ok (.putfield 51, 3) := by decide +kernel
theorem dX5_beginSending_10 : decode cX5_beginSending 10 = .ok (.return_, 1) := by decide +kernel
theorem dX5_beginComing_0 : decode cX5_beginComing 0 = .ok (.aload_n 0, 1) := by decide +kernel
theorem dX5_beginComing_1 : decode cX5_beginComing 1 = .ok (.iconst 1, 1) := by decide +kernel
theorem dX5_beginComing_2 : decode cX5_beginComing 2 = .ok (.putfield 48, 3) := by decide +kernel
theorem dX5_beginComing_5 : decode cX5_beginComing 5 = .ok (.aload_n 0, 1) := by decide +kernel
theorem dX5_beginComing_6 : decode cX5_beginComing 6 = .ok (.iconst 0, 1) := by decide +kernel
theorem dX5_beginComing_7 : decode cX5_beginComing 7 = .ok (.putfield 55, 3) := by decide +kernel
theorem dX5_beginComing_10 : decode cX5_beginComing 10 = .ok (.return_, 1) := by decide +kernel
theorem dX5_keepKey_0 : decode cX5_keepKey 0 = .ok (.iconst 0, 1) := by decide +kernel
theorem dX5_keepKey_1 : decode cX5_keepKey 1 = .ok (.istore_n 2, 1) := by decide +kernel
theorem dX5_keepKey_2 : decode cX5_keepKey 2 = .ok (.iload_n 2, 1) := by decide +kernel
theorem dX5_keepKey_3 : decode cX5_keepKey 3 = .ok (.aload_n 0, 1) := by decide +kernel
theorem dX5_keepKey_4 : decode cX5_keepKey 4 = .ok (.getfield 7, 3) := by decide +kernel
theorem dX5_keepKey_7 : decode cX5_keepKey 7 = .ok (.arraylength, 1) := by decide +kernel
theorem dX5_keepKey_8 : decode cX5_keepKey 8 = .ok (.if_icmp .ge 24, 3) := by decide +kernel
theorem dX5_keepKey_11 : decode cX5_keepKey 11 = .ok (.iload_n 2, 1) := by decide +kernel
theorem dX5_keepKey_12 : decode cX5_keepKey 12 = .ok (.aload_n 1, 1) := by decide +kernel
theorem dX5_keepKey_13 : decode cX5_keepKey 13 = .ok (.arraylength, 1) := by decide +kernel
theorem dX5_keepKey_14 : decode cX5_keepKey 14 = .ok (.if_icmp .ge 18, 3) := by decide +kernel
theorem dX5_keepKey_17 : decode cX5_keepKey 17 = .ok (.aload_n 0, 1) := by decide +kernel
theorem dX5_keepKey_18 : decode cX5_keepKey 18 = .ok (.getfield 7, 3) := by decide +kernel
theorem dX5_keepKey_21 : decode cX5_keepKey 21 = .ok (.iload_n 2, 1) := by decide +kernel
theorem dX5_keepKey_22 : decode cX5_keepKey 22 = .ok (.aload_n 1, 1) := by decide +kernel
theorem dX5_keepKey_23 : decode cX5_keepKey 23 = .ok (.iload_n 2, 1) := by decide +kernel
theorem dX5_keepKey_24 : decode cX5_keepKey 24 = .ok (.iaload, 1) := by decide +kernel
theorem dX5_keepKey_25 : decode cX5_keepKey 25 = .ok (.iastore, 1) := by decide +kernel
theorem dX5_keepKey_26 : decode cX5_keepKey 26 = .ok (.iinc 2 1, 3) := by decide +kernel
theorem dX5_keepKey_29 : decode cX5_keepKey 29 = .ok (.goto (-27), 3) := by decide +kernel
theorem dX5_keepKey_32 : decode cX5_keepKey 32 = .ok (.aload_n 0, 1) := by decide +kernel
theorem dX5_keepKey_33 : decode cX5_keepKey 33 = .ok (.iconst 1, 1) := by decide +kernel
theorem dX5_keepKey_34 : decode cX5_keepKey 34 = .ok (.putfield 58, 3) := by decide +kernel
theorem dX5_keepKey_37 : decode cX5_keepKey 37 = .ok (.return_, 1) := by decide +kernel
theorem dX5_putSessionParts_0 : decode cX5_putSessionParts 0 = .ok (.iconst 0, 1) := by decide +kernel
theorem dX5_putSessionParts_1 : decode cX5_putSessionParts 1 = .ok (.istore_n 3, 1) := by decide +kernel
theorem dX5_putSessionParts_2 : decode cX5_putSessionParts 2 = .ok (.iload_n 3, 1) := by decide +kernel
theorem dX5_putSessionParts_3 : decode cX5_putSessionParts 3 = .ok (.bipush 8, 2) := by decide +kernel
theorem dX5_putSessionParts_5 : decode cX5_putSessionParts 5 = .ok (.if_icmp .ge 30, 3) := by decide +kernel
theorem dX5_putSessionParts_8 : decode cX5_putSessionParts 8 = .ok (.aload_n 1, 1) := by decide +kernel
theorem dX5_putSessionParts_9 : decode cX5_putSessionParts 9 = .ok (.aload_n 0, 1) := by decide +kernel
theorem dX5_putSessionParts_10 : decode cX5_putSessionParts 10 = .ok (.getfield 13, 3) := by decide +kernel
theorem dX5_putSessionParts_13 : decode cX5_putSessionParts 13 = .ok (.iload_n 2, 1) := by decide +kernel
theorem dX5_putSessionParts_14 : decode cX5_putSessionParts 14 = .ok (.ifCond .ne 7, 3) := by decide +kernel
theorem dX5_putSessionParts_17 : decode cX5_putSessionParts 17 = .ok (.iload_n 3, 1) := by decide +kernel
theorem dX5_putSessionParts_18 : decode cX5_putSessionParts 18 = .ok (.goto 7, 3) := by decide +kernel
theorem dX5_putSessionParts_21 : decode cX5_putSessionParts 21 = .ok (.bipush 8, 2) := by decide +kernel
theorem dX5_putSessionParts_23 : decode cX5_putSessionParts 23 = .ok (.iload_n 3, 1) := by decide +kernel
theorem dX5_putSessionParts_24 : decode cX5_putSessionParts 24 = .ok (.iadd, 1) := by decide +kernel
theorem dX5_putSessionParts_25 : decode cX5_putSessionParts 25 = .ok (.iaload, 1) := by decide +kernel
theorem dX5_putSessionParts_26 : decode cX5_putSessionParts 26 = .ok (.invokevirtual 61, 3) := by decide +kernel
theorem dX5_putSessionParts_29 : decode cX5_putSessionParts 29 = .ok (.iinc 3 1, 3) := by decide +kernel
theorem dX5_putSessionParts_32 : decode cX5_putSessionParts 32 = .ok (.goto (-30), 3) := by decide +kernel
theorem dX5_putSessionParts_35 : decode cX5_putSessionParts 35 = .ok (.iconst 0, 1) := by decide +kernel
theorem dX5_putSessionParts_36 : decode cX5_putSessionParts 36 = .ok (.istore_n 3, 1) := by decide +kernel
theorem dX5_putSessionParts_37 : decode cX5_putSessionParts 37 = .ok (.iload_n 3, 1) := by decide +kernel
theorem dX5_putSessionParts_38 : decode cX5_putSessionParts 38 = .ok (.iconst 4, 1) := by decide +kernel
theorem dX5_putSessionParts_39 : decode cX5_putSessionParts 39 = .ok (.if_icmp .ge 29, 3) := by decide +kernel
theorem dX5_putSessionParts_42 : decode cX5_putSessionParts 42 = .ok (.aload_n 1, 1) := by decide +kernel
theorem dX5_putSessionParts_43 : decode cX5_putSessionParts 43 = .ok (.aload_n 0, 1) := by decide +kernel
theorem dX5_putSessionParts_44 : decode cX5_putSessionParts 44 = .ok (.getfield 19, 3) := by decide +kernel
theorem dX5_putSessionParts_47 : decode cX5_putSessionParts 47 = .ok (.iload_n 2, 1) := by decide +kernel
theorem dX5_putSessionParts_48 : decode cX5_putSessionParts 48 = .ok (.ifCond .ne 7, 3) := by decide +kernel
theorem dX5_putSessionParts_51 : decode cX5_putSessionParts 51 = .ok (.iload_n 3, 1) := by decide +kernel
theorem dX5_putSessionParts_52 : decode cX5_putSessionParts 52 = .ok (.goto 6, 3) := by decide +kernel
theorem dX5_putSessionParts_55 : decode cX5_putSessionParts 55 = .ok (.iconst 4, 1) := by decide +kernel
theorem dX5_putSessionParts_56 : decode cX5_putSessionParts 56 = .ok (.iload_n 3, 1) := by decide +kernel
theorem dX5_putSessionParts_57 : decode cX5_putSessionParts 57 = .ok (.iadd, 1) := by decide +kernel
theorem dX5_putSessionParts_58 : decode cX5_putSessionParts 58 = .ok (.iaload, 1) := by decide +kernel
theorem dX5_putSessionParts_59 : decode cX5_putSessionParts 59 = .ok (.invokevirtual 61, 3) := by decide +kernel
theorem dX5_putSessionParts_62 : decode cX5_putSessionParts 62 = .ok (.iinc 3 1, 3) := by decide +kernel
theorem dX5_putSessionParts_65 : decode cX5_putSessionParts 65 = .ok (.goto (-28), 3) := by decide +kernel
theorem dX5_putSessionParts_68 : decode cX5_putSessionParts 68 = .ok (.return_, 1) := by decide +kernel
theorem dX5_takeSessionParts_0 : decode cX5_takeSessionParts 0 = .ok (.iconst 0, 1) := by decide +kernel
theorem dX5_takeSessionParts_1 : decode cX5_takeSessionParts 1 = .ok (.istore_n 3, 1) := by decide +kernel
theorem dX5_takeSessionParts_2 : decode cX5_takeSessionParts 2 = .ok (.iload_n 3, 1) := by decide +kernel
theorem dX5_takeSessionParts_3 : decode cX5_takeSessionParts 3 = .ok (.bipush 8, 2) := by decide +kernel
theorem dX5_takeSessionParts_5 : decode cX5_takeSessionParts 5 = .ok (.if_icmp .ge 33, 3) := by decide +kernel
theorem dX5_takeSessionParts_8 : decode cX5_takeSessionParts 8 = .ok (.aload_n 0, 1) := by decide +kernel
theorem dX5_takeSessionParts_9 : decode cX5_takeSessionParts 9 = .ok (.getfield 13, 3) := by decide +kernel
theorem dX5_takeSessionParts_12 : decode cX5_takeSessionParts 12 = .ok (.iload_n 2, 1) := by decide +kernel
theorem dX5_takeSessionParts_13 : decode cX5_takeSessionParts 13 = .ok (.ifCond .ne 7, 3) := by decide +kernel
theorem dX5_takeSessionParts_16 : decode cX5_takeSessionParts 16 = .ok (.iload_n 3, 1) := by decide +kernel
theorem dX5_takeSessionParts_17 : decode cX5_takeSessionParts 17 = .ok (.goto 7, 3) := by decide +kernel
theorem dX5_takeSessionParts_20 : decode cX5_takeSessionParts 20 = .ok (.bipush 8, 2) := by decide +kernel
theorem dX5_takeSessionParts_22 : decode cX5_takeSessionParts 22 = .ok (.iload_n 3, 1) := by decide +kernel
theorem dX5_takeSessionParts_23 : decode cX5_takeSessionParts 23 = .ok (.iadd, 1) := by decide +kernel
theorem dX5_takeSessionParts_24 : decode cX5_takeSessionParts 24 = .ok (.aload_n 1, 1) := by decide +kernel
theorem dX5_takeSessionParts_25 : decode cX5_takeSessionParts 25 = .ok (.iconst 1, 1) := by decide +kernel
theorem dX5_takeSessionParts_26 : decode cX5_takeSessionParts 26 = .ok (.iload_n 3, 1) := by decide +kernel
theorem dX5_takeSessionParts_27 : decode cX5_takeSessionParts 27 = .ok (.iadd, 1) := by decide +kernel
theorem dX5_takeSessionParts_28 : decode cX5_takeSessionParts 28 = .ok (.invokevirtual 67, 3) := by decide +kernel
theorem dX5_takeSessionParts_31 : decode cX5_takeSessionParts 31 = .ok (.iastore, 1) := by decide +kernel
theorem dX5_takeSessionParts_32 : decode cX5_takeSessionParts 32 = .ok (.iinc 3 1, 3) := by decide +kernel
theorem dX5_takeSessionParts_35 : decode cX5_takeSessionParts 35 = .ok (.goto (-33), 3) := by decide +kernel
theorem dX5_takeSessionParts_38 : decode cX5_takeSessionParts 38 = .ok (.iconst 0, 1) := by decide +kernel
theorem dX5_takeSessionParts_39 : decode cX5_takeSessionParts 39 = .ok (.istore_n 3, 1) := by decide +kernel
theorem dX5_takeSessionParts_40 : decode cX5_takeSessionParts 40 = .ok (.iload_n 3, 1) := by decide +kernel
theorem dX5_takeSessionParts_41 : decode cX5_takeSessionParts 41 = .ok (.iconst 4, 1) := by decide +kernel
theorem dX5_takeSessionParts_42 : decode cX5_takeSessionParts 42 = .ok (.if_icmp .ge 33, 3) := by decide +kernel
theorem dX5_takeSessionParts_45 : decode cX5_takeSessionParts 45 = .ok (.aload_n 0, 1) := by decide +kernel
theorem dX5_takeSessionParts_46 : decode cX5_takeSessionParts 46 = .ok (.getfield 19, 3) := by decide +kernel
theorem dX5_takeSessionParts_49 : decode cX5_takeSessionParts 49 = .ok (.iload_n 2, 1) := by decide +kernel
theorem dX5_takeSessionParts_50 : decode cX5_takeSessionParts 50 = .ok (.ifCond .ne 7, 3) := by decide +kernel
theorem dX5_takeSessionParts_53 : decode cX5_takeSessionParts 53 = .ok (.iload_n 3, 1) := by decide +kernel
theorem dX5_takeSessionParts_54 : decode cX5_takeSessionParts 54 = .ok (.goto 6, 3) := by decide +kernel
theorem dX5_takeSessionParts_57 : decode cX5_takeSessionParts 57 = .ok (.iconst 4, 1) := by decide +kernel
theorem dX5_takeSessionParts_58 : decode cX5_takeSessionParts 58 = .ok (.iload_n 3, 1) := by decide +kernel
theorem dX5_takeSessionParts_59 : decode cX5_takeSessionParts 59 = .ok (.iadd, 1) := by decide +kernel
theorem dX5_takeSessionParts_60 : decode cX5_takeSessionParts 60 = .ok (.aload_n 1, 1) := by decide +kernel
theorem dX5_takeSessionParts_61 : decode cX5_takeSessionParts 61 = .ok (.bipush 9, 2) := by decide +kernel
theorem dX5_takeSessionParts_63 : decode cX5_takeSessionParts 63 = .ok (.iload_n 3, 1) := by decide +kernel
theorem dX5_takeSessionParts_64 : decode cX5_takeSessionParts 64 = .ok (.iadd, 1) := by decide +kernel
theorem dX5_takeSessionParts_65 : decode cX5_takeSessionParts 65 = .ok (.invokevirtual 67, 3) := by decide +kernel
theorem dX5_takeSessionParts_68 : decode cX5_takeSessionParts 68 = .ok (.iastore, 1) := by decide +kernel
theorem dX5_takeSessionParts_69 : decode cX5_takeSessionParts 69 = .ok (.iinc 3 1, 3) := by decide +kernel
theorem dX5_takeSessionParts_72 : decode cX5_takeSessionParts 72 = .ok (.goto (-32), 3) := by decide +kernel
theorem dX5_takeSessionParts_75 : decode cX5_takeSessionParts 75 = .ok (.return_, 1) := by decide +kernel
theorem dX5_makeSession_0 : decode cX5_makeSession 0 = .ok (.iconst 0, 1) := by decide +kernel
theorem dX5_makeSession_1 : decode cX5_makeSession 1 = .ok (.istore_n 1, 1) := by decide +kernel
theorem dX5_makeSession_2 : decode cX5_makeSession 2 = .ok (.iload_n 1, 1) := by decide +kernel
theorem dX5_makeSession_3 : decode cX5_makeSession 3 = .ok (.aload_n 0, 1) := by decide +kernel
theorem dX5_makeSession_4 : decode cX5_makeSession 4 = .ok (.getfield 16, 3) := by decide +kernel
theorem dX5_makeSession_7 : decode cX5_makeSession 7 = .ok (.arraylength, 1) := by decide +kernel
theorem dX5_makeSession_8 : decode cX5_makeSession 8 = .ok (.if_icmp .ge 30, 3) := by decide +kernel
theorem dX5_makeSession_11 : decode cX5_makeSession 11 = .ok (.iload_n 1, 1) := by decide +kernel
theorem dX5_makeSession_12 : decode cX5_makeSession 12 = .ok (.aload_n 0, 1) := by decide +kernel
theorem dX5_makeSession_13 : decode cX5_makeSession 13 = .ok (.getfield 13, 3) := by decide +kernel
theorem dX5_makeSession_16 : decode cX5_makeSession 16 = .ok (.arraylength, 1) := by decide +kernel
theorem dX5_makeSession_17 : decode cX5_makeSession 17 = .ok (.if_icmp .ge 21, 3) := by decide +kernel
theorem dX5_makeSession_20 : decode cX5_makeSession 20 = .ok (.aload_n 0, 1) := by decide +kernel
theorem dX5_makeSession_21 : decode cX5_makeSession 21 = .ok (.getfield 16, 3) := by decide +kernel
theorem dX5_makeSession_24 : decode cX5_makeSession 24 = .ok (.iload_n 1, 1) := by decide +kernel
theorem dX5_makeSession_25 : decode cX5_makeSession 25 = .ok (.aload_n 0, 1) := by decide +kernel
theorem dX5_makeSession_26 : decode cX5_makeSession 26 = .ok (.getfield 13, 3) := by decide +kernel
theorem dX5_makeSession_29 : decode cX5_makeSession 29 = .ok (.iload_n 1, 1) := by decide +kernel
theorem dX5_makeSession_30 : decode cX5_makeSession 30 = .ok (.iaload, 1) := by decide +kernel
theorem dX5_makeSession_31 : decode cX5_makeSession 31 = .ok (.iastore, 1) := by decide +kernel
theorem dX5_makeSession_32 : decode cX5_makeSession 32 = .ok (.iinc 1 1, 3) := by decide +kernel
theorem dX5_makeSession_35 : decode cX5_makeSession 35 = .ok (.goto (-33), 3) := by decide +kernel
theorem dX5_makeSession_38 : decode cX5_makeSession 38 = .ok (.aload_n 0, 1) := by decide +kernel
theorem dX5_makeSession_39 : decode cX5_makeSession 39 = .ok (.getfield 28, 3) := by decide +kernel
theorem dX5_makeSession_42 : decode cX5_makeSession 42 = .ok (.aload_n 0, 1) := by decide +kernel
theorem dX5_makeSession_43 : decode cX5_makeSession 43 = .ok (.getfield 7, 3) := by decide +kernel
theorem dX5_makeSession_46 : decode cX5_makeSession 46 = .ok (.invokevirtual 71, 3) := by decide +kernel
theorem dX5_makeSession_49 : decode cX5_makeSession 49 = .ok (.aload_n 0, 1) := by decide +kernel
theorem dX5_makeSession_50 : decode cX5_makeSession 50 = .ok (.getfield 28, 3) := by decide +kernel
theorem dX5_makeSession_53 : decode cX5_makeSession 53 = .ok (.aload_n 0, 1) := by decide +kernel
theorem dX5_makeSession_54 : decode cX5_makeSession 54 = .ok (.getfield 16, 3) := by decide +kernel
theorem dX5_makeSession_57 : decode cX5_makeSession 57 = .ok (.invokevirtual 77, 3) := by decide +kernel
theorem dX5_makeSession_60 : decode cX5_makeSession 60 = .ok (.aload_n 0, 1) := by decide +kernel
theorem dX5_makeSession_61 : decode cX5_makeSession 61 = .ok (.iconst 1, 1) := by decide +kernel
theorem dX5_makeSession_62 : decode cX5_makeSession 62 = .ok (.putfield 32, 3) := by decide +kernel
theorem dX5_makeSession_65 : decode cX5_makeSession 65 = .ok (.return_, 1) := by decide +kernel
theorem dX5_seal_0 : decode cX5_seal 0 = .ok (.aload_n 2, 1) := by decide +kernel
theorem dX5_seal_1 : decode cX5_seal 1 = .ok (.getfield 80, 3) := by decide +kernel
theorem dX5_seal_4 : decode cX5_seal 4 = .ok (.istore 4, 2) := by decide +kernel
theorem dX5_seal_6 : decode cX5_seal 6 = .ok (.aload_n 0, 1) := by decide +kernel
theorem dX5_seal_7 : decode cX5_seal 7 = .ok (.getfield 28, 3) := by decide +kernel
theorem dX5_seal_10 : decode cX5_seal 10 = .ok (.aload_n 0, 1) := by decide +kernel
theorem dX5_seal_11 : decode cX5_seal 11 = .ok (.getfield 16, 3) := by decide +kernel
theorem dX5_seal_14 : decode cX5_seal 14 = .ok (.invokevirtual 71, 3) := by decide +kernel
theorem dX5_seal_17 : decode cX5_seal 17 = .ok (.aload_n 0, 1) := by decide +kernel
theorem dX5_seal_18 : decode cX5_seal 18 = .ok (.iload_n 1, 1) := by decide +kernel
theorem dX5_seal_19 : decode cX5_seal 19 = .ok (.aload_n 2, 1) := by decide +kernel
theorem dX5_seal_20 : decode cX5_seal 20 = .ok (.iload 4, 2) := by decide +kernel
theorem dX5_seal_22 : decode cX5_seal 22 = .ok (.aload_n 0, 1) := by decide +kernel
theorem dX5_seal_23 : decode cX5_seal 23 = .ok (.getfield 51, 3) := by decide +kernel
theorem dX5_seal_26 : decode cX5_seal 26 = .ok (.i2l, 1) := by decide +kernel
theorem dX5_seal_27 : decode cX5_seal 27 = .ok (.iload_n 3, 1) := by decide +kernel
theorem dX5_seal_28 : decode cX5_seal 28 = .ok (.invokevirtual 83, 3) := by decide +kernel
theorem dX5_seal_31 : decode cX5_seal 31 = .ok (.aload_n 0, 1) := by decide +kernel
theorem dX5_seal_32 : decode cX5_seal 32 = .ok (.aload_n 2, 1) := by decide +kernel
theorem dX5_seal_33 : decode cX5_seal 33 = .ok (.iload 4, 2) := by decide +kernel
theorem dX5_seal_35 : decode cX5_seal 35 = .ok (.aload_n 0, 1) := by decide +kernel
theorem dX5_seal_36 : decode cX5_seal 36 = .ok (.getfield 51, 3) := by decide +kernel
theorem dX5_seal_39 : decode cX5_seal 39 = .ok (.i2l, 1) := by decide +kernel
theorem dX5_seal_40 : decode cX5_seal 40 = .ok (.iload_n 3, 1) := by decide +kernel
theorem dX5_seal_41 : decode cX5_seal 41 = .ok (.invokevirtual 87, 3) := by decide +kernel
theorem dX5_seal_44 : decode cX5_seal 44 = .ok (.iconst 0, 1) := by decide +kernel
theorem dX5_seal_45 : decode cX5_seal 45 = .ok (.istore 5, 2) := by decide +kernel
theorem dX5_seal_47 : decode cX5_seal 47 = .ok (.iload 5, 2) := by decide +kernel
theorem dX5_seal_49 : decode cX5_seal 49 = .ok (.iconst 4, 1) := by decide +kernel
theorem dX5_seal_50 : decode cX5_seal 50 = .ok (.if_icmp .ge 28, 3) := by decide +kernel
theorem dX5_seal_53 : decode cX5_seal 53 = .ok (.aload_n 2, 1) := by decide +kernel
theorem dX5_seal_54 : decode cX5_seal 54 = .ok (.aload_n 0, 1) := by decide +kernel
theorem dX5_seal_55 : decode cX5_seal 55 = .ok (.getfield 22, 3) := by decide +kernel
theorem dX5_seal_58 : decode cX5_seal 58 = .ok (.iload 5, 2) := by decide +kernel
theorem dX5_seal_60 : decode cX5_seal 60 = .ok (.iaload, 1) := by decide +kernel
theorem dX5_seal_61 : decode cX5_seal 61 = .ok (.aload_n 0, 1) := by decide +kernel
theorem dX5_seal_62 : decode cX5_seal 62 = .ok (.getfield 25, 3) := by decide +kernel
theorem dX5_seal_65 : decode cX5_seal 65 = .ok (.iload 5, 2) := by decide +kernel
theorem dX5_seal_67 : decode cX5_seal 67 = .ok (.iaload, 1) := by decide +kernel
theorem dX5_seal_68 : decode cX5_seal 68 = .ok (.ixor, 1) := by decide +kernel
theorem dX5_seal_69 : decode cX5_seal 69 = .ok (.invokevirtual 61, 3) := by decide +kernel
theorem dX5_seal_72 : decode cX5_seal 72 = .ok (.iinc 5 1, 3) := by decide +kernel
theorem dX5_seal_75 : decode cX5_seal 75 = .ok (.goto (-28), 3) := by decide +kernel
theorem dX5_seal_78 : decode cX5_seal 78 = .ok (.aload_n 0, 1) := by decide +kernel
theorem dX5_seal_79 : decode cX5_seal 79 = .ok (.dup, 1) := by decide +kernel
theorem dX5_seal_80 : decode cX5_seal 80 = .ok (.getfield 51, 3) := by decide +kernel
theorem dX5_seal_83 : decode cX5_seal 83 = .ok (.iconst 1, 1) := by decide +kernel
theorem dX5_seal_84 : decode cX5_seal 84 = .ok (.iadd, 1) := by decide +kernel
theorem dX5_seal_85 : decode cX5_seal 85 = .ok (.putfield 51, 3) := by decide +kernel
theorem dX5_seal_88 : decode cX5_seal 88 = .ok (.return_, 1) := by decide +kernel
theorem dX5_open_0 : decode cX5_open 0 = .ok (.aload_n 2, 1) := by decide +kernel
theorem dX5_open_1 : decode cX5_open 1 = .ok (.getfield 80, 3) := by decide +kernel
theorem dX5_open_4 : decode cX5_open 4 = .ok (.iconst 4, 1) := by decide +kernel
theorem dX5_open_5 : decode cX5_open 5 = .ok (.isub, 1) := by decide +kernel
theorem dX5_open_6 : decode cX5_open 6 = .ok (.istore 4, 2) := by decide +kernel
theorem dX5_open_8 : decode cX5_open 8 = .ok (.iload 4, 2) := by decide +kernel
theorem dX5_open_10 : decode cX5_open 10 = .ok (.iconst 1, 1) := by decide +kernel
theorem dX5_open_11 : decode cX5_open 11 = .ok (.if_icmp .ge 5, 3) := by decide +kernel
theorem dX5_open_14 : decode cX5_open 14 = .ok (.iconst 0, 1) := by decide +kernel
theorem dX5_open_15 : decode cX5_open 15 = .ok (.ireturn, 1) := by decide +kernel
theorem dX5_open_16 : decode cX5_open 16 = .ok (.aload_n 0, 1) := by decide +kernel
theorem dX5_open_17 : decode cX5_open 17 = .ok (.getfield 28, 3) := by decide +kernel
theorem dX5_open_20 : decode cX5_open 20 = .ok (.aload_n 0, 1) := by decide +kernel
theorem dX5_open_21 : decode cX5_open 21 = .ok (.getfield 16, 3) := by decide +kernel
theorem dX5_open_24 : decode cX5_open 24 = .ok (.invokevirtual 71, 3) := by decide +kernel
theorem dX5_open_27 : decode cX5_open 27 = .ok (.aload_n 0, 1) := by decide +kernel
theorem dX5_open_28 : decode cX5_open 28 = .ok (.aload_n 2, 1) := by decide +kernel
theorem dX5_open_29 : decode cX5_open 29 = .ok (.iload 4, 2) := by decide +kernel
theorem dX5_open_31 : decode cX5_open 31 = .ok (.aload_n 0, 1) := by decide +kernel
theorem dX5_open_32 : decode cX5_open 32 = .ok (.getfield 55, 3) := by decide +kernel
theorem dX5_open_35 : decode cX5_open 35 = .ok (.i2l, 1) := by decide +kernel
theorem dX5_open_36 : decode cX5_open 36 = .ok (.iload_n 3, 1) := by decide +kernel
theorem dX5_open_37 : decode cX5_open 37 = .ok (.invokevirtual 87, 3) := by decide +kernel
theorem dX5_open_40 : decode cX5_open 40 = .ok (.aload_n 0, 1) := by decide +kernel
theorem dX5_open_41 : decode cX5_open 41 = .ok (.iload_n 1, 1) := by decide +kernel
theorem dX5_open_42 : decode cX5_open 42 = .ok (.aload_n 2, 1) := by decide +kernel
theorem dX5_open_43 : decode cX5_open 43 = .ok (.iload 4, 2) := by decide +kernel
theorem dX5_open_45 : decode cX5_open 45 = .ok (.aload_n 0, 1) := by decide +kernel
theorem dX5_open_46 : decode cX5_open 46 = .ok (.getfield 55, 3) := by decide +kernel
theorem dX5_open_49 : decode cX5_open 49 = .ok (.i2l, 1) := by decide +kernel
theorem dX5_open_50 : decode cX5_open 50 = .ok (.iload_n 3, 1) := by decide +kernel
theorem dX5_open_51 : decode cX5_open 51 = .ok (.invokevirtual 83, 3) := by decide +kernel
theorem dX5_open_54 : decode cX5_open 54 = .ok (.iconst 0, 1) := by decide +kernel
theorem dX5_open_55 : decode cX5_open 55 = .ok (.istore 5, 2) := by decide +kernel
theorem dX5_open_57 : decode cX5_open 57 = .ok (.iload 5, 2) := by decide +kernel
theorem dX5_open_59 : decode cX5_open 59 = .ok (.iconst 4, 1) := by decide +kernel
theorem dX5_open_60 : decode cX5_open 60 = .ok (.if_icmp .ge 38, 3) := by decide +kernel
theorem dX5_open_63 : decode cX5_open 63 = .ok (.aload_n 2, 1) := by decide +kernel
theorem dX5_open_64 : decode cX5_open 64 = .ok (.iload 4, 2) := by decide +kernel
theorem dX5_open_66 : decode cX5_open 66 = .ok (.iload 5, 2) := by decide +kernel
theorem dX5_open_68 : decode cX5_open 68 = .ok (.iadd, 1) := by decide +kernel
theorem dX5_open_69 : decode cX5_open 69 = .ok (.invokevirtual 67, 3) := by decide +kernel
theorem dX5_open_72 : decode cX5_open 72 = .ok (.aload_n 0, 1) := by decide +kernel
theorem dX5_open_73 : decode cX5_open 73 = .ok (.getfield 22, 3) := by decide +kernel
theorem dX5_open_76 : decode cX5_open 76 = .ok (.iload 5, 2) := by decide +kernel
theorem dX5_open_78 : decode cX5_open 78 = .ok (.iaload, 1) := by decide +kernel
theorem dX5_open_79 : decode cX5_open 79 = .ok (.aload_n 0, 1) := by decide +kernel
theorem dX5_open_80 : decode cX5_open 80 = .ok (.getfield 25, 3) := by decide +kernel
theorem dX5_open_83 : decode cX5_open 83 = .ok (.iload 5, 2) := by decide +kernel
theorem dX5_open_85 : decode cX5_open 85 = .ok (.iaload, 1) := by decide +kernel
theorem dX5_open_86 : decode cX5_open 86 = .ok (.ixor, 1) := by decide +kernel
theorem dX5_open_87 : decode cX5_open 87 = .ok (.if_icmp .eq 5, 3) := by decide +kernel
theorem dX5_open_90 : decode cX5_open 90 = .ok (.iconst 0, 1) := by decide +kernel
theorem dX5_open_91 : decode cX5_open 91 = .ok (.ireturn, 1) := by decide +kernel
theorem dX5_open_92 : decode cX5_open 92 = .ok (.iinc 5 1, 3) := by decide +kernel
theorem dX5_open_95 : decode cX5_open 95 = .ok (.goto (-38), 3) := by decide +kernel
theorem dX5_open_98 : decode cX5_open 98 = .ok (.aload_n 2, 1) := by decide +kernel
theorem dX5_open_99 : decode cX5_open 99 = .ok (.iload 4, 2) := by decide +kernel
theorem dX5_open_101 : decode cX5_open 101 = .ok (.invokevirtual 91, 3) := by decide +kernel
theorem dX5_open_104 : decode cX5_open 104 = .ok (.aload_n 0, 1) := by decide +kernel
theorem dX5_open_105 : decode cX5_open 105 = .ok (.dup, 1) := by decide +kernel
theorem dX5_open_106 : decode cX5_open 106 = .ok (.getfield 55, 3) := by decide +kernel
theorem dX5_open_109 : decode cX5_open 109 = .ok (.iconst 1, 1) := by decide +kernel
theorem dX5_open_110 : decode cX5_open 110 = .ok (.iadd, 1) := by decide +kernel
theorem dX5_open_111 : decode cX5_open 111 = .ok (.putfield 55, 3) := by decide +kernel
theorem dX5_open_114 : decode cX5_open 114 = .ok (.iconst 1, 1) := by decide +kernel
theorem dX5_open_115 : decode cX5_open 115 = .ok (.ireturn, 1) := by decide +kernel
theorem dX5_findMac_0 : decode cX5_findMac 0 = .ok (.aload_n 0, 1) := by decide +kernel
theorem dX5_findMac_1 : decode cX5_findMac 1 = .ok (.aload_n 0, 1) := by decide +kernel
theorem dX5_findMac_2 : decode cX5_findMac 2 = .ok (.getfield 22, 3) := by decide +kernel
theorem dX5_findMac_5 : decode cX5_findMac 5 = .ok (.bipush 73, 2) := by decide +kernel
theorem dX5_findMac_7 : decode cX5_findMac 7 = .ok (.iload_n 3, 1) := by decide +kernel
theorem dX5_findMac_8 : decode cX5_findMac 8 = .ok (.lload 4, 2) := by decide +kernel
theorem dX5_findMac_10 : decode cX5_findMac 10 = .ok (.iload 6, 2) := by decide +kernel
theorem dX5_findMac_12 : decode cX5_findMac 12 = .ok (.invokevirtual 94, 3) := by decide +kernel
theorem dX5_findMac_15 : decode cX5_findMac 15 = .ok (.aload_n 0, 1) := by decide +kernel
theorem dX5_findMac_16 : decode cX5_findMac 16 = .ok (.getfield 28, 3) := by decide +kernel
theorem dX5_findMac_19 : decode cX5_findMac 19 = .ok (.aload_n 0, 1) := by decide +kernel
theorem dX5_findMac_20 : decode cX5_findMac 20 = .ok (.getfield 22, 3) := by decide +kernel
theorem dX5_findMac_23 : decode cX5_findMac 23 = .ok (.invokevirtual 77, 3) := by decide +kernel
theorem dX5_findMac_26 : decode cX5_findMac 26 = .ok (.aload_n 0, 1) := by decide +kernel
theorem dX5_findMac_27 : decode cX5_findMac 27 = .ok (.getfield 22, 3) := by decide +kernel
theorem dX5_findMac_30 : decode cX5_findMac 30 = .ok (.iconst 1, 1) := by decide +kernel
theorem dX5_findMac_31 : decode cX5_findMac 31 = .ok (.dup2, 1) := by decide +kernel
theorem dX5_findMac_32 : decode cX5_findMac 32 = .ok (.iaload, 1) := by decide +kernel
theorem dX5_findMac_33 : decode cX5_findMac 33 = .ok (.iconst 1, 1) := by decide +kernel
theorem dX5_findMac_34 : decode cX5_findMac 34 = .ok (.ixor, 1) := by decide +kernel
theorem dX5_findMac_35 : decode cX5_findMac 35 = .ok (.iastore, 1) := by decide +kernel
theorem dX5_findMac_36 : decode cX5_findMac 36 = .ok (.aload_n 0, 1) := by decide +kernel
theorem dX5_findMac_37 : decode cX5_findMac 37 = .ok (.getfield 22, 3) := by decide +kernel
theorem dX5_findMac_40 : decode cX5_findMac 40 = .ok (.iconst 2, 1) := by decide +kernel
theorem dX5_findMac_41 : decode cX5_findMac 41 = .ok (.dup2, 1) := by decide +kernel
theorem dX5_findMac_42 : decode cX5_findMac 42 = .ok (.iaload, 1) := by decide +kernel
theorem dX5_findMac_43 : decode cX5_findMac 43 = .ok (.iload_n 1, 1) := by decide +kernel
theorem dX5_findMac_44 : decode cX5_findMac 44 = .ok (.sipush 227, 3) := by decide +kernel
theorem dX5_findMac_47 : decode cX5_findMac 47 = .ok (.iand, 1) := by decide +kernel
theorem dX5_findMac_48 : decode cX5_findMac 48 = .ok (.ixor, 1) := by decide +kernel
theorem dX5_findMac_49 : decode cX5_findMac 49 = .ok (.iastore, 1) := by decide +kernel
theorem dX5_findMac_50 : decode cX5_findMac 50 = .ok (.aload_n 0, 1) := by decide +kernel
theorem dX5_findMac_51 : decode cX5_findMac 51 = .ok (.getfield 28, 3) := by decide +kernel
theorem dX5_findMac_54 : decode cX5_findMac 54 = .ok (.aload_n 0, 1) := by decide +kernel
theorem dX5_findMac_55 : decode cX5_findMac 55 = .ok (.getfield 22, 3) := by decide +kernel
theorem dX5_findMac_58 : decode cX5_findMac 58 = .ok (.invokevirtual 77, 3) := by decide +kernel
theorem dX5_findMac_61 : decode cX5_findMac 61 = .ok (.iconst 0, 1) := by decide +kernel
theorem dX5_findMac_62 : decode cX5_findMac 62 = .ok (.istore 7, 2) := by decide +kernel
theorem dX5_findMac_64 : decode cX5_findMac 64 = .ok (.iload 7, 2) := by decide +kernel
theorem dX5_findMac_66 : decode cX5_findMac 66 = .ok (.iload_n 3, 1) := by decide +kernel
theorem dX5_findMac_67 : decode cX5_findMac 67 = .ok (.if_icmp .ge 61, 3) := by decide +kernel
theorem dX5_findMac_70 : decode cX5_findMac 70 = .ok (.aload_n 0, 1) := by decide +kernel
theorem dX5_findMac_71 : decode cX5_findMac 71 = .ok (.getfield 22, 3) := by decide +kernel
theorem dX5_findMac_74 : decode cX5_findMac 74 = .ok (.iload 7, 2) := by decide +kernel
theorem dX5_findMac_76 : decode cX5_findMac 76 = .ok (.bipush 15, 2) := by decide +kernel
theorem dX5_findMac_78 : decode cX5_findMac 78 = .ok (.iand, 1) := by decide +kernel
theorem dX5_findMac_79 : decode cX5_findMac 79 = .ok (.dup2, 1) := by decide +kernel
theorem dX5_findMac_80 : decode cX5_findMac 80 = .ok (.iaload, 1) := by decide +kernel
theorem dX5_findMac_81 : decode cX5_findMac 81 = .ok (.aload_n 2, 1) := by decide +kernel
theorem dX5_findMac_82 : decode cX5_findMac 82 = .ok (.iload 7, 2) := by decide +kernel
theorem dX5_findMac_84 : decode cX5_findMac 84 = .ok (.invokevirtual 67, 3) := by decide +kernel
theorem dX5_findMac_87 : decode cX5_findMac 87 = .ok (.sipush 255, 3) := by decide +kernel
theorem dX5_findMac_90 : decode cX5_findMac 90 = .ok (.iand, 1) := by decide +kernel
theorem dX5_findMac_91 : decode cX5_findMac 91 = .ok (.ixor, 1) := by decide +kernel
theorem dX5_findMac_92 : decode cX5_findMac 92 = .ok (.iastore, 1) := by decide +kernel
theorem dX5_findMac_93 : decode cX5_findMac 93 = .ok (.iload 7, 2) := by decide +kernel
theorem dX5_findMac_95 : decode cX5_findMac 95 = .ok (.bipush 15, 2) := by decide +kernel
theorem dX5_findMac_97 : decode cX5_findMac 97 = .ok (.iand, 1) := by decide +kernel
theorem dX5_findMac_98 : decode cX5_findMac 98 = .ok (.bipush 15, 2) := by decide +kernel
theorem dX5_findMac_100 : decode cX5_findMac 100 = .ok (.if_icmp .eq 11, 3) := by decide +kernel
theorem dX5_findMac_103 : decode cX5_findMac 103 = .ok (.iload 7, 2) := by decide +kernel
theorem dX5_findMac_105 : decode cX5_findMac 105 = .ok (.iload_n 3, 1) := by decide +kernel
theorem dX5_findMac_106 : decode cX5_findMac 106 = .ok (.iconst 1, 1) := by decide +kernel
theorem dX5_findMac_107 : decode cX5_findMac 107 = .ok (.isub, 1) := by decide +kernel
theorem dX5_findMac_108 : decode cX5_findMac 108 = .ok (.if_icmp .ne 14, 3) := by decide +kernel
theorem dX5_findMac_111 : decode cX5_findMac 111 = .ok (.aload_n 0, 1) := by decide +kernel
theorem dX5_findMac_112 : decode cX5_findMac 112 = .ok (.getfield 28, 3) := by decide +kernel
theorem dX5_findMac_115 : decode cX5_findMac 115 = .ok (.aload_n 0, 1) := by decide +kernel
theorem dX5_findMac_116 : decode cX5_findMac 116 = .ok (.getfield 22, 3) := by decide +kernel
theorem dX5_findMac_119 : decode cX5_findMac 119 = .ok (.invokevirtual 77, 3) := by decide +kernel
theorem dX5_findMac_122 : decode cX5_findMac 122 = .ok (.iinc 7 1, 3) := by decide +kernel
theorem dX5_findMac_125 : decode cX5_findMac 125 = .ok (.goto (-61), 3) := by decide +kernel
theorem dX5_findMac_128 : decode cX5_findMac 128 = .ok (.return_, 1) := by decide +kernel
theorem dX5_whitenBySession_0 : decode cX5_whitenBySession 0 = .ok (.iconst 0, 1) := by decide +kernel
theorem dX5_whitenBySession_1 : decode cX5_whitenBySession 1 = .ok (.istore 6, 2) := by decide +kernel
theorem dX5_whitenBySession_3 : decode cX5_whitenBySession 3 = .ok (.iload 6, 2) := by decide +kernel
theorem dX5_whitenBySession_5 : decode cX5_whitenBySession 5 = .ok (.iload_n 2, 1) := by decide +kernel
theorem dX5_whitenBySession_6 : decode cX5_whitenBySession 6 = .ok (.if_icmp .ge 62, 3) := by decide +kernel
theorem dX5_whitenBySession_9 : decode cX5_whitenBySession 9 = .ok (.iload 6, 2) := by decide +kernel
theorem dX5_whitenBySession_11 : decode cX5_whitenBySession 11 = .ok (.bipush 15, 2) := by decide +kernel
theorem dX5_whitenBySession_13 : decode cX5_whitenBySession 13 = .ok (.iand, 1) := by decide +kernel
theorem dX5_whitenBySession_14 : decode cX5_whitenBySession 14 = .ok (.ifCond .ne 32, 3) := by decide +kernel
theorem dX5_whitenBySession_17 : decode cX5_whitenBySession 17 = .ok (.aload_n 0, 1) := by decide +kernel
theorem dX5_whitenBySession_18 : decode cX5_whitenBySession 18 = .ok (.aload_n 0, 1) := by decide +kernel
theorem dX5_whitenBySession_19 : decode cX5_whitenBySession 19 = .ok (.getfield 25, 3) := by decide +kernel
theorem dX5_whitenBySession_22 : decode cX5_whitenBySession 22 = .ok (.iconst 1, 1) := by decide +kernel
theorem dX5_whitenBySession_23 : decode cX5_whitenBySession 23 = .ok (.iconst 1, 1) := by decide +kernel
theorem dX5_whitenBySession_24 : decode cX5_whitenBySession 24 = .ok (.iload 6, 2) := by decide +kernel
theorem dX5_whitenBySession_26 : decode cX5_whitenBySession 26 = .ok (.iconst 4, 1) := by decide +kernel
theorem dX5_whitenBySession_27 : decode cX5_whitenBySession 27 = .ok (.ishr, 1) := by decide +kernel
theorem dX5_whitenBySession_28 : decode cX5_whitenBySession 28 = .ok (.iadd, 1) := by decide +kernel
theorem dX5_whitenBySession_29 : decode cX5_whitenBySession 29 = .ok (.lload_n 3, 1) := by decide +kernel
theorem dX5_whitenBySession_30 : decode cX5_whitenBySession 30 = .ok (.iload 5, 2) := by decide +kernel
theorem dX5_whitenBySession_32 : decode cX5_whitenBySession 32 = .ok (.invokevirtual 94, 3) := by decide +kernel
theorem dX5_whitenBySession_35 : decode cX5_whitenBySession 35 = .ok (.aload_n 0, 1) := by decide +kernel
theorem dX5_whitenBySession_36 : decode cX5_whitenBySession 36 = .ok (.getfield 28, 3) := by decide +kernel
theorem dX5_whitenBySession_39 : decode cX5_whitenBySession 39 = .ok (.aload_n 0, 1) := by decide +kernel
theorem dX5_whitenBySession_40 : decode cX5_whitenBySession 40 = .ok (.getfield 25, 3) := by decide +kernel
theorem dX5_whitenBySession_43 : decode cX5_whitenBySession 43 = .ok (.invokevirtual 77, 3) := by decide +kernel
theorem dX5_whitenBySession_46 : decode cX5_whitenBySession 46 = .ok (.aload_n 1, 1) := by decide +kernel
theorem dX5_whitenBySession_47 : decode cX5_whitenBySession 47 = .ok (.iload 6, 2) := by decide +kernel
theorem dX5_whitenBySession_49 : decode cX5_whitenBySession 49 = .ok (.aload_n 0, 1) := by decide +kernel
theorem dX5_whitenBySession_50 : decode cX5_whitenBySession 50 = .ok (.getfield 25, 3) := by decide +kernel
theorem dX5_whitenBySession_53 : decode cX5_whitenBySession 53 = .ok (.iload 6, 2) := by decide +kernel
theorem dX5_whitenBySession_55 : decode cX5_whitenBySession 55 = .ok (.bipush 15, 2) := by decide +kernel
theorem dX5_whitenBySession_57 : decode cX5_whitenBySession 57 = .ok (.iand, 1) := by decide +kernel
theorem dX5_whitenBySession_58 : decode cX5_whitenBySession 58 = .ok (.iaload, 1) := by decide +kernel
theorem dX5_whitenBySession_59 : decode cX5_whitenBySession 59 = .ok (.invokevirtual 98, 3) := by decide +kernel
theorem dX5_whitenBySession_62 : decode cX5_whitenBySession 62 = .ok (.iinc 6 1, 3) := by decide +kernel
theorem dX5_whitenBySession_65 : decode cX5_whitenBySession 65 = .ok (.goto (-62), 3) := by decide +kernel
theorem dX5_whitenBySession_68 : decode cX5_whitenBySession 68 = .ok (.aload_n 0, 1) := by decide +kernel
theorem dX5_whitenBySession_69 : decode cX5_whitenBySession 69 = .ok (.aload_n 0, 1) := by decide +kernel
theorem dX5_whitenBySession_70 : decode cX5_whitenBySession 70 = .ok (.getfield 25, 3) := by decide +kernel
theorem dX5_whitenBySession_73 : decode cX5_whitenBySession 73 = .ok (.iconst 1, 1) := by decide +kernel
theorem dX5_whitenBySession_74 : decode cX5_whitenBySession 74 = .ok (.iconst 0, 1) := by decide +kernel
theorem dX5_whitenBySession_75 : decode cX5_whitenBySession 75 = .ok (.lload_n 3, 1) := by decide +kernel
theorem dX5_whitenBySession_76 : decode cX5_whitenBySession 76 = .ok (.iload 5, 2) := by decide +kernel
theorem dX5_whitenBySession_78 : decode cX5_whitenBySession 78 = .ok (.invokevirtual 94, 3) := by decide +kernel
theorem dX5_whitenBySession_81 : decode cX5_whitenBySession 81 = .ok (.aload_n 0, 1) := by decide +kernel
theorem dX5_whitenBySession_82 : decode cX5_whitenBySession 82 = .ok (.getfield 28, 3) := by decide +kernel
theorem dX5_whitenBySession_85 : decode cX5_whitenBySession 85 = .ok (.aload_n 0, 1) := by decide +kernel
theorem dX5_whitenBySession_86 : decode cX5_whitenBySession 86 = .ok (.getfield 25, 3) := by decide +kernel
theorem dX5_whitenBySession_89 : decode cX5_whitenBySession 89 = .ok (.invokevirtual 77, 3) := by decide +kernel
theorem dX5_whitenBySession_92 : decode cX5_whitenBySession 92 = .ok (.return_, 1) := by decide +kernel
theorem dX5_fillNonce_0 : decode cX5_fillNonce 0 = .ok (.aload_n 1, 1) := by decide +kernel
theorem dX5_fillNonce_1 : decode cX5_fillNonce 1 = .ok (.arraylength, 1) := by decide +kernel
theorem dX5_fillNonce_2 : decode cX5_fillNonce 2 = .ok (.bipush 16, 2) := by decide +kernel
theorem dX5_fillNonce_4 : decode cX5_fillNonce 4 = .ok (.if_icmp .ge 4, 3) := by decide +kernel
theorem dX5_fillNonce_7 : decode cX5_fillNonce 7 = .ok (.return_, 1) := by decide +kernel
theorem dX5_fillNonce_8 : decode cX5_fillNonce 8 = .ok (.aload_n 1, 1) := by decide +kernel
theorem dX5_fillNonce_9 : decode cX5_fillNonce 9 = .ok (.iconst 0, 1) := by decide +kernel
theorem dX5_fillNonce_10 : decode cX5_fillNonce 10 = .ok (.iload_n 2, 1) := by decide +kernel
theorem dX5_fillNonce_11 : decode cX5_fillNonce 11 = .ok (.iastore, 1) := by decide +kernel
theorem dX5_fillNonce_12 : decode cX5_fillNonce 12 = .ok (.iconst 0, 1) := by decide +kernel
theorem dX5_fillNonce_13 : decode cX5_fillNonce 13 = .ok (.istore 7, 2) := by decide +kernel
theorem dX5_fillNonce_15 : decode cX5_fillNonce 15 = .ok (.iload 7, 2) := by decide +kernel
theorem dX5_fillNonce_17 : decode cX5_fillNonce 17 = .ok (.iconst 5, 1) := by decide +kernel
theorem dX5_fillNonce_18 : decode cX5_fillNonce 18 = .ok (.if_icmp .ge 28, 3) := by decide +kernel
theorem dX5_fillNonce_21 : decode cX5_fillNonce 21 = .ok (.aload_n 1, 1) := by decide +kernel
theorem dX5_fillNonce_22 : decode cX5_fillNonce 22 = .ok (.iconst 1, 1) := by decide +kernel
theorem dX5_fillNonce_23 : decode cX5_fillNonce 23 = .ok (.iload 7, 2) := by decide +kernel
theorem dX5_fillNonce_25 : decode cX5_fillNonce 25 = .ok (.iadd, 1) := by decide +kernel
theorem dX5_fillNonce_26 : decode cX5_fillNonce 26 = .ok (.lload 4, 2) := by decide +kernel
theorem dX5_fillNonce_28 : decode cX5_fillNonce 28 = .ok (.bipush 8, 2) := by decide +kernel
theorem dX5_fillNonce_30 : decode cX5_fillNonce 30 = .ok (.iload 7, 2) := by decide +kernel
theorem dX5_fillNonce_32 : decode cX5_fillNonce 32 = .ok (.imul, 1) := by decide +kernel
theorem dX5_fillNonce_33 : decode cX5_fillNonce 33 = .ok (.lushr, 1) := by decide +kernel
theorem dX5_fillNonce_34 : decode cX5_fillNonce 34 = .ok (.ldc2_w 102, 3) := by decide +kernel
theorem dX5_fillNonce_37 : decode cX5_fillNonce 37 = .ok (.land, 1) := by decide +kernel
theorem dX5_fillNonce_38 : decode cX5_fillNonce 38 = .ok (.l2i, 1) := by decide +kernel
theorem dX5_fillNonce_39 : decode cX5_fillNonce 39 = .ok (.iastore, 1) := by decide +kernel
theorem dX5_fillNonce_40 : decode cX5_fillNonce 40 = .ok (.iinc 7 1, 3) := by decide +kernel
theorem dX5_fillNonce_43 : decode cX5_fillNonce 43 = .ok (.goto (-28), 3) := by decide +kernel
theorem dX5_fillNonce_46 : decode cX5_fillNonce 46 = .ok (.aload_n 1, 1) := by decide +kernel
theorem dX5_fillNonce_47 : decode cX5_fillNonce 47 = .ok (.iconst 5, 1) := by decide +kernel
theorem dX5_fillNonce_48 : decode cX5_fillNonce 48 = .ok (.aload_n 1, 1) := by decide +kernel
theorem dX5_fillNonce_49 : decode cX5_fillNonce 49 = .ok (.iconst 5, 1) := by decide +kernel
theorem dX5_fillNonce_50 : decode cX5_fillNonce 50 = .ok (.iaload, 1) := by decide +kernel
theorem dX5_fillNonce_51 : decode cX5_fillNonce 51 = .ok (.sipush 128, 3) := by decide +kernel
theorem dX5_fillNonce_54 : decode cX5_fillNonce 54 = .ok (.iload 6, 2) := by decide +kernel
theorem dX5_fillNonce_56 : decode cX5_fillNonce 56 = .ok (.imul, 1) := by decide +kernel
theorem dX5_fillNonce_57 : decode cX5_fillNonce 57 = .ok (.iadd, 1) := by decide +kernel
theorem dX5_fillNonce_58 : decode cX5_fillNonce 58 = .ok (.sipush 255, 3) := by decide +kernel
theorem dX5_fillNonce_61 : decode cX5_fillNonce 61 = .ok (.iand, 1) := by decide +kernel
theorem dX5_fillNonce_62 : decode cX5_fillNonce 62 = .ok (.iastore, 1) := by decide +kernel
theorem dX5_fillNonce_63 : decode cX5_fillNonce 63 = .ok (.iconst 0, 1) := by decide +kernel
theorem dX5_fillNonce_64 : decode cX5_fillNonce 64 = .ok (.istore 7, 2) := by decide +kernel
theorem dX5_fillNonce_66 : decode cX5_fillNonce 66 = .ok (.iload 7, 2) := by decide +kernel
theorem dX5_fillNonce_68 : decode cX5_fillNonce 68 = .ok (.bipush 8, 2) := by decide +kernel
theorem dX5_fillNonce_70 : decode cX5_fillNonce 70 = .ok (.if_icmp .ge 23, 3) := by decide +kernel
theorem dX5_fillNonce_73 : decode cX5_fillNonce 73 = .ok (.aload_n 1, 1) := by decide +kernel
theorem dX5_fillNonce_74 : decode cX5_fillNonce 74 = .ok (.bipush 6, 2) := by decide +kernel
theorem dX5_fillNonce_76 : decode cX5_fillNonce 76 = .ok (.iload 7, 2) := by decide +kernel
theorem dX5_fillNonce_78 : decode cX5_fillNonce 78 = .ok (.iadd, 1) := by decide +kernel
theorem dX5_fillNonce_79 : decode cX5_fillNonce 79 = .ok (.aload_n 0, 1) := by decide +kernel
theorem dX5_fillNonce_80 : decode cX5_fillNonce 80 = .ok (.getfield 19, 3) := by decide +kernel
theorem dX5_fillNonce_83 : decode cX5_fillNonce 83 = .ok (.iload 7, 2) := by decide +kernel
theorem dX5_fillNonce_85 : decode cX5_fillNonce 85 = .ok (.iaload, 1) := by decide +kernel
theorem dX5_fillNonce_86 : decode cX5_fillNonce 86 = .ok (.iastore, 1) := by decide +kernel
theorem dX5_fillNonce_87 : decode cX5_fillNonce 87 = .ok (.iinc 7 1, 3) := by decide +kernel
theorem dX5_fillNonce_90 : decode cX5_fillNonce 90 = .ok (.goto (-24), 3) := by decide +kernel
theorem dX5_fillNonce_93 : decode cX5_fillNonce 93 = .ok (.aload_n 1, 1) := by decide +kernel
theorem dX5_fillNonce_94 : decode cX5_fillNonce 94 = .ok (.bipush 14, 2) := by decide +kernel
theorem dX5_fillNonce_96 : decode cX5_fillNonce 96 = .ok (.iconst 0, 1) := by decide +kernel
theorem dX5_fillNonce_97 : decode cX5_fillNonce 97 = .ok (.iastore, 1) := by decide +kernel
theorem dX5_fillNonce_98 : decode cX5_fillNonce 98 = .ok (.aload_n 1, 1) := by decide +kernel
theorem dX5_fillNonce_99 : decode cX5_fillNonce 99 = .ok (.bipush 15, 2) := by decide +kernel
theorem dX5_fillNonce_101 : decode cX5_fillNonce 101 = .ok (.iload_n 3, 1) := by decide +kernel
theorem dX5_fillNonce_102 : decode cX5_fillNonce 102 = .ok (.iastore, 1) := by decide +kernel
theorem dX5_fillNonce_103 : decode cX5_fillNonce 103 = .ok (.return_, 1) := by decide +kernel
theorem dX6_init_0 : decode cX6_init 0 = .ok (.aload_n 0, 1) := by decide +kernel
theorem dX6_init_1 : decode cX6_init 1 = .ok (.invokespecial 3, 3) := by decide +kernel
theorem dX6_init_4 : decode cX6_init 4 = .ok (.aload_n 0, 1) := by decide +kernel
theorem dX6_init_5 : decode cX6_init 5 = .ok (.iconst (-1), 1) := by decide +kernel
theorem dX6_init_6 : decode cX6_init 6 = .ok (.putfield 9, 3) := by decide +kernel
theorem dX6_init_9 : decode cX6_init 9 = .ok (.aload_n 0, 1) := by decide +kernel
theorem dX6_init_10 : decode cX6_init 10 = .ok (.iconst (-1), 1) := by decide +kernel
theorem dX6_init_11 : decode cX6_init 11 = .ok (.putfield 15, 3) := by decide +kernel
theorem dX6_init_14 : decode cX6_init 14 = .ok (.aload_n 0, 1) := by decide +kernel
theorem dX6_init_15 : decode cX6_init 15 = .ok (.iconst (-1), 1) := by decide +kernel
theorem dX6_init_16 : decode cX6_init 16 = .ok (.putfield 18, 3) := by decide +kernel
theorem dX6_init_19 : decode cX6_init 19 = .ok (.return_, 1) := by decide +kernel
theorem dX6_isProper_0 : decode cX6_isProper 0 = .ok (.iload_n 0, 1) := by decide +kernel
theorem dX6_isProper_1 : decode cX6_isProper 1 = .ok (.iconst 2, 1) := by decide +kernel
theorem dX6_isProper_2 : decode cX6_isProper 2 = .ok (.if_icmp .lt 44, 3) := by decide +kernel
theorem dX6_isProper_5 : decode cX6_isProper 5 = .ok (.iload_n 0, 1) := by decide +kernel
theorem dX6_isProper_6 : decode cX6_isProper 6 = .ok (.bipush 50, 2) := by decide +kernel
theorem dX6_isProper_8 : decode cX6_isProper 8 = .ok (.if_icmp .gt 38, 3) := by decide +kernel
theorem dX6_isProper_11 : decode cX6_isProper 11 = .ok (.iload_n 1, 1) := by decide +kernel
theorem dX6_isProper_12 : decode cX6_isProper 12 = .ok (.bipush 10, 2) := by decide +kernel
theorem dX6_isProper_14 : decode cX6_isProper 14 = .ok (.if_icmp .lt 32, 3) := by decide +kernel
theorem dX6_isProper_17 : decode cX6_isProper 17 = .ok (.iload_n 1, 1) := by decide +kernel
theorem dX6_isProper_18 : decode cX6_isProper 18 = .ok (.sipush 2000, 3) := by decide +kernel
theorem dX6_isProper_21 : decode cX6_isProper 21 = .ok (.if_icmp .gt 25, 3) := by decide +kernel
theorem dX6_isProper_24 : decode cX6_isProper 24 = .ok (.iload_n 2, 1) := by decide +kernel
theorem dX6_isProper_25 : decode cX6_isProper 25 = .ok (.iconst 5, 1) := by decide +kernel
theorem dX6_isProper_26 : decode cX6_isProper 26 = .ok (.if_icmp .lt 20, 3) := by decide +kernel
theorem dX6_isProper_29 : decode cX6_isProper 29 = .ok (.iload_n 2, 1) := by decide +kernel
theorem dX6_isProper_30 : decode cX6_isProper 30 = .ok (.bipush 16, 2) := by decide +kernel
theorem dX6_isProper_32 : decode cX6_isProper 32 = .ok (.if_icmp .gt 14, 3) := by decide +kernel
theorem dX6_isProper_35 : decode cX6_isProper 35 = .ok (.lload_n 3, 1) := by decide +kernel
theorem dX6_isProper_36 : decode cX6_isProper 36 = .ok (.invokestatic 21, 3) := by decide +kernel
theorem dX6_isProper_39 : decode cX6_isProper 39 = .ok (.ifCond .eq 7, 3) := by decide +kernel
theorem dX6_isProper_42 : decode cX6_isProper 42 = .ok (.iconst 1, 1) := by decide +kernel
theorem dX6_isProper_43 : decode cX6_isProper 43 = .ok (.goto 4, 3) := by decide +kernel
theorem dX6_isProper_46 : decode cX6_isProper 46 = .ok (.iconst 0, 1) := by decide +kernel
theorem dX6_isProper_47 : decode cX6_isProper 47 = .ok (.ireturn, 1) := by decide +kernel
theorem dX6_isProperMap_0 : decode cX6_isProperMap 0 = .ok (.lload_n 0, 1) := by decide +kernel
theorem dX6_isProperMap_1 : decode cX6_isProperMap 1 = .ok (.bipush 37, 2) := by decide +kernel
theorem dX6_isProperMap_3 : decode cX6_isProperMap 3 = .ok (.lushr, 1) := by decide +kernel
theorem dX6_isProperMap_4 : decode cX6_isProperMap 4 = .ok (.lconst 0, 1) := by decide +kernel
theorem dX6_isProperMap_5 : decode cX6_isProperMap 5 = .ok (.lcmp, 1) := by decide +kernel
theorem dX6_isProperMap_6 : decode cX6_isProperMap 6 = .ok (.ifCond .ne 15, 3) := by decide +kernel
theorem dX6_isProperMap_9 : decode cX6_isProperMap 9 = .ok (.lload_n 0, 1) := by decide +kernel
theorem dX6_isProperMap_10 : decode cX6_isProperMap 10 = .ok (.invokestatic 25, 3) := by decide +kernel
theorem dX6_isProperMap_13 : decode cX6_isProperMap 13 = .ok (.iconst 2, 1) := by decide +kernel
theorem dX6_isProperMap_14 : decode cX6_isProperMap 14 = .ok (.if_icmp .lt 7, 3) := by decide +kernel
theorem dX6_isProperMap_17 : decode cX6_isProperMap 17 = .ok (.iconst 1, 1) := by decide +kernel
theorem dX6_isProperMap_18 : decode cX6_isProperMap 18 = .ok (.goto 4, 3) := by decide +kernel
theorem dX6_isProperMap_21 : decode cX6_isProperMap 21 = .ok (.iconst 0, 1) := by decide +kernel
theorem dX6_isProperMap_22 : decode cX6_isProperMap 22 = .ok (.ireturn, 1) := by decide +kernel
theorem dX6_arrange_0 : decode cX6_arrange 0 = .ok (.aload_n 0, 1) := by decide +kernel
theorem dX6_arrange_1 : decode cX6_arrange 1 = .ok (.iload_n 1, 1) := by decide +kernel
theorem dX6_arrange_2 : decode cX6_arrange 2 = .ok (.putfield 31, 3) := by decide +kernel
theorem dX6_arrange_5 : decode cX6_arrange 5 = .ok (.aload_n 0, 1) := by decide +kernel
theorem dX6_arrange_6 : decode cX6_arrange 6 = .ok (.iload_n 2, 1) := by decide +kernel
theorem dX6_arrange_7 : decode cX6_arrange 7 = .ok (.putfield 34, 3) := by decide +kernel
theorem dX6_arrange_10 : decode cX6_arrange 10 = .ok (.aload_n 0, 1) := by decide +kernel
theorem dX6_arrange_11 : decode cX6_arrange 11 = .ok (.iload_n 3, 1) := by decide +kernel
theorem dX6_arrange_12 : decode cX6_arrange 12 = .ok (.putfield 37, 3) := by decide +kernel
theorem dX6_arrange_15 : decode cX6_arrange 15 = .ok (.aload_n 0, 1) := by decide +kernel
theorem dX6_arrange_16 : decode cX6_arrange 16 = .ok (.lload 4, 2) := by decide +kernel
theorem dX6_arrange_18 : decode cX6_arrange 18 = .ok (.putfield 40, 3) := by decide +kernel
theorem dX6_arrange_21 : decode cX6_arrange 21 = .ok (.return_, 1) := by decide +kernel
theorem dX6_begin_0 : decode cX6_begin 0 = .ok (.aload_n 0, 1) := by decide +kernel
theorem dX6_begin_1 : decode cX6_begin 1 = .ok (.iload_n 1, 1) := by decide +kernel
theorem dX6_begin_2 : decode cX6_begin 2 = .ok (.aload_n 0, 1) := by decide +kernel
theorem dX6_begin_3 : decode cX6_begin 3 = .ok (.getfield 31, 3) := by decide +kernel
theorem dX6_begin_6 : decode cX6_begin 6 = .ok (.iadd, 1) := by decide +kernel
theorem dX6_begin_7 : decode cX6_begin 7 = .ok (.putfield 44, 3) := by decide +kernel
theorem dX6_begin_10 : decode cX6_begin 10 = .ok (.aload_n 0, 1) := by decide +kernel
theorem dX6_begin_11 : decode cX6_begin 11 = .ok (.iload_n 1, 1) := by decide +kernel
theorem dX6_begin_12 : decode cX6_begin 12 = .ok (.putfield 47, 3) := by decide +kernel
theorem dX6_begin_15 : decode cX6_begin 15 = .ok (.return_, 1) := by decide +kernel
theorem dX6_reset_0 : decode cX6_reset 0 = .ok (.aload_n 0, 1) := by decide +kernel
theorem dX6_reset_1 : decode cX6_reset 1 = .ok (.iconst 0, 1) := by decide +kernel
theorem dX6_reset_2 : decode cX6_reset 2 = .ok (.putfield 50, 3) := by decide +kernel
theorem dX6_reset_5 : decode cX6_reset 5 = .ok (.aload_n 0, 1) := by decide +kernel
theorem dX6_reset_6 : decode cX6_reset 6 = .ok (.iconst 0, 1) := by decide +kernel
theorem dX6_reset_7 : decode cX6_reset 7 = .ok (.putfield 54, 3) := by decide +kernel
theorem dX6_reset_10 : decode cX6_reset 10 = .ok (.aload_n 0, 1) := by decide +kernel
theorem dX6_reset_11 : decode cX6_reset 11 = .ok (.iconst 0, 1) := by decide +kernel
theorem dX6_reset_12 : decode cX6_reset 12 = .ok (.putfield 57, 3) := by decide +kernel
theorem dX6_reset_15 : decode cX6_reset 15 = .ok (.aload_n 0, 1) := by decide +kernel
theorem dX6_reset_16 : decode cX6_reset 16 = .ok (.iconst (-1), 1) := by decide +kernel
theorem dX6_reset_17 : decode cX6_reset 17 = .ok (.putfield 9, 3) := by decide +kernel
theorem dX6_reset_20 : decode cX6_reset 20 = .ok (.aload_n 0, 1) := by decide +kernel
theorem dX6_reset_21 : decode cX6_reset 21 = .ok (.iconst 0, 1) := by decide +kernel
theorem dX6_reset_22 : decode cX6_reset 22 = .ok (.putfield 60, 3) := by decide +kernel
theorem dX6_reset_25 : decode cX6_reset 25 = .ok (.aload_n 0, 1) := by decide +kernel
theorem dX6_reset_26 : decode cX6_reset 26 = .ok (.iconst 0, 1) := by decide +kernel
theorem dX6_reset_27 : decode cX6_reset 27 = .ok (.putfield 63, 3) := by decide +kernel
theorem dX6_reset_30 : decode cX6_reset 30 = .ok (.aload_n 0, 1) := by decide +kernel
theorem dX6_reset_31 : decode cX6_reset 31 = .ok (.iconst 0, 1) := by decide +kernel
theorem dX6_reset_32 : decode cX6_reset 32 = .ok (.putfield 66, 3) := by decide +kernel
theorem dX6_reset_35 : decode cX6_reset 35 = .ok (.aload_n 0, 1) := by decide +kernel
theorem dX6_reset_36 : decode cX6_reset 36 = .ok (.iconst (-1), 1) := by decide +kernel
theorem dX6_reset_37 : decode cX6_reset 37 = .ok (.putfield 15, 3) := by decide +kernel
theorem dX6_reset_40 : decode cX6_reset 40 = .ok (.aload_n 0, 1) := by decide +kernel
theorem dX6_reset_41 : decode cX6_reset 41 = .ok (.iconst (-1), 1) := by decide +kernel
theorem dX6_reset_42 : decode cX6_reset 42 = .ok (.putfield 18, 3) := by decide +kernel
theorem dX6_reset_45 : decode cX6_reset 45 = .ok (.return_, 1) := by decide +kernel
theorem dX6_awaitMap_0 : decode cX6_awaitMap 0 = .ok (.aload_n 0, 1) := by decide +kernel
theorem dX6_awaitMap_1 : decode cX6_awaitMap 1 = .ok (.lload_n 1, 1) := by decide +kernel
theorem dX6_awaitMap_2 : decode cX6_awaitMap 2 = .ok (.putfield 69, 3) := by decide +kernel
theorem dX6_awaitMap_5 : decode cX6_awaitMap 5 = .ok (.aload_n 0, 1) := by decide +kernel
theorem dX6_awaitMap_6 : decode cX6_awaitMap 6 = .ok (.iload_n 3, 1) := by decide +kernel
theorem dX6_awaitMap_7 : decode cX6_awaitMap 7 = .ok (.putfield 72, 3) := by decide +kernel
theorem dX6_awaitMap_10 : decode cX6_awaitMap 10 = .ok (.aload_n 0, 1) := by decide +kernel
theorem dX6_awaitMap_11 : decode cX6_awaitMap 11 = .ok (.iconst 1, 1) := by decide +kernel
theorem dX6_awaitMap_12 : decode cX6_awaitMap 12 = .ok (.putfield 50, 3) := by decide +kernel
theorem dX6_awaitMap_15 : decode cX6_awaitMap 15 = .ok (.return_, 1) := by decide +kernel
theorem dX6_hearMap_0 : decode cX6_hearMap 0 = .ok (.iload_n 3, 1) := by decide +kernel
theorem dX6_hearMap_1 : decode cX6_hearMap 1 = .ok (.aload_n 0, 1) := by decide +kernel
theorem dX6_hearMap_2 : decode cX6_hearMap 2 = .ok (.getfield 54, 3) := by decide +kernel
theorem dX6_hearMap_5 : decode cX6_hearMap 5 = .ok (.isub, 1) := by decide +kernel
theorem dX6_hearMap_6 : decode cX6_hearMap 6 = .ok (.ldc 75, 2) := by decide +kernel
theorem dX6_hearMap_8 : decode cX6_hearMap 8 = .ok (.iand, 1) := by decide +kernel
theorem dX6_hearMap_9 : decode cX6_hearMap 9 = .ok (.istore 4, 2) := by decide +kernel
theorem dX6_hearMap_11 : decode cX6_hearMap 11 = .ok (.iload 4, 2) := by decide +kernel
theorem dX6_hearMap_13 : decode cX6_hearMap 13 = .ok (.iconst 1, 1) := by decide +kernel
theorem dX6_hearMap_14 : decode cX6_hearMap 14 = .ok (.if_icmp .lt 11, 3) := by decide +kernel
theorem dX6_hearMap_17 : decode cX6_hearMap 17 = .ok (.iload 4, 2) := by decide +kernel
theorem dX6_hearMap_19 : decode cX6_hearMap 19 = .ok (.sipush 32767, 3) := by decide +kernel
theorem dX6_hearMap_22 : decode cX6_hearMap 22 = .ok (.if_icmp .le 12, 3) := by decide +kernel
theorem dX6_hearMap_25 : decode cX6_hearMap 25 = .ok (.aload_n 0, 1) := by decide +kernel
theorem dX6_hearMap_26 : decode cX6_hearMap 26 = .ok (.bipush 40, 2) := by decide +kernel
theorem dX6_hearMap_28 : decode cX6_hearMap 28 = .ok (.invokevirtual 76, 3) := by decide +kernel
theorem dX6_hearMap_31 : decode cX6_hearMap 31 = .ok (.goto 24, 3) := by decide +kernel
theorem dX6_hearMap_34 : decode cX6_hearMap 34 = .ok (.lload_n 1, 1) := by decide +kernel
theorem dX6_hearMap_35 : decode cX6_hearMap 35 = .ok (.invokestatic 21, 3) := by decide +kernel
theorem dX6_hearMap_38 : decode cX6_hearMap 38 = .ok (.ifCond .eq 12, 3) := by decide +kernel
theorem dX6_hearMap_41 : decode cX6_hearMap 41 = .ok (.aload_n 0, 1) := by decide +kernel
theorem dX6_hearMap_42 : decode cX6_hearMap 42 = .ok (.lload_n 1, 1) := by decide +kernel
theorem dX6_hearMap_43 : decode cX6_hearMap 43 = .ok (.iload_n 3, 1) := by decide +kernel
theorem dX6_hearMap_44 : decode cX6_hearMap 44 = .ok (.invokevirtual 80, 3) := by decide +kernel
theorem dX6_hearMap_47 : decode cX6_hearMap 47 = .ok (.goto 8, 3) := by decide +kernel
theorem dX6_hearMap_50 : decode cX6_hearMap 50 = .ok (.aload_n 0, 1) := by decide +kernel
theorem dX6_hearMap_51 : decode cX6_hearMap 51 = .ok (.iconst 0, 1) := by decide +kernel
theorem dX6_hearMap_52 : decode cX6_hearMap 52 = .ok (.putfield 50, 3) := by decide +kernel
theorem dX6_hearMap_55 : decode cX6_hearMap 55 = .ok (.return_, 1) := by decide +kernel
theorem dX6_hopOn_0 : decode cX6_hopOn 0 = .ok (.aload_n 0, 1) := by decide +kernel
theorem dX6_hopOn_1 : decode cX6_hopOn 1 = .ok (.getfield 50, 3) := by decide +kernel
theorem dX6_hopOn_4 : decode cX6_hopOn 4 = .ok (.ifCond .eq 27, 3) := by decide +kernel
theorem dX6_hopOn_7 : decode cX6_hopOn 7 = .ok (.aload_n 0, 1) := by decide +kernel
