theorem dX0_init_0 : decode cX0_init 0 = .ok (.aload_n 0, 1) := by decide +kernel
theorem dX0_init_1 : decode cX0_init 1 = .ok (.invokespecial 3, 3) := by decide +kernel
theorem dX0_init_4 : decode cX0_init 4 = .ok (.aload_n 0, 1) := by decide +kernel
theorem dX0_init_5 : decode cX0_init 5 = .ok (.bipush 8, 2) := by decide +kernel
theorem dX0_init_7 : decode cX0_init 7 = .ok (.anewarray 11, 3) := by decide +kernel
theorem dX0_init_10 : decode cX0_init 10 = .ok (.putfield 13, 3) := by decide +kernel
theorem dX0_init_13 : decode cX0_init 13 = .ok (.aload_n 0, 1) := by decide +kernel
theorem dX0_init_14 : decode cX0_init 14 = .ok (.bipush 8, 2) := by decide +kernel
theorem dX0_init_16 : decode cX0_init 16 = .ok (.newarray .int, 2) := by decide +kernel
theorem dX0_init_18 : decode cX0_init 18 = .ok (.putfield 17, 3) := by decide +kernel
theorem dX0_init_21 : decode cX0_init 21 = .ok (.aload_n 0, 1) := by decide +kernel
theorem dX0_init_22 : decode cX0_init 22 = .ok (.iconst 2, 1) := by decide +kernel
theorem dX0_init_23 : decode cX0_init 23 = .ok (.bipush 64, 2) := by decide +kernel
theorem dX0_init_25 : decode cX0_init 25 = .ok (.multianewarray 21 2, 4) := by decide +kernel
theorem dX0_init_29 : decode cX0_init 29 = .ok (.putfield 23, 3) := by decide +kernel
theorem dX0_init_32 : decode cX0_init 32 = .ok (.aload_n 0, 1) := by decide +kernel
theorem dX0_init_33 : decode cX0_init 33 = .ok (.iconst 2, 1) := by decide +kernel
theorem dX0_init_34 : decode cX0_init 34 = .ok (.newarray .int, 2) := by decide +kernel
theorem dX0_init_36 : decode cX0_init 36 = .ok (.putfield 26, 3) := by decide +kernel
theorem dX0_init_39 : decode cX0_init 39 = .ok (.aload_n 0, 1) := by decide +kernel
theorem dX0_init_40 : decode cX0_init 40 = .ok (.iconst 2, 1) := by decide +kernel
theorem dX0_init_41 : decode cX0_init 41 = .ok (.newarray .int, 2) := by decide +kernel
theorem dX0_init_43 : decode cX0_init 43 = .ok (.putfield 29, 3) := by decide +kernel
theorem dX0_init_46 : decode cX0_init 46 = .ok (.aload_n 0, 1) := by decide +kernel
theorem dX0_init_47 : decode cX0_init 47 = .ok (.new 11, 3) := by decide +kernel
theorem dX0_init_50 : decode cX0_init 50 = .ok (.dup, 1) := by decide +kernel
theorem dX0_init_51 : decode cX0_init 51 = .ok (.bipush 40, 2) := by decide +kernel
theorem dX0_init_53 : decode cX0_init 53 = .ok (.invokespecial 32, 3) := by decide +kernel
theorem dX0_init_56 : decode cX0_init 56 = .ok (.putfield 35, 3) := by decide +kernel
theorem dX0_init_59 : decode cX0_init 59 = .ok (.aload_n 0, 1) := by decide +kernel
theorem dX0_init_60 : decode cX0_init 60 = .ok (.new 11, 3) := by decide +kernel
theorem dX0_init_63 : decode cX0_init 63 = .ok (.dup, 1) := by decide +kernel
theorem dX0_init_64 : decode cX0_init 64 = .ok (.bipush 31, 2) := by decide +kernel
theorem dX0_init_66 : decode cX0_init 66 = .ok (.invokespecial 32, 3) := by decide +kernel
theorem dX0_init_69 : decode cX0_init 69 = .ok (.putfield 39, 3) := by decide +kernel
theorem dX0_init_72 : decode cX0_init 72 = .ok (.iconst 0, 1) := by decide +kernel
theorem dX0_init_73 : decode cX0_init 73 = .ok (.istore_n 1, 1) := by decide +kernel
theorem dX0_init_74 : decode cX0_init 74 = .ok (.iload_n 1, 1) := by decide +kernel
theorem dX0_init_75 : decode cX0_init 75 = .ok (.aload_n 0, 1) := by decide +kernel
theorem dX0_init_76 : decode cX0_init 76 = .ok (.getfield 13, 3) := by decide +kernel
theorem dX0_init_79 : decode cX0_init 79 = .ok (.arraylength, 1) := by decide +kernel
theorem dX0_init_80 : decode cX0_init 80 = .ok (.if_icmp .ge 24, 3) := by decide +kernel
theorem dX0_init_83 : decode cX0_init 83 = .ok (.aload_n 0, 1) := by decide +kernel
theorem dX0_init_84 : decode cX0_init 84 = .ok (.getfield 13, 3) := by decide +kernel
theorem dX0_init_87 : decode cX0_init 87 = .ok (.iload_n 1, 1) := by decide +kernel
theorem dX0_init_88 : decode cX0_init 88 = .ok (.new 11, 3) := by decide +kernel
theorem dX0_init_91 : decode cX0_init 91 = .ok (.dup, 1) := by decide +kernel
theorem dX0_init_92 : decode cX0_init 92 = .ok (.bipush 40, 2) := by decide +kernel
theorem dX0_init_94 : decode cX0_init 94 = .ok (.invokespecial 32, 3) := by decide +kernel
theorem dX0_init_97 : decode cX0_init 97 = .ok (.aastore, 1) := by decide +kernel
theorem dX0_init_98 : decode cX0_init 98 = .ok (.iinc 1 1, 3) := by decide +kernel
theorem dX0_init_101 : decode cX0_init 101 = .ok (.goto (-27), 3) := by decide +kernel
theorem dX0_init_104 : decode cX0_init 104 = .ok (.return_, 1) := by decide +kernel
theorem dX0_clear_0 : decode cX0_clear 0 = .ok (.aload_n 0, 1) := by decide +kernel
theorem dX0_clear_1 : decode cX0_clear 1 = .ok (.iconst 0, 1) := by decide +kernel
theorem dX0_clear_2 : decode cX0_clear 2 = .ok (.putfield 42, 3) := by decide +kernel
theorem dX0_clear_5 : decode cX0_clear 5 = .ok (.return_, 1) := by decide +kernel
theorem dX0_disturbNext_0 : decode cX0_disturbNext 0 = .ok (.iload_n 1, 1) := by decide +kernel
theorem dX0_disturbNext_1 : decode cX0_disturbNext 1 = .ok (.ifCond .lt 30, 3) := by decide +kernel
theorem dX0_disturbNext_4 : decode cX0_disturbNext 4 = .ok (.iload_n 1, 1) := by decide +kernel
theorem dX0_disturbNext_5 : decode cX0_disturbNext 5 = .ok (.iconst 1, 1) := by decide +kernel
theorem dX0_disturbNext_6 : decode cX0_disturbNext 6 = .ok (.if_icmp .gt 25, 3) := by decide +kernel
theorem dX0_disturbNext_9 : decode cX0_disturbNext 9 = .ok (.iload_n 2, 1) := by decide +kernel
theorem dX0_disturbNext_10 : decode cX0_disturbNext 10 = .ok (.ifCond .lt 21, 3) := by decide +kernel
theorem dX0_disturbNext_13 : decode cX0_disturbNext 13 = .ok (.iload_n 2, 1) := by decide +kernel
theorem dX0_disturbNext_14 : decode cX0_disturbNext 14 = .ok (.sipush 320, 3) := by decide +kernel
theorem dX0_disturbNext_17 : decode cX0_disturbNext 17 = .ok (.if_icmp .ge 14, 3) := by decide +kernel
theorem dX0_disturbNext_20 : decode cX0_disturbNext 20 = .ok (.aload_n 0, 1) := by decide +kernel
theorem dX0_disturbNext_21 : decode cX0_disturbNext 21 = .ok (.getfield 26, 3) := by decide +kernel
theorem dX0_disturbNext_24 : decode cX0_disturbNext 24 = .ok (.iload_n 1, 1) := by decide +kernel
theorem dX0_disturbNext_25 : decode cX0_disturbNext 25 = .ok (.iaload, 1) := by decide +kernel
theorem dX0_disturbNext_26 : decode cX0_disturbNext 26 = .ok (.bipush 64, 2) := by decide +kernel
theorem dX0_disturbNext_28 : decode cX0_disturbNext 28 = .ok (.if_icmp .lt 5, 3) := by decide +kernel
theorem dX0_disturbNext_31 : decode cX0_disturbNext 31 = .ok (.iconst 0, 1) := by decide +kernel
theorem dX0_disturbNext_32 : decode cX0_disturbNext 32 = .ok (.ireturn, 1) := by decide +kernel
theorem dX0_disturbNext_33 : decode cX0_disturbNext 33 = .ok (.aload_n 0, 1) := by decide +kernel
theorem dX0_disturbNext_34 : decode cX0_disturbNext 34 = .ok (.getfield 23, 3) := by decide +kernel
theorem dX0_disturbNext_37 : decode cX0_disturbNext 37 = .ok (.iload_n 1, 1) := by decide +kernel
theorem dX0_disturbNext_38 : decode cX0_disturbNext 38 = .ok (.aaload, 1) := by decide +kernel
theorem dX0_disturbNext_39 : decode cX0_disturbNext 39 = .ok (.aload_n 0, 1) := by decide +kernel
theorem dX0_disturbNext_40 : decode cX0_disturbNext 40 = .ok (.getfield 26, 3) := by decide +kernel
theorem dX0_disturbNext_43 : decode cX0_disturbNext 43 = .ok (.iload_n 1, 1) := by decide +kernel
theorem dX0_disturbNext_44 : decode cX0_disturbNext 44 = .ok (.iaload, 1) := by decide +kernel
theorem dX0_disturbNext_45 : decode cX0_disturbNext 45 = .ok (.iload_n 2, 1) := by decide +kernel
theorem dX0_disturbNext_46 : decode cX0_disturbNext 46 = .ok (.iastore, 1) := by decide +kernel
theorem dX0_disturbNext_47 : decode cX0_disturbNext 47 = .ok (.aload_n 0, 1) := by decide +kernel
theorem dX0_disturbNext_48 : decode cX0_disturbNext 48 = .ok (.getfield 26, 3) := by decide +kernel
theorem dX0_disturbNext_51 : decode cX0_disturbNext 51 = .ok (.iload_n 1, 1) := by decide +kernel
theorem dX0_disturbNext_52 : decode cX0_disturbNext 52 = .ok (.dup2, 1) := by decide +kernel
theorem dX0_disturbNext_53 : decode cX0_disturbNext 53 = .ok (.iaload, 1) := by decide +kernel
theorem dX0_disturbNext_54 : decode cX0_disturbNext 54 = .ok (.iconst 1, 1) := by decide +kernel
theorem dX0_disturbNext_55 : decode cX0_disturbNext 55 = .ok (.iadd, 1) := by decide +kernel
theorem dX0_disturbNext_56 : decode cX0_disturbNext 56 = .ok (.iastore, 1) := by decide +kernel
theorem dX0_disturbNext_57 : decode cX0_disturbNext 57 = .ok (.iconst 1, 1) := by decide +kernel
theorem dX0_disturbNext_58 : decode cX0_disturbNext 58 = .ok (.ireturn, 1) := by decide +kernel
theorem dX0_loseNext_0 : decode cX0_loseNext 0 = .ok (.iload_n 1, 1) := by decide +kernel
theorem dX0_loseNext_1 : decode cX0_loseNext 1 = .ok (.ifCond .lt 18, 3) := by decide +kernel
theorem dX0_loseNext_4 : decode cX0_loseNext 4 = .ok (.iload_n 1, 1) := by decide +kernel
theorem dX0_loseNext_5 : decode cX0_loseNext 5 = .ok (.iconst 1, 1) := by decide +kernel
theorem dX0_loseNext_6 : decode cX0_loseNext 6 = .ok (.if_icmp .gt 13, 3) := by decide +kernel
theorem dX0_loseNext_9 : decode cX0_loseNext 9 = .ok (.iload_n 2, 1) := by decide +kernel
theorem dX0_loseNext_10 : decode cX0_loseNext 10 = .ok (.ifCond .lt 9, 3) := by decide +kernel
theorem dX0_loseNext_13 : decode cX0_loseNext 13 = .ok (.iload_n 2, 1) := by decide +kernel
theorem dX0_loseNext_14 : decode cX0_loseNext 14 = .ok (.bipush 100, 2) := by decide +kernel
theorem dX0_loseNext_16 : decode cX0_loseNext 16 = .ok (.if_icmp .le 5, 3) := by decide +kernel
theorem dX0_loseNext_19 : decode cX0_loseNext 19 = .ok (.iconst 0, 1) := by decide +kernel
theorem dX0_loseNext_20 : decode cX0_loseNext 20 = .ok (.ireturn, 1) := by decide +kernel
theorem dX0_loseNext_21 : decode cX0_loseNext 21 = .ok (.aload_n 0, 1) := by decide +kernel
theorem dX0_loseNext_22 : decode cX0_loseNext 22 = .ok (.getfield 29, 3) := by decide +kernel
theorem dX0_loseNext_25 : decode cX0_loseNext 25 = .ok (.iload_n 1, 1) := by decide +kernel
theorem dX0_loseNext_26 : decode cX0_loseNext 26 = .ok (.iload_n 2, 1) := by decide +kernel
theorem dX0_loseNext_27 : decode cX0_loseNext 27 = .ok (.iastore, 1) := by decide +kernel
theorem dX0_loseNext_28 : decode cX0_loseNext 28 = .ok (.iconst 1, 1) := by decide +kernel
theorem dX0_loseNext_29 : decode cX0_loseNext 29 = .ok (.ireturn, 1) := by decide +kernel
theorem dX0_lossesOf_0 : decode cX0_lossesOf 0 = .ok (.iload_n 1, 1) := by decide +kernel
theorem dX0_lossesOf_1 : decode cX0_lossesOf 1 = .ok (.ifCond .eq 8, 3) := by decide +kernel
theorem dX0_lossesOf_4 : decode cX0_lossesOf 4 = .ok (.iload_n 1, 1) := by decide +kernel
theorem dX0_lossesOf_5 : decode cX0_lossesOf 5 = .ok (.iconst 1, 1) := by decide +kernel
theorem dX0_lossesOf_6 : decode cX0_lossesOf 6 = .ok (.if_icmp .ne 12, 3) := by decide +kernel
theorem dX0_lossesOf_9 : decode cX0_lossesOf 9 = .ok (.aload_n 0, 1) := by decide +kernel
theorem dX0_lossesOf_10 : decode cX0_lossesOf 10 = .ok (.getfield 29, 3) := by decide +kernel
theorem dX0_lossesOf_13 : decode cX0_lossesOf 13 = .ok (.iload_n 1, 1) := by decide +kernel
theorem dX0_lossesOf_14 : decode cX0_lossesOf 14 = .ok (.iaload, 1) := by decide +kernel
theorem dX0_lossesOf_15 : decode cX0_lossesOf 15 = .ok (.goto 4, 3) := by decide +kernel
theorem dX0_lossesOf_18 : decode cX0_lossesOf 18 = .ok (.iconst (-1), 1) := by decide +kernel
theorem dX0_lossesOf_19 : decode cX0_lossesOf 19 = .ok (.ireturn, 1) := by decide +kernel
theorem dX0_figure_0 : decode cX0_figure 0 = .ok (.iload_n 1, 1) := by decide +kernel
theorem dX0_figure_1 : decode cX0_figure 1 = .ok (.ifCond .lt 20, 3) := by decide +kernel
theorem dX0_figure_4 : decode cX0_figure 4 = .ok (.iload_n 1, 1) := by decide +kernel
theorem dX0_figure_5 : decode cX0_figure 5 = .ok (.aload_n 0, 1) := by decide +kernel
theorem dX0_figure_6 : decode cX0_figure 6 = .ok (.getfield 42, 3) := by decide +kernel
theorem dX0_figure_9 : decode cX0_figure 9 = .ok (.if_icmp .ge 12, 3) := by decide +kernel
theorem dX0_figure_12 : decode cX0_figure 12 = .ok (.iload_n 1, 1) := by decide +kernel
theorem dX0_figure_13 : decode cX0_figure 13 = .ok (.aload_n 0, 1) := by decide +kernel
theorem dX0_figure_14 : decode cX0_figure 14 = .ok (.getfield 13, 3) := by decide +kernel
theorem dX0_figure_17 : decode cX0_figure 17 = .ok (.arraylength, 1) := by decide +kernel
theorem dX0_figure_18 : decode cX0_figure 18 = .ok (.if_icmp .lt 5, 3) := by decide +kernel
theorem dX0_figure_21 : decode cX0_figure 21 = .ok (.iconst (-1), 1) := by decide +kernel
theorem dX0_figure_22 : decode cX0_figure 22 = .ok (.ireturn, 1) := by decide +kernel
theorem dX0_figure_23 : decode cX0_figure 23 = .ok (.iload_n 2, 1) := by decide +kernel
theorem dX0_figure_24 : decode cX0_figure 24 = .ok (.bipush (-2), 2) := by decide +kernel
theorem dX0_figure_26 : decode cX0_figure 26 = .ok (.if_icmp .ne 10, 3) := by decide +kernel
theorem dX0_figure_29 : decode cX0_figure 29 = .ok (.aload_n 0, 1) := by decide +kernel
theorem dX0_figure_30 : decode cX0_figure 30 = .ok (.getfield 17, 3) := by decide +kernel
theorem dX0_figure_33 : decode cX0_figure 33 = .ok (.iload_n 1, 1) := by decide +kernel
theorem dX0_figure_34 : decode cX0_figure 34 = .ok (.iaload, 1) := by decide +kernel
theorem dX0_figure_35 : decode cX0_figure 35 = .ok (.ireturn, 1) := by decide +kernel
theorem dX0_figure_36 : decode cX0_figure 36 = .ok (.iload_n 2, 1) := by decide +kernel
theorem dX0_figure_37 : decode cX0_figure 37 = .ok (.iconst (-1), 1) := by decide +kernel
theorem dX0_figure_38 : decode cX0_figure 38 = .ok (.if_icmp .ne 15, 3) := by decide +kernel
theorem dX0_figure_41 : decode cX0_figure 41 = .ok (.aload_n 0, 1) := by decide +kernel
theorem dX0_figure_42 : decode cX0_figure 42 = .ok (.getfield 13, 3) := by decide +kernel
theorem dX0_figure_45 : decode cX0_figure 45 = .ok (.iload_n 1, 1) := by decide +kernel
theorem dX0_figure_46 : decode cX0_figure 46 = .ok (.aaload, 1) := by decide +kernel
theorem dX0_figure_47 : decode cX0_figure 47 = .ok (.getfield 46, 3) := by decide +kernel
theorem dX0_figure_50 : decode cX0_figure 50 = .ok (.goto 13, 3) := by decide +kernel
theorem dX0_figure_53 : decode cX0_figure 53 = .ok (.aload_n 0, 1) := by decide +kernel
theorem dX0_figure_54 : decode cX0_figure 54 = .ok (.getfield 13, 3) := by decide +kernel
theorem dX0_figure_57 : decode cX0_figure 57 = .ok (.iload_n 1, 1) := by decide +kernel
theorem dX0_figure_58 : decode cX0_figure 58 = .ok (.aaload, 1) := by decide +kernel
theorem dX0_figure_59 : decode cX0_figure 59 = .ok (.iload_n 2, 1) := by decide +kernel
theorem dX0_figure_60 : decode cX0_figure 60 = .ok (.invokevirtual 49, 3) := by decide +kernel
theorem dX0_figure_63 : decode cX0_figure 63 = .ok (.ireturn, 1) := by decide +kernel
theorem dX1_init_0 : decode cX1_init 0 = .ok (.aload_n 0, 1) := by decide +kernel
theorem dX1_init_1 : decode cX1_init 1 = .ok (.invokespecial 1, 3) := by decide +kernel
theorem dX1_init_4 : decode cX1_init 4 = .ok (.aload_n 0, 1) := by decide +kernel
theorem dX1_init_5 : decode cX1_init 5 = .ok (.sipush 176, 3) := by decide +kernel
theorem dX1_init_8 : decode cX1_init 8 = .ok (.newarray .int, 2) := by decide +kernel
theorem dX1_init_10 : decode cX1_init 10 = .ok (.putfield 9, 3) := by decide +kernel
theorem dX1_init_13 : decode cX1_init 13 = .ok (.aload_n 0, 1) := by decide +kernel
theorem dX1_init_14 : decode cX1_init 14 = .ok (.bipush 16, 2) := by decide +kernel
theorem dX1_init_16 : decode cX1_init 16 = .ok (.newarray .int, 2) := by decide +kernel
theorem dX1_init_18 : decode cX1_init 18 = .ok (.putfield 13, 3) := by decide +kernel
theorem dX1_init_21 : decode cX1_init 21 = .ok (.return_, 1) := by decide +kernel
theorem dX2_init_0 : decode cX2_init 0 = .ok (.aload_n 0, 1) := by decide +kernel
theorem dX2_init_1 : decode cX2_init 1 = .ok (.invokespecial 3, 3) := by decide +kernel
theorem dX2_init_4 : decode cX2_init 4 = .ok (.aload_n 0, 1) := by decide +kernel
theorem dX2_init_5 : decode cX2_init 5 = .ok (.iconst (-1), 1) := by decide +kernel
theorem dX2_init_6 : decode cX2_init 6 = .ok (.putfield 9, 3) := by decide +kernel
theorem dX2_init_9 : decode cX2_init 9 = .ok (.aload_n 0, 1) := by decide +kernel
theorem dX2_init_10 : decode cX2_init 10 = .ok (.new 15, 3) := by decide +kernel
theorem dX2_init_13 : decode cX2_init 13 = .ok (.dup, 1) := by decide +kernel
theorem dX2_init_14 : decode cX2_init 14 = .ok (.bipush 40, 2) := by decide +kernel
theorem dX2_init_16 : decode cX2_init 16 = .ok (.invokespecial 17, 3) := by decide +kernel
theorem dX2_init_19 : decode cX2_init 19 = .ok (.putfield 20, 3) := by decide +kernel
theorem dX2_init_22 : decode cX2_init 22 = .ok (.return_, 1) := by decide +kernel
theorem dX3_init_0 : decode cX3_init 0 = .ok (.aload_n 0, 1) := by decide +kernel
theorem dX3_init_1 : decode cX3_init 1 = .ok (.invokespecial 3, 3) := by decide +kernel
theorem dX3_init_4 : decode cX3_init 4 = .ok (.aload_n 0, 1) := by decide +kernel
theorem dX3_init_5 : decode cX3_init 5 = .ok (.new 9, 3) := by decide +kernel
theorem dX3_init_8 : decode cX3_init 8 = .ok (.dup, 1) := by decide +kernel
theorem dX3_init_9 : decode cX3_init 9 = .ok (.bipush 20, 2) := by decide +kernel
theorem dX3_init_11 : decode cX3_init 11 = .ok (.invokespecial 11, 3) := by decide +kernel
theorem dX3_init_14 : decode cX3_init 14 = .ok (.putfield 14, 3) := by decide +kernel
theorem dX3_init_17 : decode cX3_init 17 = .ok (.aload_n 0, 1) := by decide +kernel
theorem dX3_init_18 : decode cX3_init 18 = .ok (.new 9, 3) := by decide +kernel
theorem dX3_init_21 : decode cX3_init 21 = .ok (.dup, 1) := by decide +kernel
theorem dX3_init_22 : decode cX3_init 22 = .ok (.bipush 31, 2) := by decide +kernel
theorem dX3_init_24 : decode cX3_init 24 = .ok (.invokespecial 11, 3) := by decide +kernel
theorem dX3_init_27 : decode cX3_init 27 = .ok (.putfield 20, 3) := by decide +kernel
theorem dX3_init_30 : decode cX3_init 30 = .ok (.aload_n 0, 1) := by decide +kernel
theorem dX3_init_31 : decode cX3_init 31 = .ok (.new 23, 3) := by decide +kernel
theorem dX3_init_34 : decode cX3_init 34 = .ok (.dup, 1) := by decide +kernel
theorem dX3_init_35 : decode cX3_init 35 = .ok (.invokespecial 25, 3) := by decide +kernel
theorem dX3_init_38 : decode cX3_init 38 = .ok (.putfield 26, 3) := by decide +kernel
theorem dX3_init_41 : decode cX3_init 41 = .ok (.aload_n 0, 1) := by decide +kernel
theorem dX3_init_42 : decode cX3_init 42 = .ok (.new 30, 3) := by decide +kernel
theorem dX3_init_45 : decode cX3_init 45 = .ok (.dup, 1) := by decide +kernel
theorem dX3_init_46 : decode cX3_init 46 = .ok (.invokespecial 32, 3) := by decide +kernel
theorem dX3_init_49 : decode cX3_init 49 = .ok (.putfield 33, 3) := by decide +kernel
theorem dX3_init_52 : decode cX3_init 52 = .ok (.aload_n 0, 1) := by decide +kernel
theorem dX3_init_53 : decode cX3_init 53 = .ok (.new 37, 3) := by decide +kernel
theorem dX3_init_56 : decode cX3_init 56 = .ok (.dup, 1) := by decide +kernel
theorem dX3_init_57 : decode cX3_init 57 = .ok (.invokespecial 39, 3) := by decide +kernel
theorem dX3_init_60 : decode cX3_init 60 = .ok (.putfield 40, 3) := by decide +kernel
theorem dX3_init_63 : decode cX3_init 63 = .ok (.aload_n 0, 1) := by decide +kernel
theorem dX3_init_64 : decode cX3_init 64 = .ok (.new 44, 3) := by decide +kernel
theorem dX3_init_67 : decode cX3_init 67 = .ok (.dup, 1) := by decide +kernel
theorem dX3_init_68 : decode cX3_init 68 = .ok (.invokespecial 46, 3) := by decide +kernel
theorem dX3_init_71 : decode cX3_init 71 = .ok (.putfield 47, 3) := by decide +kernel
theorem dX3_init_74 : decode cX3_init 74 = .ok (.aload_n 0, 1) := by decide +kernel
theorem dX3_init_75 : decode cX3_init 75 = .ok (.new 51, 3) := by decide +kernel
theorem dX3_init_78 : decode cX3_init 78 = .ok (.dup, 1) := by decide +kernel
theorem dX3_init_79 : decode cX3_init 79 = .ok (.invokespecial 53, 3) := by decide +kernel
theorem dX3_init_82 : decode cX3_init 82 = .ok (.putfield 54, 3) := by decide +kernel
theorem dX3_init_85 : decode cX3_init 85 = .ok (.aload_n 0, 1) := by decide +kernel
theorem dX3_init_86 : decode cX3_init 86 = .ok (.new 9, 3) := by decide +kernel
theorem dX3_init_89 : decode cX3_init 89 = .ok (.dup, 1) := by decide +kernel
theorem dX3_init_90 : decode cX3_init 90 = .ok (.bipush 92, 2) := by decide +kernel
theorem dX3_init_92 : decode cX3_init 92 = .ok (.invokespecial 11, 3) := by decide +kernel
theorem dX3_init_95 : decode cX3_init 95 = .ok (.putfield 58, 3) := by decide +kernel
theorem dX3_init_98 : decode cX3_init 98 = .ok (.aload_n 0, 1) := by decide +kernel
theorem dX3_init_99 : decode cX3_init 99 = .ok (.iload_n 1, 1) := by decide +kernel
theorem dX3_init_100 : decode cX3_init 100 = .ok (.putfield 61, 3) := by decide +kernel
theorem dX3_init_103 : decode cX3_init 103 = .ok (.aload_n 0, 1) := by decide +kernel
theorem dX3_init_104 : decode cX3_init 104 = .ok (.lload_n 2, 1) := by decide +kernel
theorem dX3_init_105 : decode cX3_init 105 = .ok (.putfield 65, 3) := by decide +kernel
theorem dX3_init_108 : decode cX3_init 108 = .ok (.aload_n 0, 1) := by decide +kernel
theorem dX3_init_109 : decode cX3_init 109 = .ok (.iload_n 1, 1) := by decide +kernel
theorem dX3_init_110 : decode cX3_init 110 = .ok (.putfield 69, 3) := by decide +kernel
theorem dX3_init_113 : decode cX3_init 113 = .ok (.aload_n 0, 1) := by decide +kernel
theorem dX3_init_114 : decode cX3_init 114 = .ok (.new 72, 3) := by decide +kernel
theorem dX3_init_117 : decode cX3_init 117 = .ok (.dup, 1) := by decide +kernel
theorem dX3_init_118 : decode cX3_init 118 = .ok (.aload 4, 2) := by decide +kernel
theorem dX3_init_120 : decode cX3_init 120 = .ok (.invokespecial 74, 3) := by decide +kernel
theorem dX3_init_123 : decode cX3_init 123 = .ok (.putfield 77, 3) := by decide +kernel
theorem dX3_init_126 : decode cX3_init 126 = .ok (.aload_n 0, 1) := by decide +kernel
theorem dX3_init_127 : decode cX3_init 127 = .ok (.new 81, 3) := by decide +kernel
theorem dX3_init_130 : decode cX3_init 130 = .ok (.dup, 1) := by decide +kernel
theorem dX3_init_131 : decode cX3_init 131 = .ok (.aload 4, 2) := by decide +kernel
theorem dX3_init_133 : decode cX3_init 133 = .ok (.invokespecial 83, 3) := by decide +kernel
theorem dX3_init_136 : decode cX3_init 136 = .ok (.putfield 84, 3) := by decide +kernel
theorem dX3_init_139 : decode cX3_init 139 = .ok (.return_, 1) := by decide +kernel
theorem dX3_inLink_0 : decode cX3_inLink 0 = .ok (.aload_n 0, 1) := by decide +kernel
theorem dX3_inLink_1 : decode cX3_inLink 1 = .ok (.getfield 93, 3) := by decide +kernel
theorem dX3_inLink_4 : decode cX3_inLink 4 = .ok (.iconst 4, 1) := by decide +kernel
theorem dX3_inLink_5 : decode cX3_inLink 5 = .ok (.if_icmp .eq 11, 3) := by decide +kernel
theorem dX3_inLink_8 : decode cX3_inLink 8 = .ok (.aload_n 0, 1) := by decide +kernel
theorem dX3_inLink_9 : decode cX3_inLink 9 = .ok (.getfield 93, 3) := by decide +kernel
theorem dX3_inLink_12 : decode cX3_inLink 12 = .ok (.iconst 5, 1) := by decide +kernel
theorem dX3_inLink_13 : decode cX3_inLink 13 = .ok (.if_icmp .ne 7, 3) := by decide +kernel
theorem dX3_inLink_16 : decode cX3_inLink 16 = .ok (.iconst 1, 1) := by decide +kernel
theorem dX3_inLink_17 : decode cX3_inLink 17 = .ok (.goto 4, 3) := by decide +kernel
theorem dX3_inLink_20 : decode cX3_inLink 20 = .ok (.iconst 0, 1) := by decide +kernel
theorem dX3_inLink_21 : decode cX3_inLink 21 = .ok (.ireturn, 1) := by decide +kernel
theorem dX3_hasEventAt_0 : decode cX3_hasEventAt 0 = .ok (.aload_n 0, 1) := by decide +kernel
theorem dX3_hasEventAt_1 : decode cX3_hasEventAt 1 = .ok (.invokevirtual 96, 3) := by decide +kernel
theorem dX3_hasEventAt_4 : decode cX3_hasEventAt 4 = .ok (.ifCond .eq 18, 3) := by decide +kernel
theorem dX3_hasEventAt_7 : decode cX3_hasEventAt 7 = .ok (.aload_n 0, 1) := by decide +kernel
theorem dX3_hasEventAt_8 : decode cX3_hasEventAt 8 = .ok (.getfield 26, 3) := by decide +kernel
theorem dX3_hasEventAt_11 : decode cX3_hasEventAt 11 = .ok (.getfield 100, 3) := by decide +kernel
theorem dX3_hasEventAt_14 : decode cX3_hasEventAt 14 = .ok (.iload_n 1, 1) := by decide +kernel
theorem dX3_hasEventAt_15 : decode cX3_hasEventAt 15 = .ok (.if_icmp .ne 7, 3) := by decide +kernel
theorem dX3_hasEventAt_18 : decode cX3_hasEventAt 18 = .ok (.iconst 1, 1) := by decide +kernel
theorem dX3_hasEventAt_19 : decode cX3_hasEventAt 19 = .ok (.goto 4, 3) := by decide +kernel
theorem dX3_hasEventAt_22 : decode cX3_hasEventAt 22 = .ok (.iconst 0, 1) := by decide +kernel
theorem dX3_hasEventAt_23 : decode cX3_hasEventAt 23 = .ok (.ireturn, 1) := by decide +kernel
theorem dX4_init_0 : decode cX4_init 0 = .ok (.aload_n 0, 1) := by decide +kernel
theorem dX4_init_1 : decode cX4_init 1 = .ok (.invokespecial 3, 3) := by decide +kernel
theorem dX4_init_4 : decode cX4_init 4 = .ok (.aload_n 0, 1) := by decide +kernel
theorem dX4_init_5 : decode cX4_init 5 = .ok (.bipush 32, 2) := by decide +kernel
theorem dX4_init_7 : decode cX4_init 7 = .ok (.newarray .int, 2) := by decide +kernel
theorem dX4_init_9 : decode cX4_init 9 = .ok (.putfield 11, 3) := by decide +kernel
theorem dX4_init_12 : decode cX4_init 12 = .ok (.aload_n 0, 1) := by decide +kernel
theorem dX4_init_13 : decode cX4_init 13 = .ok (.bipush 32, 2) := by decide +kernel
theorem dX4_init_15 : decode cX4_init 15 = .ok (.iconst 3, 1) := by decide +kernel
theorem dX4_init_16 : decode cX4_init 16 = .ok (.multianewarray 15 2, 4) := by decide +kernel
theorem dX4_init_20 : decode cX4_init 20 = .ok (.putfield 17, 3) := by decide +kernel
theorem dX4_init_23 : decode cX4_init 23 = .ok (.aload_n 0, 1) := by decide +kernel
theorem dX4_init_24 : decode cX4_init 24 = .ok (.bipush 32, 2) := by decide +kernel
theorem dX4_init_26 : decode cX4_init 26 = .ok (.anewarray 20, 3) := by decide +kernel
theorem dX4_init_29 : decode cX4_init 29 = .ok (.putfield 22, 3) := by decide +kernel
theorem dX4_init_32 : decode cX4_init 32 = .ok (.iconst 0, 1) := by decide +kernel
theorem dX4_init_33 : decode cX4_init 33 = .ok (.istore_n 1, 1) := by decide +kernel
theorem dX4_init_34 : decode cX4_init 34 = .ok (.iload_n 1, 1) := by decide +kernel
theorem dX4_init_35 : decode cX4_init 35 = .ok (.aload_n 0, 1) := by decide +kernel
theorem dX4_init_36 : decode cX4_init 36 = .ok (.getfield 22, 3) := by decide +kernel
theorem dX4_init_39 : decode cX4_init 39 = .ok (.arraylength, 1) := by decide +kernel
theorem dX4_init_40 : decode cX4_init 40 = .ok (.if_icmp .ge 24, 3) := by decide +kernel
theorem dX4_init_43 : decode cX4_init 43 = .ok (.aload_n 0, 1) := by decide +kernel
theorem dX4_init_44 : decode cX4_init 44 = .ok (.getfield 22, 3) := by decide +kernel
theorem dX4_init_47 : decode cX4_init 47 = .ok (.iload_n 1, 1) := by decide +kernel
theorem dX4_init_48 : decode cX4_init 48 = .ok (.new 20, 3) := by decide +kernel
theorem dX4_init_51 : decode cX4_init 51 = .ok (.dup, 1) := by decide +kernel
theorem dX4_init_52 : decode cX4_init 52 = .ok (.bipush 40, 2) := by decide +kernel
theorem dX4_init_54 : decode cX4_init 54 = .ok (.invokespecial 26, 3) := by decide +kernel
theorem dX4_init_57 : decode cX4_init 57 = .ok (.aastore, 1) := by decide +kernel
theorem dX4_init_58 : decode cX4_init 58 = .ok (.iinc 1 1, 3) := by decide +kernel
theorem dX4_init_61 : decode cX4_init 61 = .ok (.goto (-27), 3) := by decide +kernel
theorem dX4_init_64 : decode cX4_init 64 = .ok (.return_, 1) := by decide +kernel
theorem dX4_figure_0 : decode cX4_figure 0 = .ok (.aload_n 0, 1) := by decide +kernel
theorem dX4_figure_1 : decode cX4_figure 1 = .ok (.getfield 29, 3) := by decide +kernel
theorem dX4_figure_4 : decode cX4_figure 4 = .ok (.ifCond .ne 5, 3) := by decide +kernel
theorem dX4_figure_7 : decode cX4_figure 7 = .ok (.iconst (-1), 1) := by decide +kernel
theorem dX4_figure_8 : decode cX4_figure 8 = .ok (.ireturn, 1) := by decide +kernel
theorem dX4_figure_9 : decode cX4_figure 9 = .ok (.iload_n 1, 1) := by decide +kernel
theorem dX4_figure_10 : decode cX4_figure 10 = .ok (.ifCond .ne 13, 3) := by decide +kernel
theorem dX4_figure_13 : decode cX4_figure 13 = .ok (.aload_n 0, 1) := by decide +kernel
theorem dX4_figure_14 : decode cX4_figure 14 = .ok (.getfield 11, 3) := by decide +kernel
theorem dX4_figure_17 : decode cX4_figure 17 = .ok (.aload_n 0, 1) := by decide +kernel
theorem dX4_figure_18 : decode cX4_figure 18 = .ok (.getfield 36, 3) := by decide +kernel
theorem dX4_figure_21 : decode cX4_figure 21 = .ok (.iaload, 1) := by decide +kernel
theorem dX4_figure_22 : decode cX4_figure 22 = .ok (.ireturn, 1) := by decide +kernel
theorem dX4_figure_23 : decode cX4_figure 23 = .ok (.iload_n 1, 1) := by decide +kernel
theorem dX4_figure_24 : decode cX4_figure 24 = .ok (.iconst 1, 1) := by decide +kernel
theorem dX4_figure_25 : decode cX4_figure 25 = .ok (.if_icmp .lt 22, 3) := by decide +kernel
theorem dX4_figure_28 : decode cX4_figure 28 = .ok (.iload_n 1, 1) := by decide +kernel
theorem dX4_figure_29 : decode cX4_figure 29 = .ok (.iconst 3, 1) := by decide +kernel
theorem dX4_figure_30 : decode cX4_figure 30 = .ok (.if_icmp .gt 17, 3) := by decide +kernel
theorem dX4_figure_33 : decode cX4_figure 33 = .ok (.aload_n 0, 1) := by decide +kernel
theorem dX4_figure_34 : decode cX4_figure 34 = .ok (.getfield 17, 3) := by decide +kernel
theorem dX4_figure_37 : decode cX4_figure 37 = .ok (.aload_n 0, 1) := by decide +kernel
theorem dX4_figure_38 : decode cX4_figure 38 = .ok (.getfield 36, 3) := by decide +kernel
theorem dX4_figure_41 : decode cX4_figure 41 = .ok (.aaload, 1) := by decide +kernel
theorem dX4_figure_42 : decode cX4_figure 42 = .ok (.iload_n 1, 1) := by decide +kernel
theorem dX4_figure_43 : decode cX4_figure 43 = .ok (.iconst 1, 1) := by decide +kernel
theorem dX4_figure_44 : decode cX4_figure 44 = .ok (.isub, 1) := by decide +kernel
theorem dX4_figure_45 : decode cX4_figure 45 = .ok (.iaload, 1) := by decide +kernel
theorem dX4_figure_46 : decode cX4_figure 46 = .ok (.ireturn, 1) := by decide +kernel
theorem dX4_figure_47 : decode cX4_figure 47 = .ok (.iload_n 1, 1) := by decide +kernel
theorem dX4_figure_48 : decode cX4_figure 48 = .ok (.iconst 4, 1) := by decide +kernel
theorem dX4_figure_49 : decode cX4_figure 49 = .ok (.if_icmp .ne 16, 3) := by decide +kernel
theorem dX4_figure_52 : decode cX4_figure 52 = .ok (.aload_n 0, 1) := by decide +kernel
theorem dX4_figure_53 : decode cX4_figure 53 = .ok (.getfield 22, 3) := by decide +kernel
theorem dX4_figure_56 : decode cX4_figure 56 = .ok (.aload_n 0, 1) := by decide +kernel
theorem dX4_figure_57 : decode cX4_figure 57 = .ok (.getfield 36, 3) := by decide +kernel
theorem dX4_figure_60 : decode cX4_figure 60 = .ok (.aaload, 1) := by decide +kernel
theorem dX4_figure_61 : decode cX4_figure 61 = .ok (.getfield 50, 3) := by decide +kernel
theorem dX4_figure_64 : decode cX4_figure 64 = .ok (.ireturn, 1) := by decide +kernel
theorem dX4_figure_65 : decode cX4_figure 65 = .ok (.iload_n 1, 1) := by decide +kernel
theorem dX4_figure_66 : decode cX4_figure 66 = .ok (.bipush 10, 2) := by decide +kernel
theorem dX4_figure_68 : decode cX4_figure 68 = .ok (.if_icmp .lt 22, 3) := by decide +kernel
theorem dX4_figure_71 : decode cX4_figure 71 = .ok (.aload_n 0, 1) := by decide +kernel
theorem dX4_figure_72 : decode cX4_figure 72 = .ok (.getfield 22, 3) := by decide +kernel
theorem dX4_figure_75 : decode cX4_figure 75 = .ok (.aload_n 0, 1) := by decide +kernel
theorem dX4_figure_76 : decode cX4_figure 76 = .ok (.getfield 36, 3) := by decide +kernel
theorem dX4_figure_79 : decode cX4_figure 79 = .ok (.aaload, 1) := by decide +kernel
theorem dX4_figure_80 : decode cX4_figure 80 = .ok (.iload_n 1, 1) := by decide +kernel
theorem dX4_figure_81 : decode cX4_figure 81 = .ok (.bipush 10, 2) := by decide +kernel
theorem dX4_figure_83 : decode cX4_figure 83 = .ok (.isub, 1) := by decide +kernel
theorem dX4_figure_84 : decode cX4_figure 84 = .ok (.invokevirtual 53, 3) := by decide +kernel
theorem dX4_figure_87 : decode cX4_figure 87 = .ok (.goto 4, 3) := by decide +kernel
theorem dX4_figure_90 : decode cX4_figure 90 = .ok (.iconst (-1), 1) := by decide +kernel
theorem dX4_figure_91 : decode cX4_figure 91 = .ok (.ireturn, 1) := by decide +kernel
theorem dX4_dropFirst_0 : decode cX4_dropFirst 0 = .ok (.aload_n 0, 1) := by decide +kernel
theorem dX4_dropFirst_1 : decode cX4_dropFirst 1 = .ok (.getfield 29, 3) := by decide +kernel
theorem dX4_dropFirst_4 : decode cX4_dropFirst 4 = .ok (.ifCond .ne 5, 3) := by decide +kernel
theorem dX4_dropFirst_7 : decode cX4_dropFirst 7 = .ok (.iconst 0, 1) := by decide +kernel
theorem dX4_dropFirst_8 : decode cX4_dropFirst 8 = .ok (.ireturn, 1) := by decide +kernel
theorem dX4_dropFirst_9 : decode cX4_dropFirst 9 = .ok (.aload_n 0, 1) := by decide +kernel
theorem dX4_dropFirst_10 : decode cX4_dropFirst 10 = .ok (.aload_n 0, 1) := by decide +kernel
theorem dX4_dropFirst_11 : decode cX4_dropFirst 11 = .ok (.getfield 36, 3) := by decide +kernel
theorem dX4_dropFirst_14 : decode cX4_dropFirst 14 = .ok (.iconst 1, 1) := by decide +kernel
theorem dX4_dropFirst_15 : decode cX4_dropFirst 15 = .ok (.iadd, 1) := by decide +kernel
theorem dX4_dropFirst_16 : decode cX4_dropFirst 16 = .ok (.bipush 32, 2) := by decide +kernel
theorem dX4_dropFirst_18 : decode cX4_dropFirst 18 = .ok (.irem, 1) := by decide +kernel
theorem dX4_dropFirst_19 : decode cX4_dropFirst 19 = .ok (.putfield 36, 3) := by decide +kernel
theorem dX4_dropFirst_22 : decode cX4_dropFirst 22 = .ok (.aload_n 0, 1) := by decide +kernel
theorem dX4_dropFirst_23 : decode cX4_dropFirst 23 = .ok (.dup, 1) := by decide +kernel
theorem dX4_dropFirst_24 : decode cX4_dropFirst 24 = .ok (.getfield 29, 3) := by decide +kernel
theorem dX4_dropFirst_27 : decode cX4_dropFirst 27 = .ok (.iconst 1, 1) := by decide +kernel
theorem dX4_dropFirst_28 : decode cX4_dropFirst 28 = .ok (.isub, 1) := by decide +kernel
theorem dX4_dropFirst_29 : decode cX4_dropFirst 29 = .ok (.putfield 29, 3) := by decide +kernel
theorem dX4_dropFirst_32 : decode cX4_dropFirst 32 = .ok (.iconst 1, 1) := by decide +kernel
theorem dX4_dropFirst_33 : decode cX4_dropFirst 33 = .ok (.ireturn, 1) := by decide +kernel
theorem dX5_init_0 : decode cX5_init 0 = .ok (.aload_n 0, 1) := by decide +kernel
theorem dX5_init_1 : decode cX5_init 1 = .ok (.invokespecial 1, 3) := by decide +kernel
theorem dX5_init_4 : decode cX5_init 4 = .ok (.aload_n 0, 1) := by decide +kernel
theorem dX5_init_5 : decode cX5_init 5 = .ok (.bipush 16, 2) := by decide +kernel
theorem dX5_init_7 : decode cX5_init 7 = .ok (.newarray .int, 2) := by decide +kernel
theorem dX5_init_9 : decode cX5_init 9 = .ok (.putfield 7, 3) := by decide +kernel
theorem dX5_init_12 : decode cX5_init 12 = .ok (.aload_n 0, 1) := by decide +kernel
theorem dX5_init_13 : decode cX5_init 13 = .ok (.bipush 16, 2) := by decide +kernel
theorem dX5_init_15 : decode cX5_init 15 = .ok (.newarray .int, 2) := by decide +kernel
theorem dX5_init_17 : decode cX5_init 17 = .ok (.putfield 13, 3) := by decide +kernel
theorem dX5_init_20 : decode cX5_init 20 = .ok (.aload_n 0, 1) := by decide +kernel
theorem dX5_init_21 : decode cX5_init 21 = .ok (.bipush 16, 2) := by decide +kernel
theorem dX5_init_23 : decode cX5_init 23 = .ok (.newarray .int, 2) := by decide +kernel
theorem dX5_init_25 : decode cX5_init 25 = .ok (.putfield 16, 3) := by decide +kernel
theorem dX5_init_28 : decode cX5_init 28 = .ok (.aload_n 0, 1) := by decide +kernel
theorem dX5_init_29 : decode cX5_init 29 = .ok (.bipush 8, 2) := by decide +kernel
theorem dX5_init_31 : decode cX5_init 31 = .ok (.newarray .int, 2) := by decide +kernel
theorem dX5_init_33 : decode cX5_init 33 = .ok (.putfield 19, 3) := by decide +kernel
theorem dX5_init_36 : decode cX5_init 36 = .ok (.aload_n 0, 1) := by decide +kernel
theorem dX5_init_37 : decode cX5_init 37 = .ok (.bipush 16, 2) := by decide +kernel
theorem dX5_init_39 : decode cX5_init 39 = .ok (.newarray .int, 2) := by decide +kernel
theorem dX5_init_41 : decode cX5_init 41 = .ok (.putfield 22, 3) := by decide +kernel
theorem dX5_init_44 : decode cX5_init 44 = .ok (.aload_n 0, 1) := by decide +kernel
theorem dX5_init_45 : decode cX5_init 45 = .ok (.bipush 16, 2) := by decide +kernel
theorem dX5_init_47 : decode cX5_init 47 = .ok (.newarray .int, 2) := by decide +kernel
theorem dX5_init_49 : decode cX5_init 49 = .ok (.putfield 25, 3) := by decide +kernel
theorem dX5_init_52 : decode cX5_init 52 = .ok (.aload_n 0, 1) := by decide +kernel
theorem dX5_init_53 : decode cX5_init 53 = .ok (.aload_n 1, 1) := by decide +kernel
theorem dX5_init_54 : decode cX5_init 54 = .ok (.putfield 28, 3) := by decide +kernel
theorem dX5_init_57 : decode cX5_init 57 = .ok (.return_, 1) := by decide +kernel
theorem dX6_init_0 : decode cX6_init 0 = .ok (.aload_n 0, 1) := by decide +kernel
theorem dX6_init_1 : decode cX6_init 1 = .ok (.invokespecial 3, 3) := by decide +kernel
theorem dX6_init_4 : decode cX6_init 4 = .ok (.aload_n 0, 1) := by decide +kernel
theorem dX6_init_5 : decode cX6_init 5 = .ok (.iconst (-1), 1) := by decide +kernel
theorem dX6_init_6 : decode cX6_init 6 = .ok (.putfield 9, 3) := by decide +kernel
theorem dX6_init_9 : decode cX6_init 9 = .ok (.aload_n 0, 1) := by decide +kernel
theorem dX6_init_10 : decode cX6_init 10 = .ok (.iconst (-1), 1) := by decide +kernel
theorem dX6_init_11 : decode cX6_init 11 = .ok (.putfield 15, 3) := by decide +kernel
theorem dX6_init_14 : decode cX6_init 14 = .ok (.aload_n 0, 1) := by decide +kernel
theorem dX6_init_15 : decode cX6_init 15 = .ok (.iconst (-1), 1) := by decide +kernel
theorem dX6_init_16 : decode cX6_init 16 = .ok (.putfield 18, 3) := by decide +kernel
theorem dX6_init_19 : decode cX6_init 19 = .ok (.return_, 1) := by decide +kernel
theorem dX6_isProper_0 : decode cX6_isProper 0 = .ok (.iload_n 0, 1) := by decide +kernel
theorem dX6_isProper_1 : decode cX6_isProper 1 = .ok (.iconst 2, 1) := by decide +kernel
theorem dX6_isProper_2 : decode cX6_isProper 2 = .ok (.if_icmp .lt 44, 3) := by decide +kernel
theorem dX6_isProper_5 : decode cX6_isProper 5 = .ok (.iload_n 0, 1) := by decide +kernel
theorem dX6_isProper_6 : decode cX6_isProper 6 = .ok (.bipush 50, 2) := by decide +kernel
theorem dX6_isProper_8 : decode cX6_isProper 8 = .ok (.if_icmp .gt 38, 3) := by decide +kernel
theorem dX6_isProper_11 : decode cX6_isProper 11 = .ok (.iload_n 1, 1) := by decide +kernel
theorem dX6_isProper_12 : decode cX6_isProper 12 = .ok (.bipush 10, 2) := by decide +kernel
theorem dX6_isProper_14 : decode cX6_isProper 14 = .ok (.if_icmp .lt 32, 3) := by decide +kernel
theorem dX6_isProper_17 : decode cX6_isProper 17 = .ok (.iload_n 1, 1) := by decide +kernel
theorem dX6_isProper_18 : decode cX6_isProper 18 = .ok (.sipush 2000, 3) := by decide +kernel
theorem dX6_isProper_21 : decode cX6_isProper 21 = .ok (.if_icmp .gt 25, 3) := by decide +kernel
theorem dX6_isProper_24 : decode cX6_isProper 24 = .ok (.iload_n 2, 1) := by decide +kernel
theorem dX6_isProper_25 : decode cX6_isProper 25 = .ok (.iconst 5, 1) := by decide +kernel
theorem dX6_isProper_26 : decode cX6_isProper 26 = .ok (.if_icmp .lt 20, 3) := by decide +kernel
theorem dX6_isProper_29 : decode cX6_isProper 29 = .ok (.iload_n 2, 1) := by decide +kernel
theorem dX6_isProper_30 : decode cX6_isProper 30 = .ok (.bipush 16, 2) := by decide +kernel
theorem dX6_isProper_32 : decode cX6_isProper 32 = .ok (.if_icmp .gt 14, 3) := by decide +kernel
theorem dX6_isProper_35 : decode cX6_isProper 35 = .ok (.lload_n 3, 1) := by decide +kernel
theorem dX6_isProper_36 : decode cX6_isProper 36 = .ok (.invokestatic 21, 3) := by decide +kernel
theorem dX6_isProper_39 : decode cX6_isProper 39 = .ok (.ifCond .eq 7, 3) := by decide +kernel
theorem dX6_isProper_42 : decode cX6_isProper 42 = .ok (.iconst 1, 1) := by decide +kernel
theorem dX6_isProper_43 : decode cX6_isProper 43 = .ok (.goto 4, 3) := by decide +kernel
theorem dX6_isProper_46 : decode cX6_isProper 46 = .ok (.iconst 0, 1) := by decide +kernel
theorem dX6_isProper_47 : decode cX6_isProper 47 = .ok (.ireturn, 1) := by decide +kernel
theorem dX6_isProperMap_0 : decode cX6_isProperMap 0 = .ok (.lload_n 0, 1) := by decide +kernel
theorem dX6_isProperMap_1 : decode cX6_isProperMap 1 = .ok (.bipush 37, 2) := by decide +kernel
theorem dX6_isProperMap_3 : decode cX6_isProperMap 3 = .ok (.lushr, 1) := by decide +kernel
theorem dX6_isProperMap_4 : decode cX6_isProperMap 4 = .ok (.lconst 0, 1) := by decide +kernel
theorem dX6_isProperMap_5 : decode cX6_isProperMap 5 = .ok (.lcmp, 1) := by decide +kernel
theorem dX6_isProperMap_6 : decode cX6_isProperMap 6 = .ok (.ifCond .ne 15, 3) := by decide +kernel
theorem dX6_isProperMap_9 : decode cX6_isProperMap 9 = .ok (.lload_n 0, 1) := by decide +kernel
theorem dX6_isProperMap_10 : decode cX6_isProperMap 10 = .ok (.invokestatic 25, 3) := by decide +kernel
theorem dX6_isProperMap_13 : decode cX6_isProperMap 13 = .ok (.iconst 2, 1) := by decide +kernel
theorem dX6_isProperMap_14 : decode cX6_isProperMap 14 = .ok (.if_icmp .lt 7, 3) := by decide +kernel
theorem dX6_isProperMap_17 : decode cX6_isProperMap 17 = .ok (.iconst 1, 1) := by decide +kernel
theorem dX6_isProperMap_18 : decode cX6_isProperMap 18 = .ok (.goto 4, 3) := by decide +kernel
theorem dX6_isProperMap_21 : decode cX6_isProperMap 21 = .ok (.iconst 0, 1) := by decide +kernel
theorem dX6_isProperMap_22 : decode cX6_isProperMap 22 = .ok (.ireturn, 1) := by decide +kernel
theorem dX6_arrange_0 : decode cX6_arrange 0 = .ok (.aload_n 0, 1) := by decide +kernel
theorem dX6_arrange_1 : decode cX6_arrange 1 = .ok (.iload_n 1, 1) := by decide +kernel
theorem dX6_arrange_2 : decode cX6_arrange 2 = .ok (.putfield 31, 3) := by decide +kernel
theorem dX6_arrange_5 : decode cX6_arrange 5 = .ok (.aload_n 0, 1) := by decide +kernel
theorem dX6_arrange_6 : decode cX6_arrange 6 = .ok (.iload_n 2, 1) := by decide +kernel
theorem dX6_arrange_7 : decode cX6_arrange 7 = .ok (.putfield 34, 3) := by decide +kernel
theorem dX6_arrange_10 : decode cX6_arrange 10 = .ok (.aload_n 0, 1) := by decide +kernel
theorem dX6_arrange_11 : decode cX6_arrange 11 = .ok (.iload_n 3, 1) := by decide +kernel
theorem dX6_arrange_12 : decode cX6_arrange 12 = .ok (.putfield 37, 3) := by decide +kernel
theorem dX6_arrange_15 : decode cX6_arrange 15 = .ok (.aload_n 0, 1) := by decide +kernel
theorem dX6_arrange_16 : decode cX6_arrange 16 = .ok (.lload 4, 2) := by decide +kernel
theorem dX6_arrange_18 : decode cX6_arrange 18 = .ok (.putfield 40, 3) := by decide +kernel
theorem dX6_arrange_21 : decode cX6_arrange 21 = .ok (.return_, 1) := by decide +kernel
theorem dX7_init_0 : decode cX7_init 0 = .ok (.aload_n 0, 1) := by decide +kernel
theorem dX7_init_1 : decode cX7_init 1 = .ok (.invokespecial 3, 3) := by decide +kernel
theorem dX7_init_4 : decode cX7_init 4 = .ok (.aload_n 0, 1) := by decide +kernel
theorem dX7_init_5 : decode cX7_init 5 = .ok (.new 9, 3) := by decide +kernel
theorem dX7_init_8 : decode cX7_init 8 = .ok (.dup, 1) := by decide +kernel
theorem dX7_init_9 : decode cX7_init 9 = .ok (.bipush 31, 2) := by decide +kernel
theorem dX7_init_11 : decode cX7_init 11 = .ok (.invokespecial 11, 3) := by decide +kernel
theorem dX7_init_14 : decode cX7_init 14 = .ok (.putfield 14, 3) := by decide +kernel
theorem dX7_init_17 : decode cX7_init 17 = .ok (.aload_n 0, 1) := by decide +kernel
theorem dX7_init_18 : decode cX7_init 18 = .ok (.bipush 6, 2) := by decide +kernel
theorem dX7_init_20 : decode cX7_init 20 = .ok (.anewarray 9, 3) := by decide +kernel
theorem dX7_init_23 : decode cX7_init 23 = .ok (.putfield 20, 3) := by decide +kernel
theorem dX7_init_26 : decode cX7_init 26 = .ok (.aload_n 0, 1) := by decide +kernel
theorem dX7_init_27 : decode cX7_init 27 = .ok (.bipush 8, 2) := by decide +kernel
theorem dX7_init_29 : decode cX7_init 29 = .ok (.anewarray 9, 3) := by decide +kernel
theorem dX7_init_32 : decode cX7_init 32 = .ok (.putfield 24, 3) := by decide +kernel
theorem dX7_init_35 : decode cX7_init 35 = .ok (.aload_n 0, 1) := by decide +kernel
theorem dX7_init_36 : decode cX7_init 36 = .ok (.new 9, 3) := by decide +kernel
theorem dX7_init_39 : decode cX7_init 39 = .ok (.dup, 1) := by decide +kernel
theorem dX7_init_40 : decode cX7_init 40 = .ok (.bipush 96, 2) := by decide +kernel
theorem dX7_init_42 : decode cX7_init 42 = .ok (.invokespecial 11, 3) := by decide +kernel
theorem dX7_init_45 : decode cX7_init 45 = .ok (.putfield 27, 3) := by decide +kernel
theorem dX7_init_48 : decode cX7_init 48 = .ok (.aload_n 0, 1) := by decide +kernel
theorem dX7_init_49 : decode cX7_init 49 = .ok (.new 9, 3) := by decide +kernel
theorem dX7_init_52 : decode cX7_init 52 = .ok (.dup, 1) := by decide +kernel
theorem dX7_init_53 : decode cX7_init 53 = .ok (.bipush 92, 2) := by decide +kernel
theorem dX7_init_55 : decode cX7_init 55 = .ok (.invokespecial 11, 3) := by decide +kernel
theorem dX7_init_58 : decode cX7_init 58 = .ok (.putfield 30, 3) := by decide +kernel
theorem dX7_init_61 : decode cX7_init 61 = .ok (.aload_n 0, 1) := by decide +kernel
theorem dX7_init_62 : decode cX7_init 62 = .ok (.new 9, 3) := by decide +kernel
theorem dX7_init_65 : decode cX7_init 65 = .ok (.dup, 1) := by decide +kernel
theorem dX7_init_66 : decode cX7_init 66 = .ok (.bipush 31, 2) := by decide +kernel
theorem dX7_init_68 : decode cX7_init 68 = .ok (.invokespecial 11, 3) := by decide +kernel
theorem dX7_init_71 : decode cX7_init 71 = .ok (.putfield 33, 3) := by decide +kernel
theorem dX7_init_74 : decode cX7_init 74 = .ok (.iconst 0, 1) := by decide +kernel
theorem dX7_init_75 : decode cX7_init 75 = .ok (.istore_n 1, 1) := by decide +kernel
theorem dX7_init_76 : decode cX7_init 76 = .ok (.iload_n 1, 1) := by decide +kernel
theorem dX7_init_77 : decode cX7_init 77 = .ok (.aload_n 0, 1) := by decide +kernel
theorem dX7_init_78 : decode cX7_init 78 = .ok (.getfield 20, 3) := by decide +kernel
theorem dX7_init_81 : decode cX7_init 81 = .ok (.arraylength, 1) := by decide +kernel
theorem dX7_init_82 : decode cX7_init 82 = .ok (.if_icmp .ge 24, 3) := by decide +kernel
theorem dX7_init_85 : decode cX7_init 85 = .ok (.aload_n 0, 1) := by decide +kernel
theorem dX7_init_86 : decode cX7_init 86 = .ok (.getfield 20, 3) := by decide +kernel
theorem dX7_init_89 : decode cX7_init 89 = .ok (.iload_n 1, 1) := by decide +kernel
theorem dX7_init_90 : decode cX7_init 90 = .ok (.new 9, 3) := by decide +kernel
theorem dX7_init_93 : decode cX7_init 93 = .ok (.dup, 1) := by decide +kernel
theorem dX7_init_94 : decode cX7_init 94 = .ok (.bipush 27, 2) := by decide +kernel
theorem dX7_init_96 : decode cX7_init 96 = .ok (.invokespecial 11, 3) := by decide +kernel
theorem dX7_init_99 : decode cX7_init 99 = .ok (.aastore, 1) := by decide +kernel
theorem dX7_init_100 : decode cX7_init 100 = .ok (.iinc 1 1, 3) := by decide +kernel
theorem dX7_init_103 : decode cX7_init 103 = .ok (.goto (-27), 3) := by decide +kernel
theorem dX7_init_106 : decode cX7_init 106 = .ok (.iconst 0, 1) := by decide +kernel
theorem dX7_init_107 : decode cX7_init 107 = .ok (.istore_n 1, 1) := by decide +kernel
theorem dX7_init_108 : decode cX7_init 108 = .ok (.iload_n 1, 1) := by decide +kernel
theorem dX7_init_109 : decode cX7_init 109 = .ok (.aload_n 0, 1) := by decide +kernel
theorem dX7_init_110 : decode cX7_init 110 = .ok (.getfield 24, 3) := by decide +kernel
theorem dX7_init_113 : decode cX7_init 113 = .ok (.arraylength, 1) := by decide +kernel
theorem dX7_init_114 : decode cX7_init 114 = .ok (.if_icmp .ge 24, 3) := by decide +kernel
theorem dX7_init_117 : decode cX7_init 117 = .ok (.aload_n 0, 1) := by decide +kernel
theorem dX7_init_118 : decode cX7_init 118 = .ok (.getfield 24, 3) := by decide +kernel
theorem dX7_init_121 : decode cX7_init 121 = .ok (.iload_n 1, 1) := by decide +kernel
theorem dX7_init_122 : decode cX7_init 122 = .ok (.new 9, 3) := by decide +kernel
theorem dX7_init_125 : decode cX7_init 125 = .ok (.dup, 1) := by decide +kernel
theorem dX7_init_126 : decode cX7_init 126 = .ok (.bipush 96, 2) := by decide +kernel
theorem dX7_init_128 : decode cX7_init 128 = .ok (.invokespecial 11, 3) := by decide +kernel
theorem dX7_init_131 : decode cX7_init 131 = .ok (.aastore, 1) := by decide +kernel
theorem dX7_init_132 : decode cX7_init 132 = .ok (.iinc 1 1, 3) := by decide +kernel
theorem dX7_init_135 : decode cX7_init 135 = .ok (.goto (-27), 3) := by decide +kernel
theorem dX7_init_138 : decode cX7_init 138 = .ok (.return_, 1) := by decide +kernel
theorem dX8_init_0 : decode cX8_init 0 = .ok (.aload_n 0, 1) := by decide +kernel
theorem dX8_init_1 : decode cX8_init 1 = .ok (.invokespecial 3, 3) := by decide +kernel
theorem dX8_init_4 : decode cX8_init 4 = .ok (.aload_n 0, 1) := by decide +kernel
theorem dX8_init_5 : decode cX8_init 5 = .ok (.iconst (-1), 1) := by decide +kernel
theorem dX8_init_6 : decode cX8_init 6 = .ok (.putfield 9, 3) := by decide +kernel
theorem dX8_init_9 : decode cX8_init 9 = .ok (.aload_n 0, 1) := by decide +kernel
theorem dX8_init_10 : decode cX8_init 10 = .ok (.bipush 16, 2) := by decide +kernel
theorem dX8_init_12 : decode cX8_init 12 = .ok (.newarray .int, 2) := by decide +kernel
theorem dX8_init_14 : decode cX8_init 14 = .ok (.putfield 15, 3) := by decide +kernel
theorem dX8_init_17 : decode cX8_init 17 = .ok (.aload_n 0, 1) := by decide +kernel
theorem dX8_init_18 : decode cX8_init 18 = .ok (.bipush 16, 2) := by decide +kernel
theorem dX8_init_20 : decode cX8_init 20 = .ok (.newarray .int, 2) := by decide +kernel
theorem dX8_init_22 : decode cX8_init 22 = .ok (.putfield 19, 3) := by decide +kernel
theorem dX8_init_25 : decode cX8_init 25 = .ok (.aload_n 0, 1) := by decide +kernel
theorem dX8_init_26 : decode cX8_init 26 = .ok (.bipush 16, 2) := by decide +kernel
theorem dX8_init_28 : decode cX8_init 28 = .ok (.newarray .int, 2) := by decide +kernel
theorem dX8_init_30 : decode cX8_init 30 = .ok (.putfield 22, 3) := by decide +kernel
theorem dX8_init_33 : decode cX8_init 33 = .ok (.aload_n 0, 1) := by decide +kernel
theorem dX8_init_34 : decode cX8_init 34 = .ok (.bipush 16, 2) := by decide +kernel
theorem dX8_init_36 : decode cX8_init 36 = .ok (.newarray .int, 2) := by decide +kernel
theorem dX8_init_38 : decode cX8_init 38 = .ok (.putfield 25, 3) := by decide +kernel
theorem dX8_init_41 : decode cX8_init 41 = .ok (.aload_n 0, 1) := by decide +kernel
theorem dX8_init_42 : decode cX8_init 42 = .ok (.bipush 16, 2) := by decide +kernel
theorem dX8_init_44 : decode cX8_init 44 = .ok (.newarray .int, 2) := by decide +kernel
theorem dX8_init_46 : decode cX8_init 46 = .ok (.putfield 28, 3) := by decide +kernel
theorem dX8_init_49 : decode cX8_init 49 = .ok (.aload_n 0, 1) := by decide +kernel
theorem dX8_init_50 : decode cX8_init 50 = .ok (.aload_n 1, 1) := by decide +kernel
theorem dX8_init_51 : decode cX8_init 51 = .ok (.putfield 31, 3) := by decide +kernel
theorem dX8_init_54 : decode cX8_init 54 = .ok (.return_, 1) := by decide +kernel
theorem dX9_init_0 : decode cX9_init 0 = .ok (.aload_n 0, 1) := by decide +kernel
theorem dX9_init_1 : decode cX9_init 1 = .ok (.invokespecial 3, 3) := by decide +kernel
theorem dX9_init_4 : decode cX9_init 4 = .ok (.aload_n 0, 1) := by decide +kernel
theorem dX9_init_5 : decode cX9_init 5 = .ok (.iload_n 1, 1) := by decide +kernel
theorem dX9_init_6 : decode cX9_init 6 = .ok (.iconst 0, 1) := by decide +kernel
theorem dX9_init_7 : decode cX9_init 7 = .ok (.invokestatic 9, 3) := by decide +kernel
theorem dX9_init_10 : decode cX9_init 10 = .ok (.newarray .int, 2) := by decide +kernel
theorem dX9_init_12 : decode cX9_init 12 = .ok (.putfield 15, 3) := by decide +kernel
theorem dX9_init_15 : decode cX9_init 15 = .ok (.return_, 1) := by decide +kernel
theorem dX9_clear_0 : decode cX9_clear 0 = .ok (.aload_n 0, 1) := by decide +kernel
theorem dX9_clear_1 : decode cX9_clear 1 = .ok (.iconst 0, 1) := by decide +kernel
theorem dX9_clear_2 : decode cX9_clear 2 = .ok (.putfield 21, 3) := by decide +kernel
theorem dX9_clear_5 : decode cX9_clear 5 = .ok (.return_, 1) := by decide +kernel
theorem dX9_cut_0 : decode cX9_cut 0 = .ok (.iload_n 1, 1) := by decide +kernel
theorem dX9_cut_1 : decode cX9_cut 1 = .ok (.ifCond .lt 16, 3) := by decide +kernel
theorem dX9_cut_4 : decode cX9_cut 4 = .ok (.iload_n 1, 1) := by decide +kernel
theorem dX9_cut_5 : decode cX9_cut 5 = .ok (.aload_n 0, 1) := by decide +kernel
theorem dX9_cut_6 : decode cX9_cut 6 = .ok (.getfield 21, 3) := by decide +kernel
theorem dX9_cut_9 : decode cX9_cut 9 = .ok (.if_icmp .ge 8, 3) := by decide +kernel
theorem dX9_cut_12 : decode cX9_cut 12 = .ok (.aload_n 0, 1) := by decide +kernel
theorem dX9_cut_13 : decode cX9_cut 13 = .ok (.iload_n 1, 1) := by decide +kernel
theorem dX9_cut_14 : decode cX9_cut 14 = .ok (.putfield 21, 3) := by decide +kernel
theorem dX9_cut_17 : decode cX9_cut 17 = .ok (.return_, 1) := by decide +kernel
theorem dX9_putHighestFirst_0 : decode cX9_putHighestFirst 0 = .ok (.bipush 24, 2) := by decide +kernel
theorem dX9_putHighestFirst_2 : decode cX9_putHighestFirst 2 = .ok (.istore_n 2, 1) := by decide +kernel
theorem dX9_putHighestFirst_3 : decode cX9_putHighestFirst 3 = .ok (.iload_n 2, 1) := by decide +kernel
theorem dX9_putHighestFirst_4 : decode cX9_putHighestFirst 4 = .ok (.ifCond .lt 47, 3) := by decide +kernel
theorem dX9_putHighestFirst_7 : decode cX9_putHighestFirst 7 = .ok (.aload_n 0, 1) := by decide +kernel
theorem dX9_putHighestFirst_8 : decode cX9_putHighestFirst 8 = .ok (.getfield 21, 3) := by decide +kernel
theorem dX9_putHighestFirst_11 : decode cX9_putHighestFirst 11 = .ok (.aload_n 0, 1) := by decide +kernel
theorem dX9_putHighestFirst_12 : decode cX9_putHighestFirst 12 = .ok (.getfield 15, 3) := by decide +kernel
theorem dX9_putHighestFirst_15 : decode cX9_putHighestFirst 15 = .ok (.arraylength, 1) := by decide +kernel
theorem dX9_putHighestFirst_16 : decode cX9_putHighestFirst 16 = .ok (.if_icmp .ge 35, 3) := by decide +kernel
theorem dX9_putHighestFirst_19 : decode cX9_putHighestFirst 19 = .ok (.aload_n 0, 1) := by decide +kernel
theorem dX9_putHighestFirst_20 : decode cX9_putHighestFirst 20 = .ok (.getfield 15, 3) := by decide +kernel
theorem dX9_putHighestFirst_23 : decode cX9_putHighestFirst 23 = .ok (.aload_n 0, 1) := by decide +kernel
theorem dX9_putHighestFirst_24 : decode cX9_putHighestFirst 24 = .ok (.getfield 21, 3) := by decide +kernel
theorem dX9_putHighestFirst_27 : decode cX9_putHighestFirst 27 = .ok (.iload_n 1, 1) := by decide +kernel
theorem dX9_putHighestFirst_28 : decode cX9_putHighestFirst 28 = .ok (.iload_n 2, 1) := by decide +kernel
theorem dX9_putHighestFirst_29 : decode cX9_putHighestFirst 29 = .ok (.iushr, 1) := by decide +kernel
theorem dX9_putHighestFirst_30 : decode cX9_putHighestFirst 30 = .ok (.sipush 255, 3) := by decide +kernel
theorem dX9_putHighestFirst_33 : decode cX9_putHighestFirst 33 = .ok (.iand, 1) := by decide +kernel
theorem dX9_putHighestFirst_34 : decode cX9_putHighestFirst 34 = .ok (.iastore, 1) := by decide +kernel
theorem dX9_putHighestFirst_35 : decode cX9_putHighestFirst 35 = .ok (.aload_n 0, 1) := by decide +kernel
theorem dX9_putHighestFirst_36 : decode cX9_putHighestFirst 36 = .ok (.dup, 1) := by decide +kernel
theorem dX9_putHighestFirst_37 : decode cX9_putHighestFirst 37 = .ok (.getfield 21, 3) := by decide +kernel
theorem dX9_putHighestFirst_40 : decode cX9_putHighestFirst 40 = .ok (.iconst 1, 1) := by decide +kernel
theorem dX9_putHighestFirst_41 : decode cX9_putHighestFirst 41 = .ok (.iadd, 1) := by decide +kernel
theorem dX9_putHighestFirst_42 : decode cX9_putHighestFirst 42 = .ok (.putfield 21, 3) := by decide +kernel
theorem dX9_putHighestFirst_45 : decode cX9_putHighestFirst 45 = .ok (.iinc 2 (-8), 3) := by decide +kernel
theorem dX9_putHighestFirst_48 : decode cX9_putHighestFirst 48 = .ok (.goto (-45), 3) := by decide +kernel
theorem dX9_putHighestFirst_51 : decode cX9_putHighestFirst 51 = .ok (.return_, 1) := by decide +kernel
theorem dX9_putPart_0 : decode cX9_putPart 0 = .ok (.iload_n 2, 1) := by decide +kernel
theorem dX9_putPart_1 : decode cX9_putPart 1 = .ok (.iconst 0, 1) := by decide +kernel
theorem dX9_putPart_2 : decode cX9_putPart 2 = .ok (.invokestatic 9, 3) := by decide +kernel
theorem dX9_putPart_5 : decode cX9_putPart 5 = .ok (.istore 4, 2) := by decide +kernel
theorem dX9_putPart_7 : decode cX9_putPart 7 = .ok (.iload 4, 2) := by decide +kernel
theorem dX9_putPart_9 : decode cX9_putPart 9 = .ok (.istore 5, 2) := by decide +kernel
theorem dX9_putPart_11 : decode cX9_putPart 11 = .ok (.iload 5, 2) := by decide +kernel
theorem dX9_putPart_13 : decode cX9_putPart 13 = .ok (.iload 4, 2) := by decide +kernel
theorem dX9_putPart_15 : decode cX9_putPart 15 = .ok (.isub, 1) := by decide +kernel
theorem dX9_putPart_16 : decode cX9_putPart 16 = .ok (.iload_n 3, 1) := by decide +kernel
theorem dX9_putPart_17 : decode cX9_putPart 17 = .ok (.if_icmp .ge 56, 3) := by decide +kernel
theorem dX9_putPart_20 : decode cX9_putPart 20 = .ok (.iload 5, 2) := by decide +kernel
theorem dX9_putPart_22 : decode cX9_putPart 22 = .ok (.aload_n 1, 1) := by decide +kernel
theorem dX9_putPart_23 : decode cX9_putPart 23 = .ok (.getfield 21, 3) := by decide +kernel
theorem dX9_putPart_26 : decode cX9_putPart 26 = .ok (.if_icmp .ge 47, 3) := by decide +kernel
theorem dX9_putPart_29 : decode cX9_putPart 29 = .ok (.aload_n 0, 1) := by decide +kernel
theorem dX9_putPart_30 : decode cX9_putPart 30 = .ok (.getfield 21, 3) := by decide +kernel
theorem dX9_putPart_33 : decode cX9_putPart 33 = .ok (.aload_n 0, 1) := by decide +kernel
theorem dX9_putPart_34 : decode cX9_putPart 34 = .ok (.getfield 15, 3) := by decide +kernel
theorem dX9_putPart_37 : decode cX9_putPart 37 = .ok (.arraylength, 1) := by decide +kernel
theorem dX9_putPart_38 : decode cX9_putPart 38 = .ok (.if_icmp .ge 35, 3) := by decide +kernel
theorem dX9_putPart_41 : decode cX9_putPart 41 = .ok (.aload_n 0, 1) := by decide +kernel
theorem dX9_putPart_42 : decode cX9_putPart 42 = .ok (.getfield 15, 3) := by decide +kernel
theorem dX9_putPart_45 : decode cX9_putPart 45 = .ok (.aload_n 0, 1) := by decide +kernel
theorem dX9_putPart_46 : decode cX9_putPart 46 = .ok (.getfield 21, 3) := by decide +kernel
theorem dX9_putPart_49 : decode cX9_putPart 49 = .ok (.aload_n 1, 1) := by decide +kernel
theorem dX9_putPart_50 : decode cX9_putPart 50 = .ok (.getfield 15, 3) := by decide +kernel
theorem dX9_putPart_53 : decode cX9_putPart 53 = .ok (.iload 5, 2) := by decide +kernel
theorem dX9_putPart_55 : decode cX9_putPart 55 = .ok (.iaload, 1) := by decide +kernel
theorem dX9_putPart_56 : decode cX9_putPart 56 = .ok (.iastore, 1) := by decide +kernel
theorem dX9_putPart_57 : decode cX9_putPart 57 = .ok (.aload_n 0, 1) := by decide +kernel
theorem dX9_putPart_58 : decode cX9_putPart 58 = .ok (.dup, 1) := by decide +kernel
theorem dX9_putPart_59 : decode cX9_putPart 59 = .ok (.getfield 21, 3) := by decide +kernel
theorem dX9_putPart_62 : decode cX9_putPart 62 = .ok (.iconst 1, 1) := by decide +kernel
theorem dX9_putPart_63 : decode cX9_putPart 63 = .ok (.iadd, 1) := by decide +kernel
theorem dX9_putPart_64 : decode cX9_putPart 64 = .ok (.putfield 21, 3) := by decide +kernel
theorem dX9_putPart_67 : decode cX9_putPart 67 = .ok (.iinc 5 1, 3) := by decide +kernel
theorem dX9_putPart_70 : decode cX9_putPart 70 = .ok (.goto (-59), 3) := by decide +kernel
theorem dX9_putPart_73 : decode cX9_putPart 73 = .ok (.return_, 1) := by decide +kernel
theorem dX9_become_0 : decode cX9_become 0 = .ok (.aload_n 0, 1) := by decide +kernel
theorem dX9_become_1 : decode cX9_become 1 = .ok (.iconst 0, 1) := by decide +kernel
theorem dX9_become_2 : decode cX9_become 2 = .ok (.putfield 21, 3) := by decide +kernel
theorem dX9_become_5 : decode cX9_become 5 = .ok (.aload_n 0, 1) := by decide +kernel
theorem dX9_become_6 : decode cX9_become 6 = .ok (.aload_n 1, 1) := by decide +kernel
theorem dX9_become_7 : decode cX9_become 7 = .ok (.iconst 0, 1) := by decide +kernel
theorem dX9_become_8 : decode cX9_become 8 = .ok (.aload_n 1, 1) := by decide +kernel
theorem dX9_become_9 : decode cX9_become 9 = .ok (.getfield 21, 3) := by decide +kernel
theorem dX9_become_12 : decode cX9_become 12 = .ok (.invokevirtual 27, 3) := by decide +kernel
theorem dX9_become_15 : decode cX9_become 15 = .ok (.return_, 1) := by decide +kernel
theorem dX9_at_0 : decode cX9_at 0 = .ok (.iload_n 1, 1) := by decide +kernel
theorem dX9_at_1 : decode cX9_at 1 = .ok (.ifCond .lt 20, 3) := by decide +kernel
theorem dX9_at_4 : decode cX9_at 4 = .ok (.iload_n 1, 1) := by decide +kernel
theorem dX9_at_5 : decode cX9_at 5 = .ok (.aload_n 0, 1) := by decide +kernel
theorem dX9_at_6 : decode cX9_at 6 = .ok (.getfield 21, 3) := by decide +kernel
theorem dX9_at_9 : decode cX9_at 9 = .ok (.if_icmp .ge 12, 3) := by decide +kernel
theorem dX9_at_12 : decode cX9_at 12 = .ok (.aload_n 0, 1) := by decide +kernel
theorem dX9_at_13 : decode cX9_at 13 = .ok (.getfield 15, 3) := by decide +kernel
theorem dX9_at_16 : decode cX9_at 16 = .ok (.iload_n 1, 1) := by decide +kernel
theorem dX9_at_17 : decode cX9_at 17 = .ok (.iaload, 1) := by decide +kernel
theorem dX9_at_18 : decode cX9_at 18 = .ok (.goto 4, 3) := by decide +kernel
theorem dX9_at_21 : decode cX9_at 21 = .ok (.iconst (-1), 1) := by decide +kernel
theorem dX9_at_22 : decode cX9_at 22 = .ok (.ireturn, 1) := by decide +kernel
theorem dX10_init_0 : decode cX10_init 0 = .ok (.aload_n 0, 1) := by decide +kernel
theorem dX10_init_1 : decode cX10_init 1 = .ok (.invokespecial 3, 3) := by decide +kernel
theorem dX10_init_4 : decode cX10_init 4 = .ok (.aload_n 0, 1) := by decide +kernel
theorem dX10_init_5 : decode cX10_init 5 = .ok (.bipush 20, 2) := by decide +kernel
theorem dX10_init_7 : decode cX10_init 7 = .ok (.newarray .int, 2) := by decide +kernel
theorem dX10_init_9 : decode cX10_init 9 = .ok (.putfield 11, 3) := by decide +kernel
theorem dX10_init_12 : decode cX10_init 12 = .ok (.aload_n 0, 1) := by decide +kernel
theorem dX10_init_13 : decode cX10_init 13 = .ok (.bipush 20, 2) := by decide +kernel
theorem dX10_init_15 : decode cX10_init 15 = .ok (.newarray .int, 2) := by decide +kernel
theorem dX10_init_17 : decode cX10_init 17 = .ok (.putfield 15, 3) := by decide +kernel
theorem dX10_init_20 : decode cX10_init 20 = .ok (.aload_n 0, 1) := by decide +kernel
theorem dX10_init_21 : decode cX10_init 21 = .ok (.bipush 20, 2) := by decide +kernel
theorem dX10_init_23 : decode cX10_init 23 = .ok (.anewarray 18, 3) := by decide +kernel
theorem dX10_init_26 : decode cX10_init 26 = .ok (.putfield 20, 3) := by decide +kernel
theorem dX10_init_29 : decode cX10_init 29 = .ok (.aload_n 0, 1) := by decide +kernel
theorem dX10_init_30 : decode cX10_init 30 = .ok (.bipush 23, 2) := by decide +kernel
theorem dX10_init_32 : decode cX10_init 32 = .ok (.putfield 24, 3) := by decide +kernel
theorem dX10_init_35 : decode cX10_init 35 = .ok (.aload_n 0, 1) := by decide +kernel
theorem dX10_init_36 : decode cX10_init 36 = .ok (.bipush 23, 2) := by decide +kernel
theorem dX10_init_38 : decode cX10_init 38 = .ok (.putfield 28, 3) := by decide +kernel
theorem dX10_init_41 : decode cX10_init 41 = .ok (.aload_n 0, 1) := by decide +kernel
theorem dX10_init_42 : decode cX10_init 42 = .ok (.bipush 6, 2) := by decide +kernel
theorem dX10_init_44 : decode cX10_init 44 = .ok (.anewarray 18, 3) := by decide +kernel
theorem dX10_init_47 : decode cX10_init 47 = .ok (.putfield 31, 3) := by decide +kernel
theorem dX10_init_50 : decode cX10_init 50 = .ok (.aload_n 0, 1) := by decide +kernel
theorem dX10_init_51 : decode cX10_init 51 = .ok (.bipush 20, 2) := by decide +kernel
theorem dX10_init_53 : decode cX10_init 53 = .ok (.newarray .int, 2) := by decide +kernel
theorem dX10_init_55 : decode cX10_init 55 = .ok (.putfield 34, 3) := by decide +kernel
theorem dX10_init_58 : decode cX10_init 58 = .ok (.iconst 0, 1) := by decide +kernel
theorem dX10_init_59 : decode cX10_init 59 = .ok (.istore_n 1, 1) := by decide +kernel
theorem dX10_init_60 : decode cX10_init 60 = .ok (.iload_n 1, 1) := by decide +kernel
theorem dX10_init_61 : decode cX10_init 61 = .ok (.aload_n 0, 1) := by decide +kernel
theorem dX10_init_62 : decode cX10_init 62 = .ok (.getfield 20, 3) := by decide +kernel
theorem dX10_init_65 : decode cX10_init 65 = .ok (.arraylength, 1) := by decide +kernel
theorem dX10_init_66 : decode cX10_init 66 = .ok (.if_icmp .ge 24, 3) := by decide +kernel
theorem dX10_init_69 : decode cX10_init 69 = .ok (.aload_n 0, 1) := by decide +kernel
theorem dX10_init_70 : decode cX10_init 70 = .ok (.getfield 20, 3) := by decide +kernel
theorem dX10_init_73 : decode cX10_init 73 = .ok (.iload_n 1, 1) := by decide +kernel
theorem dX10_init_74 : decode cX10_init 74 = .ok (.new 18, 3) := by decide +kernel
theorem dX10_init_77 : decode cX10_init 77 = .ok (.dup, 1) := by decide +kernel
theorem dX10_init_78 : decode cX10_init 78 = .ok (.bipush 40, 2) := by decide +kernel
theorem dX10_init_80 : decode cX10_init 80 = .ok (.invokespecial 37, 3) := by decide +kernel
theorem dX10_init_83 : decode cX10_init 83 = .ok (.aastore, 1) := by decide +kernel
theorem dX10_init_84 : decode cX10_init 84 = .ok (.iinc 1 1, 3) := by decide +kernel
theorem dX10_init_87 : decode cX10_init 87 = .ok (.goto (-27), 3) := by decide +kernel
theorem dX10_init_90 : decode cX10_init 90 = .ok (.iconst 0, 1) := by decide +kernel
theorem dX10_init_91 : decode cX10_init 91 = .ok (.istore_n 1, 1) := by decide +kernel
theorem dX10_init_92 : decode cX10_init 92 = .ok (.iload_n 1, 1) := by decide +kernel
theorem dX10_init_93 : decode cX10_init 93 = .ok (.aload_n 0, 1) := by decide +kernel
theorem dX10_init_94 : decode cX10_init 94 = .ok (.getfield 31, 3) := by decide +kernel
theorem dX10_init_97 : decode cX10_init 97 = .ok (.arraylength, 1) := by decide +kernel
theorem dX10_init_98 : decode cX10_init 98 = .ok (.if_icmp .ge 24, 3) := by decide +kernel
theorem dX10_init_101 : decode cX10_init 101 = .ok (.aload_n 0, 1) := by decide +kernel
theorem dX10_init_102 : decode cX10_init 102 = .ok (.getfield 31, 3) := by decide +kernel
theorem dX10_init_105 : decode cX10_init 105 = .ok (.iload_n 1, 1) := by decide +kernel
theorem dX10_init_106 : decode cX10_init 106 = .ok (.new 18, 3) := by decide +kernel
theorem dX10_init_109 : decode cX10_init 109 = .ok (.dup, 1) := by decide +kernel
theorem dX10_init_110 : decode cX10_init 110 = .ok (.bipush 64, 2) := by decide +kernel
theorem dX10_init_112 : decode cX10_init 112 = .ok (.invokespecial 37, 3) := by decide +kernel
theorem dX10_init_115 : decode cX10_init 115 = .ok (.aastore, 1) := by decide +kernel
theorem dX10_init_116 : decode cX10_init 116 = .ok (.iinc 1 1, 3) := by decide +kernel
theorem dX10_init_119 : decode cX10_init 119 = .ok (.goto (-27), 3) := by decide +kernel
theorem dX10_init_122 : decode cX10_init 122 = .ok (.return_, 1) := by decide +kernel
theorem dX10_addAttribute_0 : decode cX10_addAttribute 0 = .ok (.aload_n 0, 1) := by decide +kernel
theorem dX10_addAttribute_1 : decode cX10_addAttribute 1 = .ok (.getfield 56, 3) := by decide +kernel
theorem dX10_addAttribute_4 : decode cX10_addAttribute 4 = .ok (.bipush 20, 2) := by decide +kernel
theorem dX10_addAttribute_6 : decode cX10_addAttribute 6 = .ok (.if_icmp .lt 5, 3) := by decide +kernel
theorem dX10_addAttribute_9 : decode cX10_addAttribute 9 = .ok (.iconst (-1), 1) := by decide +kernel
theorem dX10_addAttribute_10 : decode cX10_addAttribute 10 = .ok (.ireturn, 1) := by decide +kernel
theorem dX10_addAttribute_11 : decode cX10_addAttribute 11 = .ok (.aload_n 0, 1) := by decide +kernel
theorem dX10_addAttribute_12 : decode cX10_addAttribute 12 = .ok (.getfield 11, 3) := by decide +kernel
theorem dX10_addAttribute_15 : decode cX10_addAttribute 15 = .ok (.aload_n 0, 1) := by decide +kernel
theorem dX10_addAttribute_16 : decode cX10_addAttribute 16 = .ok (.getfield 56, 3) := by decide +kernel
theorem dX10_addAttribute_19 : decode cX10_addAttribute 19 = .ok (.iload_n 1, 1) := by decide +kernel
theorem dX10_addAttribute_20 : decode cX10_addAttribute 20 = .ok (.iastore, 1) := by decide +kernel
theorem dX10_addAttribute_21 : decode cX10_addAttribute 21 = .ok (.aload_n 0, 1) := by decide +kernel
theorem dX10_addAttribute_22 : decode cX10_addAttribute 22 = .ok (.getfield 15, 3) := by decide +kernel
theorem dX10_addAttribute_25 : decode cX10_addAttribute 25 = .ok (.aload_n 0, 1) := by decide +kernel
theorem dX10_addAttribute_26 : decode cX10_addAttribute 26 = .ok (.getfield 56, 3) := by decide +kernel
theorem dX10_addAttribute_29 : decode cX10_addAttribute 29 = .ok (.iload_n 2, 1) := by decide +kernel
theorem dX10_addAttribute_30 : decode cX10_addAttribute 30 = .ok (.iastore, 1) := by decide +kernel
theorem dX10_addAttribute_31 : decode cX10_addAttribute 31 = .ok (.aload_n 0, 1) := by decide +kernel
theorem dX10_addAttribute_32 : decode cX10_addAttribute 32 = .ok (.getfield 20, 3) := by decide +kernel
theorem dX10_addAttribute_35 : decode cX10_addAttribute 35 = .ok (.aload_n 0, 1) := by decide +kernel
theorem dX10_addAttribute_36 : decode cX10_addAttribute 36 = .ok (.getfield 56, 3) := by decide +kernel
theorem dX10_addAttribute_39 : decode cX10_addAttribute 39 = .ok (.aaload, 1) := by decide +kernel
theorem dX10_addAttribute_40 : decode cX10_addAttribute 40 = .ok (.aload_n 3, 1) := by decide +kernel
theorem dX10_addAttribute_41 : decode cX10_addAttribute 41 = .ok (.invokevirtual 59, 3) := by decide +kernel
theorem dX10_addAttribute_44 : decode cX10_addAttribute 44 = .ok (.aload_n 0, 1) := by decide +kernel
theorem dX10_addAttribute_45 : decode cX10_addAttribute 45 = .ok (.dup, 1) := by decide +kernel
theorem dX10_addAttribute_46 : decode cX10_addAttribute 46 = .ok (.getfield 56, 3) := by decide +kernel
theorem dX10_addAttribute_49 : decode cX10_addAttribute 49 = .ok (.iconst 1, 1) := by decide +kernel
theorem dX10_addAttribute_50 : decode cX10_addAttribute 50 = .ok (.iadd, 1) := by decide +kernel
theorem dX10_addAttribute_51 : decode cX10_addAttribute 51 = .ok (.putfield 56, 3) := by decide +kernel
theorem dX10_addAttribute_54 : decode cX10_addAttribute 54 = .ok (.aload_n 0, 1) := by decide +kernel
theorem dX10_addAttribute_55 : decode cX10_addAttribute 55 = .ok (.getfield 56, 3) := by decide +kernel
theorem dX10_addAttribute_58 : decode cX10_addAttribute 58 = .ok (.ireturn, 1) := by decide +kernel
theorem dX10_valueOf_0 : decode cX10_valueOf 0 = .ok (.iload_n 1, 1) := by decide +kernel
theorem dX10_valueOf_1 : decode cX10_valueOf 1 = .ok (.iconst 1, 1) := by decide +kernel
theorem dX10_valueOf_2 : decode cX10_valueOf 2 = .ok (.if_icmp .lt 31, 3) := by decide +kernel
theorem dX10_valueOf_5 : decode cX10_valueOf 5 = .ok (.iload_n 1, 1) := by decide +kernel
theorem dX10_valueOf_6 : decode cX10_valueOf 6 = .ok (.aload_n 0, 1) := by decide +kernel
theorem dX10_valueOf_7 : decode cX10_valueOf 7 = .ok (.getfield 56, 3) := by decide +kernel
theorem dX10_valueOf_10 : decode cX10_valueOf 10 = .ok (.if_icmp .gt 23, 3) := by decide +kernel
theorem dX10_valueOf_13 : decode cX10_valueOf 13 = .ok (.iload_n 1, 1) := by decide +kernel
theorem dX10_valueOf_14 : decode cX10_valueOf 14 = .ok (.aload_n 0, 1) := by decide +kernel
theorem dX10_valueOf_15 : decode cX10_valueOf 15 = .ok (.getfield 20, 3) := by decide +kernel
theorem dX10_valueOf_18 : decode cX10_valueOf 18 = .ok (.arraylength, 1) := by decide +kernel
theorem dX10_valueOf_19 : decode cX10_valueOf 19 = .ok (.if_icmp .gt 14, 3) := by decide +kernel
theorem dX10_valueOf_22 : decode cX10_valueOf 22 = .ok (.aload_n 0, 1) := by decide +kernel
theorem dX10_valueOf_23 : decode cX10_valueOf 23 = .ok (.getfield 20, 3) := by decide +kernel
theorem dX10_valueOf_26 : decode cX10_valueOf 26 = .ok (.iload_n 1, 1) := by decide +kernel
theorem dX10_valueOf_27 : decode cX10_valueOf 27 = .ok (.iconst 1, 1) := by decide +kernel
theorem dX10_valueOf_28 : decode cX10_valueOf 28 = .ok (.isub, 1) := by decide +kernel
theorem dX10_valueOf_29 : decode cX10_valueOf 29 = .ok (.aaload, 1) := by decide +kernel
theorem dX10_valueOf_30 : decode cX10_valueOf 30 = .ok (.goto 4, 3) := by decide +kernel
theorem dX10_valueOf_33 : decode cX10_valueOf 33 = .ok (.aconst_null, 1) := by decide +kernel
theorem dX10_valueOf_34 : decode cX10_valueOf 34 = .ok (.areturn, 1) := by decide +kernel
theorem dX11_init_0 : decode cX11_init 0 = .ok (.aload_n 0, 1) := by decide +kernel
theorem dX11_init_1 : decode cX11_init 1 = .ok (.invokespecial 1, 3) := by decide +kernel
theorem dX11_init_4 : decode cX11_init 4 = .ok (.aload_n 0, 1) := by decide +kernel
theorem dX11_init_5 : decode cX11_init 5 = .ok (.iconst 2, 1) := by decide +kernel
theorem dX11_init_6 : decode cX11_init 6 = .ok (.anewarray 7, 3) := by decide +kernel
theorem dX11_init_9 : decode cX11_init 9 = .ok (.putfield 9, 3) := by decide +kernel
theorem dX11_init_12 : decode cX11_init 12 = .ok (.aload_n 0, 1) := by decide +kernel
theorem dX11_init_13 : decode cX11_init 13 = .ok (.new 15, 3) := by decide +kernel
theorem dX11_init_16 : decode cX11_init 16 = .ok (.dup, 1) := by decide +kernel
theorem dX11_init_17 : decode cX11_init 17 = .ok (.invokespecial 17, 3) := by decide +kernel
theorem dX11_init_20 : decode cX11_init 20 = .ok (.putfield 18, 3) := by decide +kernel
theorem dX11_init_23 : decode cX11_init 23 = .ok (.aload_n 0, 1) := by decide +kernel
theorem dX11_init_24 : decode cX11_init 24 = .ok (.new 22, 3) := by decide +kernel
theorem dX11_init_27 : decode cX11_init 27 = .ok (.dup, 1) := by decide +kernel
theorem dX11_init_28 : decode cX11_init 28 = .ok (.bipush 100, 2) := by decide +kernel
theorem dX11_init_30 : decode cX11_init 30 = .ok (.invokespecial 24, 3) := by decide +kernel
theorem dX11_init_33 : decode cX11_init 33 = .ok (.putfield 27, 3) := by decide +kernel
theorem dX11_init_36 : decode cX11_init 36 = .ok (.aload_n 0, 1) := by decide +kernel
theorem dX11_init_37 : decode cX11_init 37 = .ok (.new 22, 3) := by decide +kernel
theorem dX11_init_40 : decode cX11_init 40 = .ok (.dup, 1) := by decide +kernel
theorem dX11_init_41 : decode cX11_init 41 = .ok (.bipush 31, 2) := by decide +kernel
theorem dX11_init_43 : decode cX11_init 43 = .ok (.invokespecial 24, 3) := by decide +kernel
theorem dX11_init_46 : decode cX11_init 46 = .ok (.putfield 31, 3) := by decide +kernel
theorem dX11_init_49 : decode cX11_init 49 = .ok (.new 34, 3) := by decide +kernel
theorem dX11_init_52 : decode cX11_init 52 = .ok (.dup, 1) := by decide +kernel
theorem dX11_init_53 : decode cX11_init 53 = .ok (.invokespecial 36, 3) := by decide +kernel
theorem dX11_init_56 : decode cX11_init 56 = .ok (.astore 5, 2) := by decide +kernel
theorem dX11_init_58 : decode cX11_init 58 = .ok (.aload_n 0, 1) := by decide +kernel
theorem dX11_init_59 : decode cX11_init 59 = .ok (.getfield 9, 3) := by decide +kernel
theorem dX11_init_62 : decode cX11_init 62 = .ok (.iconst 0, 1) := by decide +kernel
theorem dX11_init_63 : decode cX11_init 63 = .ok (.new 7, 3) := by decide +kernel
theorem dX11_init_66 : decode cX11_init 66 = .ok (.dup, 1) := by decide +kernel
theorem dX11_init_67 : decode cX11_init 67 = .ok (.iconst 0, 1) := by decide +kernel
theorem dX11_init_68 : decode cX11_init 68 = .ok (.lload_n 1, 1) := by decide +kernel
theorem dX11_init_69 : decode cX11_init 69 = .ok (.ldc2_w 37, 3) := by decide +kernel
theorem dX11_init_72 : decode cX11_init 72 = .ok (.land, 1) := by decide +kernel
theorem dX11_init_73 : decode cX11_init 73 = .ok (.aload 5, 2) := by decide +kernel
theorem dX11_init_75 : decode cX11_init 75 = .ok (.invokespecial 39, 3) := by decide +kernel
theorem dX11_init_78 : decode cX11_init 78 = .ok (.aastore, 1) := by decide +kernel
theorem dX11_init_79 : decode cX11_init 79 = .ok (.aload_n 0, 1) := by decide +kernel
theorem dX11_init_80 : decode cX11_init 80 = .ok (.getfield 9, 3) := by decide +kernel
theorem dX11_init_83 : decode cX11_init 83 = .ok (.iconst 1, 1) := by decide +kernel
theorem dX11_init_84 : decode cX11_init 84 = .ok (.new 7, 3) := by decide +kernel
theorem dX11_init_87 : decode cX11_init 87 = .ok (.dup, 1) := by decide +kernel
theorem dX11_init_88 : decode cX11_init 88 = .ok (.iconst 1, 1) := by decide +kernel
theorem dX11_init_89 : decode cX11_init 89 = .ok (.lload_n 3, 1) := by decide +kernel
theorem dX11_init_90 : decode cX11_init 90 = .ok (.ldc2_w 37, 3) := by decide +kernel
theorem dX11_init_93 : decode cX11_init 93 = .ok (.land, 1) := by decide +kernel
theorem dX11_init_94 : decode cX11_init 94 = .ok (.aload 5, 2) := by decide +kernel
theorem dX11_init_96 : decode cX11_init 96 = .ok (.invokespecial 39, 3) := by decide +kernel
theorem dX11_init_99 : decode cX11_init 99 = .ok (.aastore, 1) := by decide +kernel
theorem dX11_init_100 : decode cX11_init 100 = .ok (.return_, 1) := by decide +kernel
theorem dX11_feed_0 : decode cX11_feed 0 = .ok (.aload_n 0, 1) := by decide +kernel
theorem dX11_feed_1 : decode cX11_feed 1 = .ok (.getfield 27, 3) := by decide +kernel
theorem dX11_feed_4 : decode cX11_feed 4 = .ok (.getfield 42, 3) := by decide +kernel
theorem dX11_feed_7 : decode cX11_feed 7 = .ok (.bipush 20, 2) := by decide +kernel
theorem dX11_feed_9 : decode cX11_feed 9 = .ok (.iadd, 1) := by decide +kernel
theorem dX11_feed_10 : decode cX11_feed 10 = .ok (.bipush 100, 2) := by decide +kernel
theorem dX11_feed_12 : decode cX11_feed 12 = .ok (.if_icmp .le 5, 3) := by decide +kernel
theorem dX11_feed_15 : decode cX11_feed 15 = .ok (.iconst (-1), 1) := by decide +kernel
theorem dX11_feed_16 : decode cX11_feed 16 = .ok (.ireturn, 1) := by decide +kernel
theorem dX11_feed_17 : decode cX11_feed 17 = .ok (.aload_n 0, 1) := by decide +kernel
theorem dX11_feed_18 : decode cX11_feed 18 = .ok (.getfield 27, 3) := by decide +kernel
theorem dX11_feed_21 : decode cX11_feed 21 = .ok (.iload_n 1, 1) := by decide +kernel
theorem dX11_feed_22 : decode cX11_feed 22 = .ok (.invokevirtual 46, 3) := by decide +kernel
theorem dX11_feed_25 : decode cX11_feed 25 = .ok (.aload_n 0, 1) := by decide +kernel
theorem dX11_feed_26 : decode cX11_feed 26 = .ok (.getfield 27, 3) := by decide +kernel
theorem dX11_feed_29 : decode cX11_feed 29 = .ok (.iload_n 2, 1) := by decide +kernel
theorem dX11_feed_30 : decode cX11_feed 30 = .ok (.invokevirtual 46, 3) := by decide +kernel
theorem dX11_feed_33 : decode cX11_feed 33 = .ok (.aload_n 0, 1) := by decide +kernel
theorem dX11_feed_34 : decode cX11_feed 34 = .ok (.getfield 27, 3) := by decide +kernel
theorem dX11_feed_37 : decode cX11_feed 37 = .ok (.iload_n 3, 1) := by decide +kernel
theorem dX11_feed_38 : decode cX11_feed 38 = .ok (.invokevirtual 46, 3) := by decide +kernel
theorem dX11_feed_41 : decode cX11_feed 41 = .ok (.aload_n 0, 1) := by decide +kernel
theorem dX11_feed_42 : decode cX11_feed 42 = .ok (.getfield 27, 3) := by decide +kernel
theorem dX11_feed_45 : decode cX11_feed 45 = .ok (.iload 4, 2) := by decide +kernel
theorem dX11_feed_47 : decode cX11_feed 47 = .ok (.invokevirtual 46, 3) := by decide +kernel
theorem dX11_feed_50 : decode cX11_feed 50 = .ok (.aload_n 0, 1) := by decide +kernel
theorem dX11_feed_51 : decode cX11_feed 51 = .ok (.getfield 27, 3) := by decide +kernel
theorem dX11_feed_54 : decode cX11_feed 54 = .ok (.iload 5, 2) := by decide +kernel
theorem dX11_feed_56 : decode cX11_feed 56 = .ok (.invokevirtual 46, 3) := by decide +kernel
theorem dX11_feed_59 : decode cX11_feed 59 = .ok (.aload_n 0, 1) := by decide +kernel
theorem dX11_feed_60 : decode cX11_feed 60 = .ok (.getfield 27, 3) := by decide +kernel
theorem dX11_feed_63 : decode cX11_feed 63 = .ok (.getfield 42, 3) := by decide +kernel
theorem dX11_feed_66 : decode cX11_feed 66 = .ok (.ireturn, 1) := by decide +kernel
theorem dX11_end_0 : decode cX11_end 0 = .ok (.iload_n 1, 1) := by decide +kernel
theorem dX11_end_1 : decode cX11_end 1 = .ok (.ifCond .lt 14, 3) := by decide +kernel
theorem dX11_end_4 : decode cX11_end 4 = .ok (.iload_n 1, 1) := by decide +kernel
theorem dX11_end_5 : decode cX11_end 5 = .ok (.aload_n 0, 1) := by decide +kernel
theorem dX11_end_6 : decode cX11_end 6 = .ok (.getfield 27, 3) := by decide +kernel
theorem dX11_end_9 : decode cX11_end 9 = .ok (.getfield 42, 3) := by decide +kernel
theorem dX11_end_12 : decode cX11_end 12 = .ok (.if_icmp .le 5, 3) := by decide +kernel
theorem dX11_end_15 : decode cX11_end 15 = .ok (.iconst (-1), 1) := by decide +kernel
theorem dX11_end_16 : decode cX11_end 16 = .ok (.ireturn, 1) := by decide +kernel
theorem dX11_end_17 : decode cX11_end 17 = .ok (.aload_n 0, 1) := by decide +kernel
theorem dX11_end_18 : decode cX11_end 18 = .ok (.getfield 27, 3) := by decide +kernel
theorem dX11_end_21 : decode cX11_end 21 = .ok (.iload_n 1, 1) := by decide +kernel
theorem dX11_end_22 : decode cX11_end 22 = .ok (.invokevirtual 49, 3) := by decide +kernel
theorem dX11_end_25 : decode cX11_end 25 = .ok (.iload_n 1, 1) := by decide +kernel
theorem dX11_end_26 : decode cX11_end 26 = .ok (.ireturn, 1) := by decide +kernel
theorem dX11_seed_0 : decode cX11_seed 0 = .ok (.aload_n 0, 1) := by decide +kernel
theorem dX11_seed_1 : decode cX11_seed 1 = .ok (.iload_n 1, 1) := by decide +kernel
theorem dX11_seed_2 : decode cX11_seed 2 = .ok (.invokevirtual 52, 3) := by decide +kernel
theorem dX11_seed_5 : decode cX11_seed 5 = .ok (.astore_n 3, 1) := by decide +kernel
theorem dX11_seed_6 : decode cX11_seed 6 = .ok (.aload_n 3, 1) := by decide +kernel
theorem dX11_seed_7 : decode cX11_seed 7 = .ok (.ifnonnull 5, 3) := by decide +kernel
theorem dX11_seed_10 : decode cX11_seed 10 = .ok (.iconst 0, 1) := by decide +kernel
theorem dX11_seed_11 : decode cX11_seed 11 = .ok (.ireturn, 1) := by decide +kernel
theorem dX11_seed_12 : decode cX11_seed 12 = .ok (.aload_n 3, 1) := by decide +kernel
theorem dX11_seed_13 : decode cX11_seed 13 = .ok (.iload_n 2, 1) := by decide +kernel
theorem dX11_seed_14 : decode cX11_seed 14 = .ok (.putfield 56, 3) := by decide +kernel
theorem dX11_seed_17 : decode cX11_seed 17 = .ok (.iconst 1, 1) := by decide +kernel
theorem dX11_seed_18 : decode cX11_seed 18 = .ok (.ireturn, 1) := by decide +kernel
theorem dX11_advertise_0 : decode cX11_advertise 0 = .ok (.aload_n 0, 1) := by decide +kernel
theorem dX11_advertise_1 : decode cX11_advertise 1 = .ok (.iload_n 1, 1) := by decide +kernel
theorem dX11_advertise_2 : decode cX11_advertise 2 = .ok (.invokevirtual 52, 3) := by decide +kernel
theorem dX11_advertise_5 : decode cX11_advertise 5 = .ok (.astore_n 3, 1) := by decide +kernel
theorem dX11_advertise_6 : decode cX11_advertise 6 = .ok (.aload_n 3, 1) := by decide +kernel
theorem dX11_advertise_7 : decode cX11_advertise 7 = .ok (.ifnull 34, 3) := by decide +kernel
theorem dX11_advertise_10 : decode cX11_advertise 10 = .ok (.aload_n 3, 1) := by decide +kernel
theorem dX11_advertise_11 : decode cX11_advertise 11 = .ok (.getfield 59, 3) := by decide +kernel
theorem dX11_advertise_14 : decode cX11_advertise 14 = .ok (.ifCond .ne 27, 3) := by decide +kernel
theorem dX11_advertise_17 : decode cX11_advertise 17 = .ok (.iload_n 2, 1) := by decide +kernel
theorem dX11_advertise_18 : decode cX11_advertise 18 = .ok (.iconst 5, 1) := by decide +kernel
theorem dX11_advertise_19 : decode cX11_advertise 19 = .ok (.if_icmp .lt 22, 3) := by decide +kernel
theorem dX11_advertise_22 : decode cX11_advertise 22 = .ok (.iload_n 2, 1) := by decide +kernel
theorem dX11_advertise_23 : decode cX11_advertise 23 = .ok (.sipush 1000, 3) := by decide +kernel
theorem dX11_advertise_26 : decode cX11_advertise 26 = .ok (.if_icmp .gt 15, 3) := by decide +kernel
theorem dX11_advertise_29 : decode cX11_advertise 29 = .ok (.aload_n 0, 1) := by decide +kernel
theorem dX11_advertise_30 : decode cX11_advertise 30 = .ok (.getfield 27, 3) := by decide +kernel
theorem dX11_advertise_33 : decode cX11_advertise 33 = .ok (.getfield 42, 3) := by decide +kernel
theorem dX11_advertise_36 : decode cX11_advertise 36 = .ok (.bipush 20, 2) := by decide +kernel
theorem dX11_advertise_38 : decode cX11_advertise 38 = .ok (.if_icmp .le 5, 3) := by decide +kernel
theorem dX11_advertise_41 : decode cX11_advertise 41 = .ok (.iconst 0, 1) := by decide +kernel
theorem dX11_advertise_42 : decode cX11_advertise 42 = .ok (.ireturn, 1) := by decide +kernel
theorem dX11_advertise_43 : decode cX11_advertise 43 = .ok (.aload_n 3, 1) := by decide +kernel
theorem dX11_advertise_44 : decode cX11_advertise 44 = .ok (.iconst 1, 1) := by decide +kernel
theorem dX11_advertise_45 : decode cX11_advertise 45 = .ok (.putfield 59, 3) := by decide +kernel
theorem dX11_advertise_48 : decode cX11_advertise 48 = .ok (.aload_n 3, 1) := by decide +kernel
theorem dX11_advertise_49 : decode cX11_advertise 49 = .ok (.iload_n 2, 1) := by decide +kernel
theorem dX11_advertise_50 : decode cX11_advertise 50 = .ok (.putfield 62, 3) := by decide +kernel
theorem dX11_advertise_53 : decode cX11_advertise 53 = .ok (.aload_n 3, 1) := by decide +kernel
theorem dX11_advertise_54 : decode cX11_advertise 54 = .ok (.aload_n 0, 1) := by decide +kernel
theorem dX11_advertise_55 : decode cX11_advertise 55 = .ok (.getfield 65, 3) := by decide +kernel
theorem dX11_advertise_58 : decode cX11_advertise 58 = .ok (.putfield 68, 3) := by decide +kernel
theorem dX11_advertise_61 : decode cX11_advertise 61 = .ok (.aload_n 3, 1) := by decide +kernel
theorem dX11_advertise_62 : decode cX11_advertise 62 = .ok (.getfield 71, 3) := by decide +kernel
theorem dX11_advertise_65 : decode cX11_advertise 65 = .ok (.aload_n 0, 1) := by decide +kernel
theorem dX11_advertise_66 : decode cX11_advertise 66 = .ok (.getfield 27, 3) := by decide +kernel
theorem dX11_advertise_69 : decode cX11_advertise 69 = .ok (.invokevirtual 74, 3) := by decide +kernel
theorem dX11_advertise_72 : decode cX11_advertise 72 = .ok (.aload_n 0, 1) := by decide +kernel
theorem dX11_advertise_73 : decode cX11_advertise 73 = .ok (.getfield 27, 3) := by decide +kernel
theorem dX11_advertise_76 : decode cX11_advertise 76 = .ok (.invokevirtual 78, 3) := by decide +kernel
theorem dX11_advertise_79 : decode cX11_advertise 79 = .ok (.iconst 1, 1) := by decide +kernel
theorem dX11_advertise_80 : decode cX11_advertise 80 = .ok (.ireturn, 1) := by decide +kernel
theorem dX11_scan_0 : decode cX11_scan 0 = .ok (.aload_n 0, 1) := by decide +kernel
theorem dX11_scan_1 : decode cX11_scan 1 = .ok (.iload_n 1, 1) := by decide +kernel
theorem dX11_scan_2 : decode cX11_scan 2 = .ok (.invokevirtual 52, 3) := by decide +kernel
theorem dX11_scan_5 : decode cX11_scan 5 = .ok (.astore_n 2, 1) := by decide +kernel
theorem dX11_scan_6 : decode cX11_scan 6 = .ok (.aload_n 2, 1) := by decide +kernel
theorem dX11_scan_7 : decode cX11_scan 7 = .ok (.ifnull 10, 3) := by decide +kernel
theorem dX11_scan_10 : decode cX11_scan 10 = .ok (.aload_n 2, 1) := by decide +kernel
theorem dX11_scan_11 : decode cX11_scan 11 = .ok (.getfield 59, 3) := by decide +kernel
theorem dX11_scan_14 : decode cX11_scan 14 = .ok (.ifCond .eq 5, 3) := by decide +kernel
theorem dX11_scan_17 : decode cX11_scan 17 = .ok (.iconst 0, 1) := by decide +kernel
theorem dX11_scan_18 : decode cX11_scan 18 = .ok (.ireturn, 1) := by decide +kernel
theorem dX11_scan_19 : decode cX11_scan 19 = .ok (.aload_n 2, 1) := by decide +kernel
theorem dX11_scan_20 : decode cX11_scan 20 = .ok (.iconst 2, 1) := by decide +kernel
theorem dX11_scan_21 : decode cX11_scan 21 = .ok (.putfield 59, 3) := by decide +kernel
theorem dX11_scan_24 : decode cX11_scan 24 = .ok (.iconst 1, 1) := by decide +kernel
theorem dX11_scan_25 : decode cX11_scan 25 = .ok (.ireturn, 1) := by decide +kernel
theorem dX11_connect_0 : decode cX11_connect 0 = .ok (.aload_n 0, 1) := by decide +kernel
theorem dX11_connect_1 : decode cX11_connect 1 = .ok (.iload_n 1, 1) := by decide +kernel
theorem dX11_connect_2 : decode cX11_connect 2 = .ok (.invokevirtual 52, 3) := by decide +kernel
theorem dX11_connect_5 : decode cX11_connect 5 = .ok (.astore 9, 2) := by decide +kernel
theorem dX11_connect_7 : decode cX11_connect 7 = .ok (.aload 9, 2) := by decide +kernel
theorem dX11_connect_9 : decode cX11_connect 9 = .ok (.ifnull 25, 3) := by decide +kernel
theorem dX11_connect_12 : decode cX11_connect 12 = .ok (.aload 9, 2) := by decide +kernel
theorem dX11_connect_14 : decode cX11_connect 14 = .ok (.getfield 59, 3) := by decide +kernel
theorem dX11_connect_17 : decode cX11_connect 17 = .ok (.ifCond .ne 17, 3) := by decide +kernel
theorem dX11_connect_20 : decode cX11_connect 20 = .ok (.iload 4, 2) := by decide +kernel
theorem dX11_connect_22 : decode cX11_connect 22 = .ok (.iload 5, 2) := by decide +kernel
theorem dX11_connect_24 : decode cX11_connect 24 = .ok (.iload 6, 2) := by decide +kernel
theorem dX11_connect_26 : decode cX11_connect 26 = .ok (.lload 7, 2) := by decide +kernel
theorem dX11_connect_28 : decode cX11_connect 28 = .ok (.invokestatic 81, 3) := by decide +kernel
theorem dX11_connect_31 : decode cX11_connect 31 = .ok (.ifCond .ne 5, 3) := by decide +kernel
theorem dX11_connect_34 : decode cX11_connect 34 = .ok (.iconst 0, 1) := by decide +kernel
theorem dX11_connect_35 : decode cX11_connect 35 = .ok (.ireturn, 1) := by decide +kernel
theorem dX11_connect_36 : decode cX11_connect 36 = .ok (.aload 9, 2) := by decide +kernel
theorem dX11_connect_38 : decode cX11_connect 38 = .ok (.iconst 3, 1) := by decide +kernel
theorem dX11_connect_39 : decode cX11_connect 39 = .ok (.putfield 59, 3) := by decide +kernel
theorem dX11_connect_42 : decode cX11_connect 42 = .ok (.aload 9, 2) := by decide +kernel
theorem dX11_connect_44 : decode cX11_connect 44 = .ok (.getfield 87, 3) := by decide +kernel
theorem dX11_connect_47 : decode cX11_connect 47 = .ok (.iload 4, 2) := by decide +kernel
theorem dX11_connect_49 : decode cX11_connect 49 = .ok (.iload 5, 2) := by decide +kernel
theorem dX11_connect_51 : decode cX11_connect 51 = .ok (.iload 6, 2) := by decide +kernel
theorem dX11_connect_53 : decode cX11_connect 53 = .ok (.lload 7, 2) := by decide +kernel
theorem dX11_connect_55 : decode cX11_connect 55 = .ok (.invokevirtual 91, 3) := by decide +kernel
theorem dX11_connect_58 : decode cX11_connect 58 = .ok (.aload 9, 2) := by decide +kernel
theorem dX11_connect_60 : decode cX11_connect 60 = .ok (.getfield 87, 3) := by decide +kernel
theorem dX11_connect_63 : decode cX11_connect 63 = .ok (.lload_n 2, 1) := by decide +kernel
theorem dX11_connect_64 : decode cX11_connect 64 = .ok (.ldc2_w 37, 3) := by decide +kernel
theorem dX11_connect_67 : decode cX11_connect 67 = .ok (.land, 1) := by decide +kernel
theorem dX11_connect_68 : decode cX11_connect 68 = .ok (.putfield 95, 3) := by decide +kernel
theorem dX11_connect_71 : decode cX11_connect 71 = .ok (.iconst 1, 1) := by decide +kernel
theorem dX11_connect_72 : decode cX11_connect 72 = .ok (.ireturn, 1) := by decide +kernel
theorem dX11_stop_0 : decode cX11_stop 0 = .ok (.aload_n 0, 1) := by decide +kernel
theorem dX11_stop_1 : decode cX11_stop 1 = .ok (.iload_n 1, 1) := by decide +kernel
theorem dX11_stop_2 : decode cX11_stop 2 = .ok (.invokevirtual 52, 3) := by decide +kernel
theorem dX11_stop_5 : decode cX11_stop 5 = .ok (.astore_n 2, 1) := by decide +kernel
theorem dX11_stop_6 : decode cX11_stop 6 = .ok (.aload_n 2, 1) := by decide +kernel
theorem dX11_stop_7 : decode cX11_stop 7 = .ok (.ifnull 17, 3) := by decide +kernel
theorem dX11_stop_10 : decode cX11_stop 10 = .ok (.aload_n 2, 1) := by decide +kernel
theorem dX11_stop_11 : decode cX11_stop 11 = .ok (.getfield 59, 3) := by decide +kernel
theorem dX11_stop_14 : decode cX11_stop 14 = .ok (.ifCond .eq 10, 3) := by decide +kernel
theorem dX11_stop_17 : decode cX11_stop 17 = .ok (.aload_n 2, 1) := by decide +kernel
theorem dX11_stop_18 : decode cX11_stop 18 = .ok (.invokevirtual 99, 3) := by decide +kernel
theorem dX11_stop_21 : decode cX11_stop 21 = .ok (.ifCond .eq 5, 3) := by decide +kernel
theorem dX11_stop_24 : decode cX11_stop 24 = .ok (.iconst 0, 1) := by decide +kernel
theorem dX11_stop_25 : decode cX11_stop 25 = .ok (.ireturn, 1) := by decide +kernel
theorem dX11_stop_26 : decode cX11_stop 26 = .ok (.aload_n 2, 1) := by decide +kernel
theorem dX11_stop_27 : decode cX11_stop 27 = .ok (.iconst 0, 1) := by decide +kernel
theorem dX11_stop_28 : decode cX11_stop 28 = .ok (.putfield 59, 3) := by decide +kernel
theorem dX11_stop_31 : decode cX11_stop 31 = .ok (.iconst 1, 1) := by decide +kernel
theorem dX11_stop_32 : decode cX11_stop 32 = .ok (.ireturn, 1) := by decide +kernel
theorem dX11_noise_0 : decode cX11_noise 0 = .ok (.aload_n 0, 1) := by decide +kernel
theorem dX11_noise_1 : decode cX11_noise 1 = .ok (.iload_n 1, 1) := by decide +kernel
theorem dX11_noise_2 : decode cX11_noise 2 = .ok (.invokevirtual 52, 3) := by decide +kernel
theorem dX11_noise_5 : decode cX11_noise 5 = .ok (.ifnull 19, 3) := by decide +kernel
theorem dX11_noise_8 : decode cX11_noise 8 = .ok (.aload_n 0, 1) := by decide +kernel
theorem dX11_noise_9 : decode cX11_noise 9 = .ok (.getfield 18, 3) := by decide +kernel
theorem dX11_noise_12 : decode cX11_noise 12 = .ok (.iload_n 1, 1) := by decide +kernel
theorem dX11_noise_13 : decode cX11_noise 13 = .ok (.iload_n 2, 1) := by decide +kernel
theorem dX11_noise_14 : decode cX11_noise 14 = .ok (.invokevirtual 103, 3) := by decide +kernel
theorem dX11_noise_17 : decode cX11_noise 17 = .ok (.ifCond .eq 7, 3) := by decide +kernel
theorem dX11_noise_20 : decode cX11_noise 20 = .ok (.iconst 1, 1) := by decide +kernel
theorem dX11_noise_21 : decode cX11_noise 21 = .ok (.goto 4, 3) := by decide +kernel
theorem dX11_noise_24 : decode cX11_noise 24 = .ok (.iconst 0, 1) := by decide +kernel
theorem dX11_noise_25 : decode cX11_noise 25 = .ok (.ireturn, 1) := by decide +kernel
theorem dX11_lose_0 : decode cX11_lose 0 = .ok (.aload_n 0, 1) := by decide +kernel
theorem dX11_lose_1 : decode cX11_lose 1 = .ok (.iload_n 1, 1) := by decide +kernel
theorem dX11_lose_2 : decode cX11_lose 2 = .ok (.invokevirtual 52, 3) := by decide +kernel
theorem dX11_lose_5 : decode cX11_lose 5 = .ok (.ifnull 19, 3) := by decide +kernel
theorem dX11_lose_8 : decode cX11_lose 8 = .ok (.aload_n 0, 1) := by decide +kernel
theorem dX11_lose_9 : decode cX11_lose 9 = .ok (.getfield 18, 3) := by decide +kernel
theorem dX11_lose_12 : decode cX11_lose 12 = .ok (.iload_n 1, 1) := by decide +kernel
theorem dX11_lose_13 : decode cX11_lose 13 = .ok (.iload_n 2, 1) := by decide +kernel
theorem dX11_lose_14 : decode cX11_lose 14 = .ok (.invokevirtual 107, 3) := by decide +kernel
theorem dX11_lose_17 : decode cX11_lose 17 = .ok (.ifCond .eq 7, 3) := by decide +kernel
theorem dX11_lose_20 : decode cX11_lose 20 = .ok (.iconst 1, 1) := by decide +kernel
theorem dX11_lose_21 : decode cX11_lose 21 = .ok (.goto 4, 3) := by decide +kernel
theorem dX11_lose_24 : decode cX11_lose 24 = .ok (.iconst 0, 1) := by decide +kernel
theorem dX11_lose_25 : decode cX11_lose 25 = .ok (.ireturn, 1) := by decide +kernel
theorem dX11_allow_0 : decode cX11_allow 0 = .ok (.aload_n 0, 1) := by decide +kernel
theorem dX11_allow_1 : decode cX11_allow 1 = .ok (.iload_n 1, 1) := by decide +kernel
theorem dX11_allow_2 : decode cX11_allow 2 = .ok (.invokevirtual 52, 3) := by decide +kernel
theorem dX11_allow_5 : decode cX11_allow 5 = .ok (.astore_n 3, 1) := by decide +kernel
theorem dX11_allow_6 : decode cX11_allow 6 = .ok (.aload_n 3, 1) := by decide +kernel
theorem dX11_allow_7 : decode cX11_allow 7 = .ok (.ifnull 14, 3) := by decide +kernel
theorem dX11_allow_10 : decode cX11_allow 10 = .ok (.iload_n 2, 1) := by decide +kernel
theorem dX11_allow_11 : decode cX11_allow 11 = .ok (.iconst (-1), 1) := by decide +kernel
theorem dX11_allow_12 : decode cX11_allow 12 = .ok (.if_icmp .lt 9, 3) := by decide +kernel
theorem dX11_allow_15 : decode cX11_allow 15 = .ok (.iload_n 2, 1) := by decide +kernel
theorem dX11_allow_16 : decode cX11_allow 16 = .ok (.ldc 110, 2) := by decide +kernel
theorem dX11_allow_18 : decode cX11_allow 18 = .ok (.if_icmp .le 5, 3) := by decide +kernel
theorem dX11_allow_21 : decode cX11_allow 21 = .ok (.iconst 0, 1) := by decide +kernel
theorem dX11_allow_22 : decode cX11_allow 22 = .ok (.ireturn, 1) := by decide +kernel
theorem dX11_allow_23 : decode cX11_allow 23 = .ok (.aload_n 3, 1) := by decide +kernel
theorem dX11_allow_24 : decode cX11_allow 24 = .ok (.getfield 111, 3) := by decide +kernel
theorem dX11_allow_27 : decode cX11_allow 27 = .ok (.iload_n 2, 1) := by decide +kernel
theorem dX11_allow_28 : decode cX11_allow 28 = .ok (.putfield 115, 3) := by decide +kernel
theorem dX11_allow_31 : decode cX11_allow 31 = .ok (.iconst 1, 1) := by decide +kernel
theorem dX11_allow_32 : decode cX11_allow 32 = .ok (.ireturn, 1) := by decide +kernel
theorem dX11_features_0 : decode cX11_features 0 = .ok (.aload_n 0, 1) := by decide +kernel
theorem dX11_features_1 : decode cX11_features 1 = .ok (.iload_n 1, 1) := by decide +kernel
theorem dX11_features_2 : decode cX11_features 2 = .ok (.invokevirtual 52, 3) := by decide +kernel
theorem dX11_features_5 : decode cX11_features 5 = .ok (.astore 4, 2) := by decide +kernel
theorem dX11_features_7 : decode cX11_features 7 = .ok (.aload 4, 2) := by decide +kernel
theorem dX11_features_9 : decode cX11_features 9 = .ok (.ifnonnull 5, 3) := by decide +kernel
theorem dX11_features_12 : decode cX11_features 12 = .ok (.iconst 0, 1) := by decide +kernel
theorem dX11_features_13 : decode cX11_features 13 = .ok (.ireturn, 1) := by decide +kernel
theorem dX11_features_14 : decode cX11_features 14 = .ok (.aload 4, 2) := by decide +kernel
theorem dX11_features_16 : decode cX11_features 16 = .ok (.lload_n 2, 1) := by decide +kernel
theorem dX11_features_17 : decode cX11_features 17 = .ok (.putfield 120, 3) := by decide +kernel
theorem dX11_features_20 : decode cX11_features 20 = .ok (.iconst 1, 1) := by decide +kernel
theorem dX11_features_21 : decode cX11_features 21 = .ok (.ireturn, 1) := by decide +kernel
theorem dX11_attribute_0 : decode cX11_attribute 0 = .ok (.aload_n 0, 1) := by decide +kernel
theorem dX11_attribute_1 : decode cX11_attribute 1 = .ok (.iload_n 1, 1) := by decide +kernel
theorem dX11_attribute_2 : decode cX11_attribute 2 = .ok (.invokevirtual 52, 3) := by decide +kernel
theorem dX11_attribute_5 : decode cX11_attribute 5 = .ok (.astore 4, 2) := by decide +kernel
theorem dX11_attribute_7 : decode cX11_attribute 7 = .ok (.aload 4, 2) := by decide +kernel
theorem dX11_attribute_9 : decode cX11_attribute 9 = .ok (.ifnull 35, 3) := by decide +kernel
theorem dX11_attribute_12 : decode cX11_attribute 12 = .ok (.iload_n 2, 1) := by decide +kernel
theorem dX11_attribute_13 : decode cX11_attribute 13 = .ok (.ifCond .lt 31, 3) := by decide +kernel
theorem dX11_attribute_16 : decode cX11_attribute 16 = .ok (.iload_n 2, 1) := by decide +kernel
theorem dX11_attribute_17 : decode cX11_attribute 17 = .ok (.ldc 123, 2) := by decide +kernel
theorem dX11_attribute_19 : decode cX11_attribute 19 = .ok (.if_icmp .gt 25, 3) := by decide +kernel
theorem dX11_attribute_22 : decode cX11_attribute 22 = .ok (.iload_n 3, 1) := by decide +kernel
theorem dX11_attribute_23 : decode cX11_attribute 23 = .ok (.ifCond .lt 21, 3) := by decide +kernel
theorem dX11_attribute_26 : decode cX11_attribute 26 = .ok (.iload_n 3, 1) := by decide +kernel
theorem dX11_attribute_27 : decode cX11_attribute 27 = .ok (.bipush 7, 2) := by decide +kernel
theorem dX11_attribute_29 : decode cX11_attribute 29 = .ok (.if_icmp .gt 15, 3) := by decide +kernel
theorem dX11_attribute_32 : decode cX11_attribute 32 = .ok (.aload_n 0, 1) := by decide +kernel
theorem dX11_attribute_33 : decode cX11_attribute 33 = .ok (.getfield 27, 3) := by decide +kernel
theorem dX11_attribute_36 : decode cX11_attribute 36 = .ok (.getfield 42, 3) := by decide +kernel
theorem dX11_attribute_39 : decode cX11_attribute 39 = .ok (.bipush 40, 2) := by decide +kernel
theorem dX11_attribute_41 : decode cX11_attribute 41 = .ok (.if_icmp .le 5, 3) := by decide +kernel
theorem dX11_attribute_44 : decode cX11_attribute 44 = .ok (.iconst (-1), 1) := by decide +kernel
theorem dX11_attribute_45 : decode cX11_attribute 45 = .ok (.ireturn, 1) := by decide +kernel
theorem dX11_attribute_46 : decode cX11_attribute 46 = .ok (.aload 4, 2) := by decide +kernel
theorem dX11_attribute_48 : decode cX11_attribute 48 = .ok (.getfield 124, 3) := by decide +kernel
theorem dX11_attribute_51 : decode cX11_attribute 51 = .ok (.iload_n 2, 1) := by decide +kernel
theorem dX11_attribute_52 : decode cX11_attribute 52 = .ok (.iload_n 3, 1) := by decide +kernel
theorem dX11_attribute_53 : decode cX11_attribute 53 = .ok (.aload_n 0, 1) := by decide +kernel
theorem dX11_attribute_54 : decode cX11_attribute 54 = .ok (.getfield 27, 3) := by decide +kernel
theorem dX11_attribute_57 : decode cX11_attribute 57 = .ok (.invokevirtual 128, 3) := by decide +kernel
theorem dX11_attribute_60 : decode cX11_attribute 60 = .ok (.istore 5, 2) := by decide +kernel
theorem dX11_attribute_62 : decode cX11_attribute 62 = .ok (.iload 5, 2) := by decide +kernel
theorem dX11_attribute_64 : decode cX11_attribute 64 = .ok (.iconst (-1), 1) := by decide +kernel
theorem dX11_attribute_65 : decode cX11_attribute 65 = .ok (.if_icmp .eq 10, 3) := by decide +kernel
theorem dX11_attribute_68 : decode cX11_attribute 68 = .ok (.aload_n 0, 1) := by decide +kernel
theorem dX11_attribute_69 : decode cX11_attribute 69 = .ok (.getfield 27, 3) := by decide +kernel
theorem dX11_attribute_72 : decode cX11_attribute 72 = .ok (.invokevirtual 78, 3) := by decide +kernel
theorem dX11_attribute_75 : decode cX11_attribute 75 = .ok (.iload 5, 2) := by decide +kernel
theorem dX11_attribute_77 : decode cX11_attribute 77 = .ok (.ireturn, 1) := by decide +kernel
theorem dX11_set_0 : decode cX11_set 0 = .ok (.aload_n 0, 1) := by decide +kernel
theorem dX11_set_1 : decode cX11_set 1 = .ok (.iload_n 1, 1) := by decide +kernel
theorem dX11_set_2 : decode cX11_set 2 = .ok (.invokevirtual 52, 3) := by decide +kernel
theorem dX11_set_5 : decode cX11_set 5 = .ok (.astore_n 3, 1) := by decide +kernel
theorem dX11_set_6 : decode cX11_set 6 = .ok (.aload_n 3, 1) := by decide +kernel
theorem dX11_set_7 : decode cX11_set 7 = .ok (.ifnonnull 7, 3) := by decide +kernel
theorem dX11_set_10 : decode cX11_set 10 = .ok (.aconst_null, 1) := by decide +kernel
theorem dX11_set_11 : decode cX11_set 11 = .ok (.goto 11, 3) := by decide +kernel
theorem dX11_set_14 : decode cX11_set 14 = .ok (.aload_n 3, 1) := by decide +kernel
theorem dX11_set_15 : decode cX11_set 15 = .ok (.getfield 124, 3) := by decide +kernel
theorem dX11_set_18 : decode cX11_set 18 = .ok (.iload_n 2, 1) := by decide +kernel
theorem dX11_set_19 : decode cX11_set 19 = .ok (.invokevirtual 134, 3) := by decide +kernel
theorem dX11_set_22 : decode cX11_set 22 = .ok (.astore 4, 2) := by decide +kernel
theorem dX11_set_24 : decode cX11_set 24 = .ok (.aload 4, 2) := by decide +kernel
theorem dX11_set_26 : decode cX11_set 26 = .ok (.ifnull 15, 3) := by decide +kernel
theorem dX11_set_29 : decode cX11_set 29 = .ok (.aload_n 0, 1) := by decide +kernel
theorem dX11_set_30 : decode cX11_set 30 = .ok (.getfield 27, 3) := by decide +kernel
theorem dX11_set_33 : decode cX11_set 33 = .ok (.getfield 42, 3) := by decide +kernel
theorem dX11_set_36 : decode cX11_set 36 = .ok (.bipush 40, 2) := by decide +kernel
theorem dX11_set_38 : decode cX11_set 38 = .ok (.if_icmp .le 5, 3) := by decide +kernel
theorem dX11_set_41 : decode cX11_set 41 = .ok (.iconst 0, 1) := by decide +kernel
theorem dX11_set_42 : decode cX11_set 42 = .ok (.ireturn, 1) := by decide +kernel
theorem dX11_set_43 : decode cX11_set 43 = .ok (.aload 4, 2) := by decide +kernel
theorem dX11_set_45 : decode cX11_set 45 = .ok (.aload_n 0, 1) := by decide +kernel
theorem dX11_set_46 : decode cX11_set 46 = .ok (.getfield 27, 3) := by decide +kernel
theorem dX11_set_49 : decode cX11_set 49 = .ok (.invokevirtual 74, 3) := by decide +kernel
theorem dX11_set_52 : decode cX11_set 52 = .ok (.aload_n 0, 1) := by decide +kernel
theorem dX11_set_53 : decode cX11_set 53 = .ok (.getfield 27, 3) := by decide +kernel
theorem dX11_set_56 : decode cX11_set 56 = .ok (.invokevirtual 78, 3) := by decide +kernel
theorem dX11_set_59 : decode cX11_set 59 = .ok (.iconst 1, 1) := by decide +kernel
theorem dX11_set_60 : decode cX11_set 60 = .ok (.ireturn, 1) := by decide +kernel
theorem dX11_mtu_0 : decode cX11_mtu 0 = .ok (.aload_n 0, 1) := by decide +kernel
theorem dX11_mtu_1 : decode cX11_mtu 1 = .ok (.iload_n 1, 1) := by decide +kernel
theorem dX11_mtu_2 : decode cX11_mtu 2 = .ok (.invokevirtual 52, 3) := by decide +kernel
theorem dX11_mtu_5 : decode cX11_mtu 5 = .ok (.astore_n 3, 1) := by decide +kernel
theorem dX11_mtu_6 : decode cX11_mtu 6 = .ok (.aload_n 3, 1) := by decide +kernel
theorem dX11_mtu_7 : decode cX11_mtu 7 = .ok (.ifnull 15, 3) := by decide +kernel
theorem dX11_mtu_10 : decode cX11_mtu 10 = .ok (.iload_n 2, 1) := by decide +kernel
theorem dX11_mtu_11 : decode cX11_mtu 11 = .ok (.bipush 23, 2) := by decide +kernel
theorem dX11_mtu_13 : decode cX11_mtu 13 = .ok (.if_icmp .lt 9, 3) := by decide +kernel
theorem dX11_mtu_16 : decode cX11_mtu 16 = .ok (.iload_n 2, 1) := by decide +kernel
theorem dX11_mtu_17 : decode cX11_mtu 17 = .ok (.bipush 64, 2) := by decide +kernel
theorem dX11_mtu_19 : decode cX11_mtu 19 = .ok (.if_icmp .le 5, 3) := by decide +kernel
theorem dX11_mtu_22 : decode cX11_mtu 22 = .ok (.iconst 0, 1) := by decide +kernel
theorem dX11_mtu_23 : decode cX11_mtu 23 = .ok (.ireturn, 1) := by decide +kernel
theorem dX11_mtu_24 : decode cX11_mtu 24 = .ok (.aload_n 3, 1) := by decide +kernel
theorem dX11_mtu_25 : decode cX11_mtu 25 = .ok (.getfield 124, 3) := by decide +kernel
theorem dX11_mtu_28 : decode cX11_mtu 28 = .ok (.iload_n 2, 1) := by decide +kernel
theorem dX11_mtu_29 : decode cX11_mtu 29 = .ok (.putfield 138, 3) := by decide +kernel
theorem dX11_mtu_32 : decode cX11_mtu 32 = .ok (.iconst 1, 1) := by decide +kernel
theorem dX11_mtu_33 : decode cX11_mtu 33 = .ok (.ireturn, 1) := by decide +kernel
theorem dX11_control_0 : decode cX11_control 0 = .ok (.aload_n 0, 1) := by decide +kernel
theorem dX11_control_1 : decode cX11_control 1 = .ok (.iload_n 1, 1) := by decide +kernel
theorem dX11_control_2 : decode cX11_control 2 = .ok (.invokevirtual 52, 3) := by decide +kernel
theorem dX11_control_5 : decode cX11_control 5 = .ok (.astore_n 3, 1) := by decide +kernel
theorem dX11_control_6 : decode cX11_control 6 = .ok (.aload_n 3, 1) := by decide +kernel
theorem dX11_control_7 : decode cX11_control 7 = .ok (.ifnull 17, 3) := by decide +kernel
theorem dX11_control_10 : decode cX11_control 10 = .ok (.aload_n 3, 1) := by decide +kernel
theorem dX11_control_11 : decode cX11_control 11 = .ok (.invokevirtual 99, 3) := by decide +kernel
theorem dX11_control_14 : decode cX11_control 14 = .ok (.ifCond .eq 10, 3) := by decide +kernel
theorem dX11_control_17 : decode cX11_control 17 = .ok (.aload_n 3, 1) := by decide +kernel
theorem dX11_control_18 : decode cX11_control 18 = .ok (.invokevirtual 141, 3) := by decide +kernel
theorem dX11_control_21 : decode cX11_control 21 = .ok (.ifCond .ne 5, 3) := by decide +kernel
theorem dX11_control_24 : decode cX11_control 24 = .ok (.iconst 0, 1) := by decide +kernel
theorem dX11_control_25 : decode cX11_control 25 = .ok (.ireturn, 1) := by decide +kernel
theorem dX11_control_26 : decode cX11_control 26 = .ok (.iload_n 2, 1) := by decide +kernel
theorem dX11_control_27 : decode cX11_control 27 = .ok (.tableswitch 81 0 2 #[25, 46, 66], 25) := by decide +kernel
theorem dX11_control_52 : decode cX11_control 52 = .ok (.aload_n 3, 1) := by decide +kernel
theorem dX11_control_53 : decode cX11_control 53 = .ok (.getfield 144, 3) := by decide +kernel
theorem dX11_control_56 : decode cX11_control 56 = .ok (.getfield 148, 3) := by decide +kernel
theorem dX11_control_59 : decode cX11_control 59 = .ok (.ifCond .eq 5, 3) := by decide +kernel
theorem dX11_control_62 : decode cX11_control 62 = .ok (.iconst 0, 1) := by decide +kernel
theorem dX11_control_63 : decode cX11_control 63 = .ok (.ireturn, 1) := by decide +kernel
theorem dX11_control_64 : decode cX11_control 64 = .ok (.aload_n 3, 1) := by decide +kernel
theorem dX11_control_65 : decode cX11_control 65 = .ok (.getfield 144, 3) := by decide +kernel
theorem dX11_control_68 : decode cX11_control 68 = .ok (.invokevirtual 154, 3) := by decide +kernel
theorem dX11_control_71 : decode cX11_control 71 = .ok (.iconst 1, 1) := by decide +kernel
theorem dX11_control_72 : decode cX11_control 72 = .ok (.ireturn, 1) := by decide +kernel
theorem dX11_control_73 : decode cX11_control 73 = .ok (.aload_n 3, 1) := by decide +kernel
theorem dX11_control_74 : decode cX11_control 74 = .ok (.getfield 144, 3) := by decide +kernel
theorem dX11_control_77 : decode cX11_control 77 = .ok (.bipush 8, 2) := by decide +kernel
theorem dX11_control_79 : decode cX11_control 79 = .ok (.invokevirtual 157, 3) := by decide +kernel
theorem dX11_control_82 : decode cX11_control 82 = .ok (.aload_n 3, 1) := by decide +kernel
theorem dX11_control_83 : decode cX11_control 83 = .ok (.getfield 120, 3) := by decide +kernel
theorem dX11_control_86 : decode cX11_control 86 = .ok (.bipush 8, 2) := by decide +kernel
theorem dX11_control_88 : decode cX11_control 88 = .ok (.invokevirtual 160, 3) := by decide +kernel
theorem dX11_control_91 : decode cX11_control 91 = .ok (.iconst 1, 1) := by decide +kernel
theorem dX11_control_92 : decode cX11_control 92 = .ok (.ireturn, 1) := by decide +kernel
theorem dX11_control_93 : decode cX11_control 93 = .ok (.aload_n 3, 1) := by decide +kernel
theorem dX11_control_94 : decode cX11_control 94 = .ok (.getfield 144, 3) := by decide +kernel
theorem dX11_control_97 : decode cX11_control 97 = .ok (.iconst 2, 1) := by decide +kernel
theorem dX11_control_98 : decode cX11_control 98 = .ok (.invokevirtual 157, 3) := by decide +kernel
theorem dX11_control_101 : decode cX11_control 101 = .ok (.bipush 19, 2) := by decide +kernel
theorem dX11_control_103 : decode cX11_control 103 = .ok (.invokevirtual 164, 3) := by decide +kernel
theorem dX11_control_106 : decode cX11_control 106 = .ok (.iconst 1, 1) := by decide +kernel
theorem dX11_control_107 : decode cX11_control 107 = .ok (.ireturn, 1) := by decide +kernel
theorem dX11_control_108 : decode cX11_control 108 = .ok (.iconst 0, 1) := by decide +kernel
theorem dX11_control_109 : decode cX11_control 109 = .ok (.ireturn, 1) := by decide +kernel
theorem dX11_map_0 : decode cX11_map 0 = .ok (.aload_n 0, 1) := by decide +kernel
theorem dX11_map_1 : decode cX11_map 1 = .ok (.iload_n 1, 1) := by decide +kernel
theorem dX11_map_2 : decode cX11_map 2 = .ok (.invokevirtual 52, 3) := by decide +kernel
theorem dX11_map_5 : decode cX11_map 5 = .ok (.astore 4, 2) := by decide +kernel
theorem dX11_map_7 : decode cX11_map 7 = .ok (.aload 4, 2) := by decide +kernel
theorem dX11_map_9 : decode cX11_map 9 = .ok (.ifnull 38, 3) := by decide +kernel
theorem dX11_map_12 : decode cX11_map 12 = .ok (.aload 4, 2) := by decide +kernel
theorem dX11_map_14 : decode cX11_map 14 = .ok (.getfield 59, 3) := by decide +kernel
theorem dX11_map_17 : decode cX11_map 17 = .ok (.iconst 4, 1) := by decide +kernel
theorem dX11_map_18 : decode cX11_map 18 = .ok (.if_icmp .ne 29, 3) := by decide +kernel
theorem dX11_map_21 : decode cX11_map 21 = .ok (.aload 4, 2) := by decide +kernel
theorem dX11_map_23 : decode cX11_map 23 = .ok (.invokevirtual 141, 3) := by decide +kernel
theorem dX11_map_26 : decode cX11_map 26 = .ok (.ifCond .eq 21, 3) := by decide +kernel
theorem dX11_map_29 : decode cX11_map 29 = .ok (.aload 4, 2) := by decide +kernel
theorem dX11_map_31 : decode cX11_map 31 = .ok (.getfield 87, 3) := by decide +kernel
theorem dX11_map_34 : decode cX11_map 34 = .ok (.getfield 167, 3) := by decide +kernel
theorem dX11_map_37 : decode cX11_map 37 = .ok (.ifCond .ne 10, 3) := by decide +kernel
theorem dX11_map_40 : decode cX11_map 40 = .ok (.lload_n 2, 1) := by decide +kernel
theorem dX11_map_41 : decode cX11_map 41 = .ok (.invokestatic 170, 3) := by decide +kernel
theorem dX11_map_44 : decode cX11_map 44 = .ok (.ifCond .ne 5, 3) := by decide +kernel
theorem dX11_map_47 : decode cX11_map 47 = .ok (.iconst 0, 1) := by decide +kernel
theorem dX11_map_48 : decode cX11_map 48 = .ok (.ireturn, 1) := by decide +kernel
theorem dX11_map_49 : decode cX11_map 49 = .ok (.aload 4, 2) := by decide +kernel
theorem dX11_map_51 : decode cX11_map 51 = .ok (.getfield 87, 3) := by decide +kernel
theorem dX11_map_54 : decode cX11_map 54 = .ok (.lload_n 2, 1) := by decide +kernel
theorem dX11_map_55 : decode cX11_map 55 = .ok (.aload 4, 2) := by decide +kernel
theorem dX11_map_57 : decode cX11_map 57 = .ok (.getfield 87, 3) := by decide +kernel
theorem dX11_map_60 : decode cX11_map 60 = .ok (.getfield 174, 3) := by decide +kernel
theorem dX11_map_63 : decode cX11_map 63 = .ok (.bipush 8, 2) := by decide +kernel
theorem dX11_map_65 : decode cX11_map 65 = .ok (.iadd, 1) := by decide +kernel
theorem dX11_map_66 : decode cX11_map 66 = .ok (.ldc 123, 2) := by decide +kernel
theorem dX11_map_68 : decode cX11_map 68 = .ok (.iand, 1) := by decide +kernel
theorem dX11_map_69 : decode cX11_map 69 = .ok (.invokevirtual 177, 3) := by decide +kernel
theorem dX11_map_72 : decode cX11_map 72 = .ok (.aload 4, 2) := by decide +kernel
theorem dX11_map_74 : decode cX11_map 74 = .ok (.getfield 144, 3) := by decide +kernel
theorem dX11_map_77 : decode cX11_map 77 = .ok (.iconst 1, 1) := by decide +kernel
theorem dX11_map_78 : decode cX11_map 78 = .ok (.invokevirtual 157, 3) := by decide +kernel
theorem dX11_map_81 : decode cX11_map 81 = .ok (.astore 5, 2) := by decide +kernel
theorem dX11_map_83 : decode cX11_map 83 = .ok (.aload 5, 2) := by decide +kernel
theorem dX11_map_85 : decode cX11_map 85 = .ok (.lload_n 2, 1) := by decide +kernel
theorem dX11_map_86 : decode cX11_map 86 = .ok (.iconst 5, 1) := by decide +kernel
theorem dX11_map_87 : decode cX11_map 87 = .ok (.invokevirtual 160, 3) := by decide +kernel
theorem dX11_map_90 : decode cX11_map 90 = .ok (.aload 5, 2) := by decide +kernel
theorem dX11_map_92 : decode cX11_map 92 = .ok (.aload 4, 2) := by decide +kernel
theorem dX11_map_94 : decode cX11_map 94 = .ok (.getfield 87, 3) := by decide +kernel
theorem dX11_map_97 : decode cX11_map 97 = .ok (.getfield 180, 3) := by decide +kernel
theorem dX11_map_100 : decode cX11_map 100 = .ok (.i2l, 1) := by decide +kernel
theorem dX11_map_101 : decode cX11_map 101 = .ok (.iconst 2, 1) := by decide +kernel
theorem dX11_map_102 : decode cX11_map 102 = .ok (.invokevirtual 160, 3) := by decide +kernel
theorem dX11_map_105 : decode cX11_map 105 = .ok (.iconst 1, 1) := by decide +kernel
theorem dX11_map_106 : decode cX11_map 106 = .ok (.ireturn, 1) := by decide +kernel
theorem dX11_encrypt_0 : decode cX11_encrypt 0 = .ok (.aload_n 0, 1) := by decide +kernel
theorem dX11_encrypt_1 : decode cX11_encrypt 1 = .ok (.iload_n 1, 1) := by decide +kernel
theorem dX11_encrypt_2 : decode cX11_encrypt 2 = .ok (.invokevirtual 52, 3) := by decide +kernel
theorem dX11_encrypt_5 : decode cX11_encrypt 5 = .ok (.astore_n 2, 1) := by decide +kernel
theorem dX11_encrypt_6 : decode cX11_encrypt 6 = .ok (.aload_n 2, 1) := by decide +kernel
theorem dX11_encrypt_7 : decode cX11_encrypt 7 = .ok (.ifnull 38, 3) := by decide +kernel
theorem dX11_encrypt_10 : decode cX11_encrypt 10 = .ok (.aload_n 2, 1) := by decide +kernel
theorem dX11_encrypt_11 : decode cX11_encrypt 11 = .ok (.getfield 59, 3) := by decide +kernel
theorem dX11_encrypt_14 : decode cX11_encrypt 14 = .ok (.iconst 4, 1) := by decide +kernel
theorem dX11_encrypt_15 : decode cX11_encrypt 15 = .ok (.if_icmp .ne 30, 3) := by decide +kernel
theorem dX11_encrypt_18 : decode cX11_encrypt 18 = .ok (.aload_n 2, 1) := by decide +kernel
theorem dX11_encrypt_19 : decode cX11_encrypt 19 = .ok (.getfield 183, 3) := by decide +kernel
theorem dX11_encrypt_22 : decode cX11_encrypt 22 = .ok (.getfield 187, 3) := by decide +kernel
theorem dX11_encrypt_25 : decode cX11_encrypt 25 = .ok (.ifCond .eq 20, 3) := by decide +kernel
theorem dX11_encrypt_28 : decode cX11_encrypt 28 = .ok (.aload_n 2, 1) := by decide +kernel
theorem dX11_encrypt_29 : decode cX11_encrypt 29 = .ok (.getfield 183, 3) := by decide +kernel
theorem dX11_encrypt_32 : decode cX11_encrypt 32 = .ok (.getfield 192, 3) := by decide +kernel
theorem dX11_encrypt_35 : decode cX11_encrypt 35 = .ok (.ifCond .ne 10, 3) := by decide +kernel
theorem dX11_encrypt_38 : decode cX11_encrypt 38 = .ok (.aload_n 2, 1) := by decide +kernel
theorem dX11_encrypt_39 : decode cX11_encrypt 39 = .ok (.invokevirtual 141, 3) := by decide +kernel
theorem dX11_encrypt_42 : decode cX11_encrypt 42 = .ok (.ifCond .ne 5, 3) := by decide +kernel
theorem dX11_encrypt_45 : decode cX11_encrypt 45 = .ok (.iconst 0, 1) := by decide +kernel
theorem dX11_encrypt_46 : decode cX11_encrypt 46 = .ok (.ireturn, 1) := by decide +kernel
theorem dX11_encrypt_47 : decode cX11_encrypt 47 = .ok (.aload_n 2, 1) := by decide +kernel
theorem dX11_encrypt_48 : decode cX11_encrypt 48 = .ok (.getfield 183, 3) := by decide +kernel
theorem dX11_encrypt_51 : decode cX11_encrypt 51 = .ok (.iconst 1, 1) := by decide +kernel
theorem dX11_encrypt_52 : decode cX11_encrypt 52 = .ok (.putfield 195, 3) := by decide +kernel
theorem dX11_encrypt_55 : decode cX11_encrypt 55 = .ok (.aload_n 2, 1) := by decide +kernel
theorem dX11_encrypt_56 : decode cX11_encrypt 56 = .ok (.getfield 183, 3) := by decide +kernel
theorem dX11_encrypt_59 : decode cX11_encrypt 59 = .ok (.iconst 1, 1) := by decide +kernel
theorem dX11_encrypt_60 : decode cX11_encrypt 60 = .ok (.putfield 198, 3) := by decide +kernel
theorem dX11_encrypt_63 : decode cX11_encrypt 63 = .ok (.aload_n 2, 1) := by decide +kernel
theorem dX11_encrypt_64 : decode cX11_encrypt 64 = .ok (.getfield 183, 3) := by decide +kernel
theorem dX11_encrypt_67 : decode cX11_encrypt 67 = .ok (.iconst 0, 1) := by decide +kernel
theorem dX11_encrypt_68 : decode cX11_encrypt 68 = .ok (.putfield 201, 3) := by decide +kernel
theorem dX11_encrypt_71 : decode cX11_encrypt 71 = .ok (.aload_n 2, 1) := by decide +kernel
theorem dX11_encrypt_72 : decode cX11_encrypt 72 = .ok (.aload_n 2, 1) := by decide +kernel
theorem dX11_encrypt_73 : decode cX11_encrypt 73 = .ok (.getfield 183, 3) := by decide +kernel
theorem dX11_encrypt_76 : decode cX11_encrypt 76 = .ok (.getfield 204, 3) := by decide +kernel
theorem dX11_encrypt_79 : decode cX11_encrypt 79 = .ok (.iconst 0, 1) := by decide +kernel
theorem dX11_encrypt_80 : decode cX11_encrypt 80 = .ok (.bipush 8, 2) := by decide +kernel
theorem dX11_encrypt_82 : decode cX11_encrypt 82 = .ok (.invokevirtual 208, 3) := by decide +kernel
theorem dX11_encrypt_85 : decode cX11_encrypt 85 = .ok (.aload_n 2, 1) := by decide +kernel
theorem dX11_encrypt_86 : decode cX11_encrypt 86 = .ok (.aload_n 2, 1) := by decide +kernel
theorem dX11_encrypt_87 : decode cX11_encrypt 87 = .ok (.getfield 183, 3) := by decide +kernel
theorem dX11_encrypt_90 : decode cX11_encrypt 90 = .ok (.getfield 212, 3) := by decide +kernel
theorem dX11_encrypt_93 : decode cX11_encrypt 93 = .ok (.iconst 0, 1) := by decide +kernel
theorem dX11_encrypt_94 : decode cX11_encrypt 94 = .ok (.iconst 4, 1) := by decide +kernel
theorem dX11_encrypt_95 : decode cX11_encrypt 95 = .ok (.invokevirtual 208, 3) := by decide +kernel
theorem dX11_encrypt_98 : decode cX11_encrypt 98 = .ok (.aload_n 2, 1) := by decide +kernel
theorem dX11_encrypt_99 : decode cX11_encrypt 99 = .ok (.getfield 183, 3) := by decide +kernel
theorem dX11_encrypt_102 : decode cX11_encrypt 102 = .ok (.aload_n 2, 1) := by decide +kernel
theorem dX11_encrypt_103 : decode cX11_encrypt 103 = .ok (.getfield 144, 3) := by decide +kernel
theorem dX11_encrypt_106 : decode cX11_encrypt 106 = .ok (.iconst 3, 1) := by decide +kernel
theorem dX11_encrypt_107 : decode cX11_encrypt 107 = .ok (.invokevirtual 157, 3) := by decide +kernel
theorem dX11_encrypt_110 : decode cX11_encrypt 110 = .ok (.iconst 0, 1) := by decide +kernel
theorem dX11_encrypt_111 : decode cX11_encrypt 111 = .ok (.invokevirtual 215, 3) := by decide +kernel
theorem dX11_encrypt_114 : decode cX11_encrypt 114 = .ok (.iconst 1, 1) := by decide +kernel
theorem dX11_encrypt_115 : decode cX11_encrypt 115 = .ok (.ireturn, 1) := by decide +kernel
theorem dX11_pair_0 : decode cX11_pair 0 = .ok (.aload_n 0, 1) := by decide +kernel
theorem dX11_pair_1 : decode cX11_pair 1 = .ok (.iload_n 1, 1) := by decide +kernel
theorem dX11_pair_2 : decode cX11_pair 2 = .ok (.invokevirtual 52, 3) := by decide +kernel
theorem dX11_pair_5 : decode cX11_pair 5 = .ok (.astore_n 3, 1) := by decide +kernel
theorem dX11_pair_6 : decode cX11_pair 6 = .ok (.aload_n 3, 1) := by decide +kernel
theorem dX11_pair_7 : decode cX11_pair 7 = .ok (.ifnull 41, 3) := by decide +kernel
theorem dX11_pair_10 : decode cX11_pair 10 = .ok (.aload_n 3, 1) := by decide +kernel
theorem dX11_pair_11 : decode cX11_pair 11 = .ok (.getfield 59, 3) := by decide +kernel
theorem dX11_pair_14 : decode cX11_pair 14 = .ok (.iconst 4, 1) := by decide +kernel
theorem dX11_pair_15 : decode cX11_pair 15 = .ok (.if_icmp .ne 33, 3) := by decide +kernel
theorem dX11_pair_18 : decode cX11_pair 18 = .ok (.aload_n 3, 1) := by decide +kernel
theorem dX11_pair_19 : decode cX11_pair 19 = .ok (.getfield 111, 3) := by decide +kernel
theorem dX11_pair_22 : decode cX11_pair 22 = .ok (.getfield 219, 3) := by decide +kernel
theorem dX11_pair_25 : decode cX11_pair 25 = .ok (.ifCond .ne 23, 3) := by decide +kernel
theorem dX11_pair_28 : decode cX11_pair 28 = .ok (.aload_n 3, 1) := by decide +kernel
theorem dX11_pair_29 : decode cX11_pair 29 = .ok (.getfield 144, 3) := by decide +kernel
theorem dX11_pair_32 : decode cX11_pair 32 = .ok (.invokevirtual 222, 3) := by decide +kernel
theorem dX11_pair_35 : decode cX11_pair 35 = .ok (.ifCond .ne 13, 3) := by decide +kernel
theorem dX11_pair_38 : decode cX11_pair 38 = .ok (.iload_n 2, 1) := by decide +kernel
theorem dX11_pair_39 : decode cX11_pair 39 = .ok (.ifCond .lt 9, 3) := by decide +kernel
theorem dX11_pair_42 : decode cX11_pair 42 = .ok (.iload_n 2, 1) := by decide +kernel
theorem dX11_pair_43 : decode cX11_pair 43 = .ok (.ldc 110, 2) := by decide +kernel
theorem dX11_pair_45 : decode cX11_pair 45 = .ok (.if_icmp .le 5, 3) := by decide +kernel
theorem dX11_pair_48 : decode cX11_pair 48 = .ok (.iconst 0, 1) := by decide +kernel
theorem dX11_pair_49 : decode cX11_pair 49 = .ok (.ireturn, 1) := by decide +kernel
theorem dX11_pair_50 : decode cX11_pair 50 = .ok (.aload_n 3, 1) := by decide +kernel
theorem dX11_pair_51 : decode cX11_pair 51 = .ok (.getfield 225, 3) := by decide +kernel
theorem dX11_pair_54 : decode cX11_pair 54 = .ok (.invokevirtual 78, 3) := by decide +kernel
theorem dX11_pair_57 : decode cX11_pair 57 = .ok (.aload_n 3, 1) := by decide +kernel
theorem dX11_pair_58 : decode cX11_pair 58 = .ok (.getfield 111, 3) := by decide +kernel
theorem dX11_pair_61 : decode cX11_pair 61 = .ok (.iload_n 2, 1) := by decide +kernel
theorem dX11_pair_62 : decode cX11_pair 62 = .ok (.aload_n 3, 1) := by decide +kernel
theorem dX11_pair_63 : decode cX11_pair 63 = .ok (.getfield 225, 3) := by decide +kernel
theorem dX11_pair_66 : decode cX11_pair 66 = .ok (.invokevirtual 228, 3) := by decide +kernel
theorem dX11_pair_69 : decode cX11_pair 69 = .ok (.aload_n 3, 1) := by decide +kernel
theorem dX11_pair_70 : decode cX11_pair 70 = .ok (.getfield 144, 3) := by decide +kernel
theorem dX11_pair_73 : decode cX11_pair 73 = .ok (.bipush 6, 2) := by decide +kernel
theorem dX11_pair_75 : decode cX11_pair 75 = .ok (.aload_n 3, 1) := by decide +kernel
theorem dX11_pair_76 : decode cX11_pair 76 = .ok (.getfield 225, 3) := by decide +kernel
theorem dX11_pair_79 : decode cX11_pair 79 = .ok (.invokevirtual 232, 3) := by decide +kernel
theorem dX11_pair_82 : decode cX11_pair 82 = .ok (.iconst 1, 1) := by decide +kernel
theorem dX11_pair_83 : decode cX11_pair 83 = .ok (.ireturn, 1) := by decide +kernel
theorem dX11_job_0 : decode cX11_job 0 = .ok (.aload_n 0, 1) := by decide +kernel
theorem dX11_job_1 : decode cX11_job 1 = .ok (.iload_n 1, 1) := by decide +kernel
theorem dX11_job_2 : decode cX11_job 2 = .ok (.invokevirtual 52, 3) := by decide +kernel
theorem dX11_job_5 : decode cX11_job 5 = .ok (.astore 5, 2) := by decide +kernel
theorem dX11_job_7 : decode cX11_job 7 = .ok (.aload 5, 2) := by decide +kernel
theorem dX11_job_9 : decode cX11_job 9 = .ok (.ifnull 44, 3) := by decide +kernel
theorem dX11_job_12 : decode cX11_job 12 = .ok (.aload 5, 2) := by decide +kernel
theorem dX11_job_14 : decode cX11_job 14 = .ok (.invokevirtual 99, 3) := by decide +kernel
theorem dX11_job_17 : decode cX11_job 17 = .ok (.ifCond .eq 36, 3) := by decide +kernel
theorem dX11_job_20 : decode cX11_job 20 = .ok (.aload 5, 2) := by decide +kernel
theorem dX11_job_22 : decode cX11_job 22 = .ok (.getfield 235, 3) := by decide +kernel
theorem dX11_job_25 : decode cX11_job 25 = .ok (.getfield 239, 3) := by decide +kernel
theorem dX11_job_28 : decode cX11_job 28 = .ok (.iconst (-1), 1) := by decide +kernel
theorem dX11_job_29 : decode cX11_job 29 = .ok (.if_icmp .ne 24, 3) := by decide +kernel
theorem dX11_job_32 : decode cX11_job 32 = .ok (.aload 5, 2) := by decide +kernel
theorem dX11_job_34 : decode cX11_job 34 = .ok (.getfield 144, 3) := by decide +kernel
theorem dX11_job_37 : decode cX11_job 37 = .ok (.invokevirtual 222, 3) := by decide +kernel
theorem dX11_job_40 : decode cX11_job 40 = .ok (.ifCond .ne 13, 3) := by decide +kernel
theorem dX11_job_43 : decode cX11_job 43 = .ok (.iload_n 2, 1) := by decide +kernel
theorem dX11_job_44 : decode cX11_job 44 = .ok (.ifCond .lt 9, 3) := by decide +kernel
theorem dX11_job_47 : decode cX11_job 47 = .ok (.iload_n 2, 1) := by decide +kernel
theorem dX11_job_48 : decode cX11_job 48 = .ok (.bipush 6, 2) := by decide +kernel
theorem dX11_job_50 : decode cX11_job 50 = .ok (.if_icmp .le 5, 3) := by decide +kernel
theorem dX11_job_53 : decode cX11_job 53 = .ok (.iconst 0, 1) := by decide +kernel
theorem dX11_job_54 : decode cX11_job 54 = .ok (.ireturn, 1) := by decide +kernel
theorem dX11_job_55 : decode cX11_job 55 = .ok (.iload_n 3, 1) := by decide +kernel
theorem dX11_job_56 : decode cX11_job 56 = .ok (.ifCond .lt 21, 3) := by decide +kernel
theorem dX11_job_59 : decode cX11_job 59 = .ok (.iload_n 3, 1) := by decide +kernel
theorem dX11_job_60 : decode cX11_job 60 = .ok (.ldc 123, 2) := by decide +kernel
theorem dX11_job_62 : decode cX11_job 62 = .ok (.if_icmp .gt 15, 3) := by decide +kernel
theorem dX11_job_65 : decode cX11_job 65 = .ok (.iload 4, 2) := by decide +kernel
theorem dX11_job_67 : decode cX11_job 67 = .ok (.ifCond .lt 10, 3) := by decide +kernel
theorem dX11_job_70 : decode cX11_job 70 = .ok (.iload 4, 2) := by decide +kernel
theorem dX11_job_72 : decode cX11_job 72 = .ok (.ldc 123, 2) := by decide +kernel
theorem dX11_job_74 : decode cX11_job 74 = .ok (.if_icmp .le 5, 3) := by decide +kernel
theorem dX11_job_77 : decode cX11_job 77 = .ok (.iconst 0, 1) := by decide +kernel
theorem dX11_job_78 : decode cX11_job 78 = .ok (.ireturn, 1) := by decide +kernel
theorem dX11_job_79 : decode cX11_job 79 = .ok (.iload_n 2, 1) := by decide +kernel
theorem dX11_job_80 : decode cX11_job 80 = .ok (.iconst 5, 1) := by decide +kernel
theorem dX11_job_81 : decode cX11_job 81 = .ok (.if_icmp .eq 9, 3) := by decide +kernel
theorem dX11_job_84 : decode cX11_job 84 = .ok (.iload_n 2, 1) := by decide +kernel
theorem dX11_job_85 : decode cX11_job 85 = .ok (.bipush 6, 2) := by decide +kernel
theorem dX11_job_87 : decode cX11_job 87 = .ok (.if_icmp .ne 7, 3) := by decide +kernel
theorem dX11_job_90 : decode cX11_job 90 = .ok (.iconst 1, 1) := by decide +kernel
theorem dX11_job_91 : decode cX11_job 91 = .ok (.goto 4, 3) := by decide +kernel
theorem dX11_job_94 : decode cX11_job 94 = .ok (.iconst 0, 1) := by decide +kernel
theorem dX11_job_95 : decode cX11_job 95 = .ok (.istore 6, 2) := by decide +kernel
theorem dX11_job_97 : decode cX11_job 97 = .ok (.iload 6, 2) := by decide +kernel
theorem dX11_job_99 : decode cX11_job 99 = .ok (.ifCond .eq 17, 3) := by decide +kernel
theorem dX11_job_102 : decode cX11_job 102 = .ok (.aload_n 0, 1) := by decide +kernel
theorem dX11_job_103 : decode cX11_job 103 = .ok (.getfield 27, 3) := by decide +kernel
theorem dX11_job_106 : decode cX11_job 106 = .ok (.getfield 42, 3) := by decide +kernel
theorem dX11_job_109 : decode cX11_job 109 = .ok (.bipush 40, 2) := by decide +kernel
theorem dX11_job_111 : decode cX11_job 111 = .ok (.if_icmp .le 5, 3) := by decide +kernel
theorem dX11_job_114 : decode cX11_job 114 = .ok (.iconst 0, 1) := by decide +kernel
theorem dX11_job_115 : decode cX11_job 115 = .ok (.ireturn, 1) := by decide +kernel
theorem dX11_job_116 : decode cX11_job 116 = .ok (.aload 5, 2) := by decide +kernel
theorem dX11_job_118 : decode cX11_job 118 = .ok (.getfield 235, 3) := by decide +kernel
theorem dX11_job_121 : decode cX11_job 121 = .ok (.iload_n 2, 1) := by decide +kernel
theorem dX11_job_122 : decode cX11_job 122 = .ok (.iload_n 3, 1) := by decide +kernel
theorem dX11_job_123 : decode cX11_job 123 = .ok (.iload 4, 2) := by decide +kernel
theorem dX11_job_125 : decode cX11_job 125 = .ok (.invokevirtual 244, 3) := by decide +kernel
theorem dX11_job_128 : decode cX11_job 128 = .ok (.iload 6, 2) := by decide +kernel
theorem dX11_job_130 : decode cX11_job 130 = .ok (.ifCond .eq 25, 3) := by decide +kernel
theorem dX11_job_133 : decode cX11_job 133 = .ok (.aload 5, 2) := by decide +kernel
theorem dX11_job_135 : decode cX11_job 135 = .ok (.getfield 235, 3) := by decide +kernel
theorem dX11_job_138 : decode cX11_job 138 = .ok (.getfield 248, 3) := by decide +kernel
theorem dX11_job_141 : decode cX11_job 141 = .ok (.aload_n 0, 1) := by decide +kernel
theorem dX11_job_142 : decode cX11_job 142 = .ok (.getfield 27, 3) := by decide +kernel
theorem dX11_job_145 : decode cX11_job 145 = .ok (.invokevirtual 74, 3) := by decide +kernel
theorem dX11_job_148 : decode cX11_job 148 = .ok (.aload_n 0, 1) := by decide +kernel
theorem dX11_job_149 : decode cX11_job 149 = .ok (.getfield 27, 3) := by decide +kernel
theorem dX11_job_152 : decode cX11_job 152 = .ok (.invokevirtual 78, 3) := by decide +kernel
theorem dX11_job_155 : decode cX11_job 155 = .ok (.aload 5, 2) := by decide +kernel
theorem dX11_job_157 : decode cX11_job 157 = .ok (.getfield 225, 3) := by decide +kernel
theorem dX11_job_160 : decode cX11_job 160 = .ok (.invokevirtual 78, 3) := by decide +kernel
theorem dX11_job_163 : decode cX11_job 163 = .ok (.aload 5, 2) := by decide +kernel
theorem dX11_job_165 : decode cX11_job 165 = .ok (.getfield 235, 3) := by decide +kernel
theorem dX11_job_168 : decode cX11_job 168 = .ok (.aload 5, 2) := by decide +kernel
theorem dX11_job_170 : decode cX11_job 170 = .ok (.getfield 235, 3) := by decide +kernel
theorem dX11_job_173 : decode cX11_job 173 = .ok (.invokevirtual 251, 3) := by decide +kernel
theorem dX11_job_176 : decode cX11_job 176 = .ok (.aload 5, 2) := by decide +kernel
theorem dX11_job_178 : decode cX11_job 178 = .ok (.getfield 124, 3) := by decide +kernel
theorem dX11_job_181 : decode cX11_job 181 = .ok (.aload 5, 2) := by decide +kernel
theorem dX11_job_183 : decode cX11_job 183 = .ok (.getfield 225, 3) := by decide +kernel
theorem dX11_job_186 : decode cX11_job 186 = .ok (.invokevirtual 255, 3) := by decide +kernel
theorem dX11_job_189 : decode cX11_job 189 = .ok (.aload 5, 2) := by decide +kernel
theorem dX11_job_191 : decode cX11_job 191 = .ok (.getfield 144, 3) := by decide +kernel
theorem dX11_job_194 : decode cX11_job 194 = .ok (.iconst 4, 1) := by decide +kernel
theorem dX11_job_195 : decode cX11_job 195 = .ok (.aload 5, 2) := by decide +kernel
theorem dX11_job_197 : decode cX11_job 197 = .ok (.getfield 225, 3) := by decide +kernel
theorem dX11_job_200 : decode cX11_job 200 = .ok (.invokevirtual 232, 3) := by decide +kernel
theorem dX11_job_203 : decode cX11_job 203 = .ok (.iconst 1, 1) := by decide +kernel
theorem dX11_job_204 : decode cX11_job 204 = .ok (.ireturn, 1) := by decide +kernel
theorem dX11_send_0 : decode cX11_send 0 = .ok (.aload_n 0, 1) := by decide +kernel
theorem dX11_send_1 : decode cX11_send 1 = .ok (.iload_n 1, 1) := by decide +kernel
theorem dX11_send_2 : decode cX11_send 2 = .ok (.invokevirtual 52, 3) := by decide +kernel
theorem dX11_send_5 : decode cX11_send 5 = .ok (.astore 4, 2) := by decide +kernel
theorem dX11_send_7 : decode cX11_send 7 = .ok (.aload 4, 2) := by decide +kernel
theorem dX11_send_9 : decode cX11_send 9 = .ok (.ifnull 22, 3) := by decide +kernel
theorem dX11_send_12 : decode cX11_send 12 = .ok (.aload 4, 2) := by decide +kernel
theorem dX11_send_14 : decode cX11_send 14 = .ok (.invokevirtual 99, 3) := by decide +kernel
theorem dX11_send_17 : decode cX11_send 17 = .ok (.ifCond .eq 14, 3) := by decide +kernel
theorem dX11_send_20 : decode cX11_send 20 = .ok (.aload 4, 2) := by decide +kernel
theorem dX11_send_22 : decode cX11_send 22 = .ok (.getfield 144, 3) := by decide +kernel
theorem dX11_send_25 : decode cX11_send 25 = .ok (.invokevirtual 222, 3) := by decide +kernel
theorem dX11_send_28 : decode cX11_send 28 = .ok (.ifCond .eq 5, 3) := by decide +kernel
theorem dX11_send_31 : decode cX11_send 31 = .ok (.iconst 0, 1) := by decide +kernel
theorem dX11_send_32 : decode cX11_send 32 = .ok (.ireturn, 1) := by decide +kernel
theorem dX11_send_33 : decode cX11_send 33 = .ok (.aload 4, 2) := by decide +kernel
theorem dX11_send_35 : decode cX11_send 35 = .ok (.getfield 124, 3) := by decide +kernel
theorem dX11_send_38 : decode cX11_send 38 = .ok (.getfield 259, 3) := by decide +kernel
theorem dX11_send_41 : decode cX11_send 41 = .ok (.iconst 3, 1) := by decide +kernel
theorem dX11_send_42 : decode cX11_send 42 = .ok (.isub, 1) := by decide +kernel
theorem dX11_send_43 : decode cX11_send 43 = .ok (.istore 5, 2) := by decide +kernel
theorem dX11_send_45 : decode cX11_send 45 = .ok (.iload_n 2, 1) := by decide +kernel
theorem dX11_send_46 : decode cX11_send 46 = .ok (.ifCond .ne 50, 3) := by decide +kernel
theorem dX11_send_49 : decode cX11_send 49 = .ok (.iload_n 3, 1) := by decide +kernel
theorem dX11_send_50 : decode cX11_send 50 = .ok (.ifCond .lt 21, 3) := by decide +kernel
theorem dX11_send_53 : decode cX11_send 53 = .ok (.iload_n 3, 1) := by decide +kernel
theorem dX11_send_54 : decode cX11_send 54 = .ok (.ldc 123, 2) := by decide +kernel
theorem dX11_send_56 : decode cX11_send 56 = .ok (.if_icmp .gt 15, 3) := by decide +kernel
theorem dX11_send_59 : decode cX11_send 59 = .ok (.aload_n 0, 1) := by decide +kernel
theorem dX11_send_60 : decode cX11_send 60 = .ok (.getfield 27, 3) := by decide +kernel
theorem dX11_send_63 : decode cX11_send 63 = .ok (.getfield 42, 3) := by decide +kernel
theorem dX11_send_66 : decode cX11_send 66 = .ok (.iload 5, 2) := by decide +kernel
theorem dX11_send_68 : decode cX11_send 68 = .ok (.if_icmp .le 5, 3) := by decide +kernel
theorem dX11_send_71 : decode cX11_send 71 = .ok (.iconst 0, 1) := by decide +kernel
theorem dX11_send_72 : decode cX11_send 72 = .ok (.ireturn, 1) := by decide +kernel
theorem dX11_send_73 : decode cX11_send 73 = .ok (.aload 4, 2) := by decide +kernel
theorem dX11_send_75 : decode cX11_send 75 = .ok (.bipush 82, 2) := by decide +kernel
theorem dX11_send_77 : decode cX11_send 77 = .ok (.iload_n 3, 1) := by decide +kernel
theorem dX11_send_78 : decode cX11_send 78 = .ok (.aload_n 0, 1) := by decide +kernel
theorem dX11_send_79 : decode cX11_send 79 = .ok (.getfield 27, 3) := by decide +kernel
theorem dX11_send_82 : decode cX11_send 82 = .ok (.iload 5, 2) := by decide +kernel
theorem dX11_send_84 : decode cX11_send 84 = .ok (.invokevirtual 262, 3) := by decide +kernel
theorem dX11_send_87 : decode cX11_send 87 = .ok (.aload_n 0, 1) := by decide +kernel
theorem dX11_send_88 : decode cX11_send 88 = .ok (.getfield 27, 3) := by decide +kernel
theorem dX11_send_91 : decode cX11_send 91 = .ok (.invokevirtual 78, 3) := by decide +kernel
theorem dX11_send_94 : decode cX11_send 94 = .ok (.iconst 1, 1) := by decide +kernel
theorem dX11_send_95 : decode cX11_send 95 = .ok (.ireturn, 1) := by decide +kernel
theorem dX11_send_96 : decode cX11_send 96 = .ok (.aload 4, 2) := by decide +kernel
theorem dX11_send_98 : decode cX11_send 98 = .ok (.getfield 124, 3) := by decide +kernel
theorem dX11_send_101 : decode cX11_send 101 = .ok (.iload_n 3, 1) := by decide +kernel
theorem dX11_send_102 : decode cX11_send 102 = .ok (.invokevirtual 134, 3) := by decide +kernel
theorem dX11_send_105 : decode cX11_send 105 = .ok (.astore 6, 2) := by decide +kernel
theorem dX11_send_107 : decode cX11_send 107 = .ok (.aload 6, 2) := by decide +kernel
theorem dX11_send_109 : decode cX11_send 109 = .ok (.ifnull 29, 3) := by decide +kernel
theorem dX11_send_112 : decode cX11_send 112 = .ok (.iload_n 2, 1) := by decide +kernel
theorem dX11_send_113 : decode cX11_send 113 = .ok (.iconst 1, 1) := by decide +kernel
theorem dX11_send_114 : decode cX11_send 114 = .ok (.if_icmp .eq 8, 3) := by decide +kernel
theorem dX11_send_117 : decode cX11_send 117 = .ok (.iload_n 2, 1) := by decide +kernel
theorem dX11_send_118 : decode cX11_send 118 = .ok (.iconst 2, 1) := by decide +kernel
theorem dX11_send_119 : decode cX11_send 119 = .ok (.if_icmp .ne 19, 3) := by decide +kernel
theorem dX11_send_122 : decode cX11_send 122 = .ok (.iload_n 2, 1) := by decide +kernel
theorem dX11_send_123 : decode cX11_send 123 = .ok (.iconst 2, 1) := by decide +kernel
theorem dX11_send_124 : decode cX11_send 124 = .ok (.if_icmp .ne 16, 3) := by decide +kernel
theorem dX11_send_127 : decode cX11_send 127 = .ok (.aload 4, 2) := by decide +kernel
theorem dX11_send_129 : decode cX11_send 129 = .ok (.getfield 124, 3) := by decide +kernel
theorem dX11_send_132 : decode cX11_send 132 = .ok (.getfield 266, 3) := by decide +kernel
theorem dX11_send_135 : decode cX11_send 135 = .ok (.ifCond .eq 5, 3) := by decide +kernel
theorem dX11_send_138 : decode cX11_send 138 = .ok (.iconst 0, 1) := by decide +kernel
theorem dX11_send_139 : decode cX11_send 139 = .ok (.ireturn, 1) := by decide +kernel
theorem dX11_send_140 : decode cX11_send 140 = .ok (.aload 4, 2) := by decide +kernel
theorem dX11_send_142 : decode cX11_send 142 = .ok (.iload_n 2, 1) := by decide +kernel
theorem dX11_send_143 : decode cX11_send 143 = .ok (.iconst 1, 1) := by decide +kernel
theorem dX11_send_144 : decode cX11_send 144 = .ok (.if_icmp .ne 8, 3) := by decide +kernel
theorem dX11_send_147 : decode cX11_send 147 = .ok (.bipush 27, 2) := by decide +kernel
theorem dX11_send_149 : decode cX11_send 149 = .ok (.goto 5, 3) := by decide +kernel
theorem dX11_send_152 : decode cX11_send 152 = .ok (.bipush 29, 2) := by decide +kernel
theorem dX11_send_154 : decode cX11_send 154 = .ok (.iload_n 3, 1) := by decide +kernel
theorem dX11_send_155 : decode cX11_send 155 = .ok (.aload 6, 2) := by decide +kernel
theorem dX11_send_157 : decode cX11_send 157 = .ok (.iload 5, 2) := by decide +kernel
theorem dX11_send_159 : decode cX11_send 159 = .ok (.invokevirtual 262, 3) := by decide +kernel
theorem dX11_send_162 : decode cX11_send 162 = .ok (.iload_n 2, 1) := by decide +kernel
theorem dX11_send_163 : decode cX11_send 163 = .ok (.iconst 2, 1) := by decide +kernel
theorem dX11_send_164 : decode cX11_send 164 = .ok (.if_icmp .ne 12, 3) := by decide +kernel
theorem dX11_send_167 : decode cX11_send 167 = .ok (.aload 4, 2) := by decide +kernel
theorem dX11_send_169 : decode cX11_send 169 = .ok (.getfield 124, 3) := by decide +kernel
theorem dX11_send_172 : decode cX11_send 172 = .ok (.iconst 1, 1) := by decide +kernel
theorem dX11_send_173 : decode cX11_send 173 = .ok (.putfield 266, 3) := by decide +kernel
theorem dX11_send_176 : decode cX11_send 176 = .ok (.iconst 1, 1) := by decide +kernel
theorem dX11_send_177 : decode cX11_send 177 = .ok (.ireturn, 1) := by decide +kernel
theorem dX11_take_0 : decode cX11_take 0 = .ok (.aload_n 0, 1) := by decide +kernel
theorem dX11_take_1 : decode cX11_take 1 = .ok (.iload_n 1, 1) := by decide +kernel
theorem dX11_take_2 : decode cX11_take 2 = .ok (.invokevirtual 52, 3) := by decide +kernel
theorem dX11_take_5 : decode cX11_take 5 = .ok (.astore_n 2, 1) := by decide +kernel
theorem dX11_take_6 : decode cX11_take 6 = .ok (.aload_n 2, 1) := by decide +kernel
theorem dX11_take_7 : decode cX11_take 7 = .ok (.ifnull 17, 3) := by decide +kernel
theorem dX11_take_10 : decode cX11_take 10 = .ok (.aload_n 2, 1) := by decide +kernel
theorem dX11_take_11 : decode cX11_take 11 = .ok (.getfield 269, 3) := by decide +kernel
theorem dX11_take_14 : decode cX11_take 14 = .ok (.invokevirtual 273, 3) := by decide +kernel
theorem dX11_take_17 : decode cX11_take 17 = .ok (.ifCond .eq 7, 3) := by decide +kernel
theorem dX11_take_20 : decode cX11_take 20 = .ok (.iconst 1, 1) := by decide +kernel
theorem dX11_take_21 : decode cX11_take 21 = .ok (.goto 4, 3) := by decide +kernel
theorem dX11_take_24 : decode cX11_take 24 = .ok (.iconst 0, 1) := by decide +kernel
theorem dX11_take_25 : decode cX11_take 25 = .ok (.ireturn, 1) := by decide +kernel
theorem dX11_air_0 : decode cX11_air 0 = .ok (.aload_n 0, 1) := by decide +kernel
theorem dX11_air_1 : decode cX11_air 1 = .ok (.getfield 18, 3) := by decide +kernel
theorem dX11_air_4 : decode cX11_air 4 = .ok (.iload_n 1, 1) := by decide +kernel
theorem dX11_air_5 : decode cX11_air 5 = .ok (.iload_n 2, 1) := by decide +kernel
theorem dX11_air_6 : decode cX11_air 6 = .ok (.invokevirtual 278, 3) := by decide +kernel
theorem dX11_air_9 : decode cX11_air 9 = .ok (.istore_n 3, 1) := by decide +kernel
theorem dX11_air_10 : decode cX11_air 10 = .ok (.iload_n 3, 1) := by decide +kernel
theorem dX11_air_11 : decode cX11_air 11 = .ok (.iconst (-1), 1) := by decide +kernel
theorem dX11_air_12 : decode cX11_air 12 = .ok (.if_icmp .ne 14, 3) := by decide +kernel
theorem dX11_air_15 : decode cX11_air 15 = .ok (.new 282, 3) := by decide +kernel
theorem dX11_air_18 : decode cX11_air 18 = .ok (.dup, 1) := by decide +kernel
theorem dX11_air_19 : decode cX11_air 19 = .ok (.ldc_w 284, 3) := by decide +kernel
theorem dX11_air_22 : decode cX11_air 22 = .ok (.invokespecial 286, 3) := by decide +kernel
theorem dX11_air_25 : decode cX11_air 25 = .ok (.athrow, 1) := by decide +kernel
theorem dX11_air_26 : decode cX11_air 26 = .ok (.iload_n 3, 1) := by decide +kernel
theorem dX11_air_27 : decode cX11_air 27 = .ok (.ireturn, 1) := by decide +kernel
theorem dX11_value_0 : decode cX11_value 0 = .ok (.aload_n 0, 1) := by decide +kernel
theorem dX11_value_1 : decode cX11_value 1 = .ok (.iload_n 1, 1) := by decide +kernel
theorem dX11_value_2 : decode cX11_value 2 = .ok (.invokevirtual 52, 3) := by decide +kernel
theorem dX11_value_5 : decode cX11_value 5 = .ok (.astore 4, 2) := by decide +kernel
theorem dX11_value_7 : decode cX11_value 7 = .ok (.aload 4, 2) := by decide +kernel
theorem dX11_value_9 : decode cX11_value 9 = .ok (.ifnonnull 7, 3) := by decide +kernel
theorem dX11_value_12 : decode cX11_value 12 = .ok (.aconst_null, 1) := by decide +kernel
theorem dX11_value_13 : decode cX11_value 13 = .ok (.goto 12, 3) := by decide +kernel
theorem dX11_value_16 : decode cX11_value 16 = .ok (.aload 4, 2) := by decide +kernel
theorem dX11_value_18 : decode cX11_value 18 = .ok (.getfield 124, 3) := by decide +kernel
theorem dX11_value_21 : decode cX11_value 21 = .ok (.iload_n 2, 1) := by decide +kernel
theorem dX11_value_22 : decode cX11_value 22 = .ok (.invokevirtual 134, 3) := by decide +kernel
theorem dX11_value_25 : decode cX11_value 25 = .ok (.astore 5, 2) := by decide +kernel
theorem dX11_value_27 : decode cX11_value 27 = .ok (.aload 5, 2) := by decide +kernel
theorem dX11_value_29 : decode cX11_value 29 = .ok (.ifnull 17, 3) := by decide +kernel
theorem dX11_value_32 : decode cX11_value 32 = .ok (.iload_n 3, 1) := by decide +kernel
theorem dX11_value_33 : decode cX11_value 33 = .ok (.iconst (-1), 1) := by decide +kernel
theorem dX11_value_34 : decode cX11_value 34 = .ok (.if_icmp .lt 12, 3) := by decide +kernel
theorem dX11_value_37 : decode cX11_value 37 = .ok (.iload_n 3, 1) := by decide +kernel
theorem dX11_value_38 : decode cX11_value 38 = .ok (.aload 5, 2) := by decide +kernel
theorem dX11_value_40 : decode cX11_value 40 = .ok (.getfield 42, 3) := by decide +kernel
theorem dX11_value_43 : decode cX11_value 43 = .ok (.if_icmp .lt 14, 3) := by decide +kernel
theorem dX11_value_46 : decode cX11_value 46 = .ok (.new 282, 3) := by decide +kernel
theorem dX11_value_49 : decode cX11_value 49 = .ok (.dup, 1) := by decide +kernel
theorem dX11_value_50 : decode cX11_value 50 = .ok (.ldc_w 289, 3) := by decide +kernel
theorem dX11_value_53 : decode cX11_value 53 = .ok (.invokespecial 286, 3) := by decide +kernel
theorem dX11_value_56 : decode cX11_value 56 = .ok (.athrow, 1) := by decide +kernel
theorem dX11_value_57 : decode cX11_value 57 = .ok (.iload_n 3, 1) := by decide +kernel
theorem dX11_value_58 : decode cX11_value 58 = .ok (.iconst (-1), 1) := by decide +kernel
theorem dX11_value_59 : decode cX11_value 59 = .ok (.if_icmp .ne 11, 3) := by decide +kernel
theorem dX11_value_62 : decode cX11_value 62 = .ok (.aload 5, 2) := by decide +kernel
theorem dX11_value_64 : decode cX11_value 64 = .ok (.getfield 42, 3) := by decide +kernel
theorem dX11_value_67 : decode cX11_value 67 = .ok (.goto 9, 3) := by decide +kernel
theorem dX11_value_70 : decode cX11_value 70 = .ok (.aload 5, 2) := by decide +kernel
theorem dX11_value_72 : decode cX11_value 72 = .ok (.iload_n 3, 1) := by decide +kernel
theorem dX11_value_73 : decode cX11_value 73 = .ok (.invokevirtual 291, 3) := by decide +kernel
theorem dX11_value_76 : decode cX11_value 76 = .ok (.ireturn, 1) := by decide +kernel
theorem dX11_completion_0 : decode cX11_completion 0 = .ok (.aload_n 0, 1) := by decide +kernel
theorem dX11_completion_1 : decode cX11_completion 1 = .ok (.iload_n 1, 1) := by decide +kernel
theorem dX11_completion_2 : decode cX11_completion 2 = .ok (.invokevirtual 52, 3) := by decide +kernel
theorem dX11_completion_5 : decode cX11_completion 5 = .ok (.astore_n 3, 1) := by decide +kernel
theorem dX11_completion_6 : decode cX11_completion 6 = .ok (.aload_n 3, 1) := by decide +kernel
theorem dX11_completion_7 : decode cX11_completion 7 = .ok (.ifnonnull 7, 3) := by decide +kernel
theorem dX11_completion_10 : decode cX11_completion 10 = .ok (.iconst (-1), 1) := by decide +kernel
theorem dX11_completion_11 : decode cX11_completion 11 = .ok (.goto 11, 3) := by decide +kernel
theorem dX11_completion_14 : decode cX11_completion 14 = .ok (.aload_n 3, 1) := by decide +kernel
theorem dX11_completion_15 : decode cX11_completion 15 = .ok (.getfield 269, 3) := by decide +kernel
theorem dX11_completion_18 : decode cX11_completion 18 = .ok (.iload_n 2, 1) := by decide +kernel
theorem dX11_completion_19 : decode cX11_completion 19 = .ok (.invokevirtual 295, 3) := by decide +kernel
theorem dX11_completion_22 : decode cX11_completion 22 = .ok (.ireturn, 1) := by decide +kernel
theorem dX11_number_0 : decode cX11_number 0 = .ok (.aload_n 0, 1) := by decide +kernel
theorem dX11_number_1 : decode cX11_number 1 = .ok (.iload_n 1, 1) := by decide +kernel
theorem dX11_number_2 : decode cX11_number 2 = .ok (.invokevirtual 52, 3) := by decide +kernel
theorem dX11_number_5 : decode cX11_number 5 = .ok (.astore_n 3, 1) := by decide +kernel
theorem dX11_number_6 : decode cX11_number 6 = .ok (.aload_n 3, 1) := by decide +kernel
theorem dX11_number_7 : decode cX11_number 7 = .ok (.ifnonnull 7, 3) := by decide +kernel
theorem dX11_number_10 : decode cX11_number 10 = .ok (.ldc2_w 297, 3) := by decide +kernel
theorem dX11_number_13 : decode cX11_number 13 = .ok (.lreturn, 1) := by decide +kernel
theorem dX11_number_14 : decode cX11_number 14 = .ok (.iload_n 2, 1) := by decide +kernel
theorem dX11_number_15 : decode cX11_number 15 = .ok (.tableswitch 54 0 2 #[25, 44, 49], 25) := by decide +kernel
theorem dX11_number_40 : decode cX11_number 40 = .ok (.aload_n 3, 1) := by decide +kernel
theorem dX11_number_41 : decode cX11_number 41 = .ok (.invokevirtual 99, 3) := by decide +kernel
theorem dX11_number_44 : decode cX11_number 44 = .ok (.ifCond .eq 13, 3) := by decide +kernel
theorem dX11_number_47 : decode cX11_number 47 = .ok (.aload_n 3, 1) := by decide +kernel
theorem dX11_number_48 : decode cX11_number 48 = .ok (.getfield 87, 3) := by decide +kernel
theorem dX11_number_51 : decode cX11_number 51 = .ok (.getfield 299, 3) := by decide +kernel
theorem dX11_number_54 : decode cX11_number 54 = .ok (.goto 4, 3) := by decide +kernel
theorem dX11_number_57 : decode cX11_number 57 = .ok (.lconst 0, 1) := by decide +kernel
theorem dX11_number_58 : decode cX11_number 58 = .ok (.lreturn, 1) := by decide +kernel
theorem dX11_number_59 : decode cX11_number 59 = .ok (.aload_n 3, 1) := by decide +kernel
theorem dX11_number_60 : decode cX11_number 60 = .ok (.getfield 302, 3) := by decide +kernel
theorem dX11_number_63 : decode cX11_number 63 = .ok (.lreturn, 1) := by decide +kernel
theorem dX11_number_64 : decode cX11_number 64 = .ok (.aload_n 3, 1) := by decide +kernel
theorem dX11_number_65 : decode cX11_number 65 = .ok (.getfield 305, 3) := by decide +kernel
theorem dX11_number_68 : decode cX11_number 68 = .ok (.lreturn, 1) := by decide +kernel
theorem dX11_number_69 : decode cX11_number 69 = .ok (.ldc2_w 297, 3) := by decide +kernel
theorem dX11_number_72 : decode cX11_number 72 = .ok (.lreturn, 1) := by decide +kernel
theorem dX11_byteOf_0 : decode cX11_byteOf 0 = .ok (.aload_n 0, 1) := by decide +kernel
theorem dX11_byteOf_1 : decode cX11_byteOf 1 = .ok (.iload_n 1, 1) := by decide +kernel
theorem dX11_byteOf_2 : decode cX11_byteOf 2 = .ok (.invokevirtual 52, 3) := by decide +kernel
theorem dX11_byteOf_5 : decode cX11_byteOf 5 = .ok (.astore 4, 2) := by decide +kernel
theorem dX11_byteOf_7 : decode cX11_byteOf 7 = .ok (.aload 4, 2) := by decide +kernel
theorem dX11_byteOf_9 : decode cX11_byteOf 9 = .ok (.ifnonnull 5, 3) := by decide +kernel
theorem dX11_byteOf_12 : decode cX11_byteOf 12 = .ok (.iconst (-1), 1) := by decide +kernel
theorem dX11_byteOf_13 : decode cX11_byteOf 13 = .ok (.ireturn, 1) := by decide +kernel
theorem dX11_byteOf_14 : decode cX11_byteOf 14 = .ok (.iload_n 2, 1) := by decide +kernel
theorem dX11_byteOf_15 : decode cX11_byteOf 15 = .ok (.tableswitch 136 0 4 #[33, 43, 71, 99, 127], 33) := by decide +kernel
theorem dX11_byteOf_48 : decode cX11_byteOf 48 = .ok (.aload 4, 2) := by decide +kernel
theorem dX11_byteOf_50 : decode cX11_byteOf 50 = .ok (.getfield 308, 3) := by decide +kernel
theorem dX11_byteOf_53 : decode cX11_byteOf 53 = .ok (.iload_n 3, 1) := by decide +kernel
theorem dX11_byteOf_54 : decode cX11_byteOf 54 = .ok (.invokevirtual 291, 3) := by decide +kernel
theorem dX11_byteOf_57 : decode cX11_byteOf 57 = .ok (.ireturn, 1) := by decide +kernel
theorem dX11_byteOf_58 : decode cX11_byteOf 58 = .ok (.aload 4, 2) := by decide +kernel
theorem dX11_byteOf_60 : decode cX11_byteOf 60 = .ok (.getfield 183, 3) := by decide +kernel
theorem dX11_byteOf_63 : decode cX11_byteOf 63 = .ok (.getfield 187, 3) := by decide +kernel
theorem dX11_byteOf_66 : decode cX11_byteOf 66 = .ok (.ifCond .eq 18, 3) := by decide +kernel
theorem dX11_byteOf_69 : decode cX11_byteOf 69 = .ok (.aload 4, 2) := by decide +kernel
theorem dX11_byteOf_71 : decode cX11_byteOf 71 = .ok (.getfield 183, 3) := by decide +kernel
theorem dX11_byteOf_74 : decode cX11_byteOf 74 = .ok (.getfield 311, 3) := by decide +kernel
theorem dX11_byteOf_77 : decode cX11_byteOf 77 = .ok (.iload_n 3, 1) := by decide +kernel
theorem dX11_byteOf_78 : decode cX11_byteOf 78 = .ok (.invokestatic 314, 3) := by decide +kernel
theorem dX11_byteOf_81 : decode cX11_byteOf 81 = .ok (.goto 4, 3) := by decide +kernel
theorem dX11_byteOf_84 : decode cX11_byteOf 84 = .ok (.iconst (-1), 1) := by decide +kernel
theorem dX11_byteOf_85 : decode cX11_byteOf 85 = .ok (.ireturn, 1) := by decide +kernel
theorem dX11_byteOf_86 : decode cX11_byteOf 86 = .ok (.aload 4, 2) := by decide +kernel
theorem dX11_byteOf_88 : decode cX11_byteOf 88 = .ok (.getfield 183, 3) := by decide +kernel
theorem dX11_byteOf_91 : decode cX11_byteOf 91 = .ok (.getfield 201, 3) := by decide +kernel
theorem dX11_byteOf_94 : decode cX11_byteOf 94 = .ok (.ifCond .eq 18, 3) := by decide +kernel
theorem dX11_byteOf_97 : decode cX11_byteOf 97 = .ok (.aload 4, 2) := by decide +kernel
theorem dX11_byteOf_99 : decode cX11_byteOf 99 = .ok (.getfield 183, 3) := by decide +kernel
theorem dX11_byteOf_102 : decode cX11_byteOf 102 = .ok (.getfield 318, 3) := by decide +kernel
theorem dX11_byteOf_105 : decode cX11_byteOf 105 = .ok (.iload_n 3, 1) := by decide +kernel
theorem dX11_byteOf_106 : decode cX11_byteOf 106 = .ok (.invokestatic 314, 3) := by decide +kernel
theorem dX11_byteOf_109 : decode cX11_byteOf 109 = .ok (.goto 4, 3) := by decide +kernel
theorem dX11_byteOf_112 : decode cX11_byteOf 112 = .ok (.iconst (-1), 1) := by decide +kernel
theorem dX11_byteOf_113 : decode cX11_byteOf 113 = .ok (.ireturn, 1) := by decide +kernel
theorem dX11_byteOf_114 : decode cX11_byteOf 114 = .ok (.aload 4, 2) := by decide +kernel
theorem dX11_byteOf_116 : decode cX11_byteOf 116 = .ok (.getfield 183, 3) := by decide +kernel
theorem dX11_byteOf_119 : decode cX11_byteOf 119 = .ok (.getfield 201, 3) := by decide +kernel
theorem dX11_byteOf_122 : decode cX11_byteOf 122 = .ok (.ifCond .eq 18, 3) := by decide +kernel
theorem dX11_byteOf_125 : decode cX11_byteOf 125 = .ok (.aload 4, 2) := by decide +kernel
theorem dX11_byteOf_127 : decode cX11_byteOf 127 = .ok (.getfield 183, 3) := by decide +kernel
theorem dX11_byteOf_130 : decode cX11_byteOf 130 = .ok (.getfield 212, 3) := by decide +kernel
theorem dX11_byteOf_133 : decode cX11_byteOf 133 = .ok (.iload_n 3, 1) := by decide +kernel
theorem dX11_byteOf_134 : decode cX11_byteOf 134 = .ok (.invokestatic 314, 3) := by decide +kernel
theorem dX11_byteOf_137 : decode cX11_byteOf 137 = .ok (.goto 4, 3) := by decide +kernel
theorem dX11_byteOf_140 : decode cX11_byteOf 140 = .ok (.iconst (-1), 1) := by decide +kernel
theorem dX11_byteOf_141 : decode cX11_byteOf 141 = .ok (.ireturn, 1) := by decide +kernel
theorem dX11_byteOf_142 : decode cX11_byteOf 142 = .ok (.aload_n 0, 1) := by decide +kernel
theorem dX11_byteOf_143 : decode cX11_byteOf 143 = .ok (.getfield 27, 3) := by decide +kernel
theorem dX11_byteOf_146 : decode cX11_byteOf 146 = .ok (.iload_n 3, 1) := by decide +kernel
theorem dX11_byteOf_147 : decode cX11_byteOf 147 = .ok (.invokevirtual 291, 3) := by decide +kernel
theorem dX11_byteOf_150 : decode cX11_byteOf 150 = .ok (.ireturn, 1) := by decide +kernel
theorem dX11_byteOf_151 : decode cX11_byteOf 151 = .ok (.iconst (-1), 1) := by decide +kernel
theorem dX11_byteOf_152 : decode cX11_byteOf 152 = .ok (.ireturn, 1) := by decide +kernel
theorem dX11_device_0 : decode cX11_device 0 = .ok (.aload_n 0, 1) := by decide +kernel
theorem dX11_device_1 : decode cX11_device 1 = .ok (.iload_n 1, 1) := by decide +kernel
theorem dX11_device_2 : decode cX11_device 2 = .ok (.invokevirtual 52, 3) := by decide +kernel
theorem dX11_device_5 : decode cX11_device 5 = .ok (.astore_n 3, 1) := by decide +kernel
theorem dX11_device_6 : decode cX11_device 6 = .ok (.aload_n 3, 1) := by decide +kernel
theorem dX11_device_7 : decode cX11_device 7 = .ok (.ifnonnull 5, 3) := by decide +kernel
theorem dX11_device_10 : decode cX11_device 10 = .ok (.iconst (-1), 1) := by decide +kernel
theorem dX11_device_11 : decode cX11_device 11 = .ok (.ireturn, 1) := by decide +kernel
theorem dX11_device_12 : decode cX11_device 12 = .ok (.iload_n 2, 1) := by decide +kernel
theorem dX11_device_13 : decode cX11_device 13 = .ok (.iconst 1, 1) := by decide +kernel
theorem dX11_device_14 : decode cX11_device 14 = .ok (.if_icmp .lt 9, 3) := by decide +kernel
theorem dX11_device_17 : decode cX11_device 17 = .ok (.iload_n 2, 1) := by decide +kernel
theorem dX11_device_18 : decode cX11_device 18 = .ok (.bipush 8, 2) := by decide +kernel
theorem dX11_device_20 : decode cX11_device 20 = .ok (.if_icmp .le 9, 3) := by decide +kernel
theorem dX11_device_23 : decode cX11_device 23 = .ok (.iload_n 2, 1) := by decide +kernel
theorem dX11_device_24 : decode cX11_device 24 = .ok (.bipush 26, 2) := by decide +kernel
theorem dX11_device_26 : decode cX11_device 26 = .ok (.if_icmp .ne 10, 3) := by decide +kernel
theorem dX11_device_29 : decode cX11_device 29 = .ok (.aload_n 0, 1) := by decide +kernel
theorem dX11_device_30 : decode cX11_device 30 = .ok (.aload_n 3, 1) := by decide +kernel
theorem dX11_device_31 : decode cX11_device 31 = .ok (.iload_n 2, 1) := by decide +kernel
theorem dX11_device_32 : decode cX11_device 32 = .ok (.invokevirtual 321, 3) := by decide +kernel
theorem dX11_device_35 : decode cX11_device 35 = .ok (.ireturn, 1) := by decide +kernel
theorem dX11_device_36 : decode cX11_device 36 = .ok (.iload_n 2, 1) := by decide +kernel
theorem dX11_device_37 : decode cX11_device 37 = .ok (.bipush 9, 2) := by decide +kernel
theorem dX11_device_39 : decode cX11_device 39 = .ok (.if_icmp .lt 15, 3) := by decide +kernel
theorem dX11_device_42 : decode cX11_device 42 = .ok (.iload_n 2, 1) := by decide +kernel
theorem dX11_device_43 : decode cX11_device 43 = .ok (.bipush 20, 2) := by decide +kernel
theorem dX11_device_45 : decode cX11_device 45 = .ok (.if_icmp .gt 9, 3) := by decide +kernel
theorem dX11_device_48 : decode cX11_device 48 = .ok (.aload_n 3, 1) := by decide +kernel
theorem dX11_device_49 : decode cX11_device 49 = .ok (.iload_n 2, 1) := by decide +kernel
theorem dX11_device_50 : decode cX11_device 50 = .ok (.invokestatic 325, 3) := by decide +kernel
theorem dX11_device_53 : decode cX11_device 53 = .ok (.ireturn, 1) := by decide +kernel
theorem dX11_device_54 : decode cX11_device 54 = .ok (.iload_n 2, 1) := by decide +kernel
theorem dX11_device_55 : decode cX11_device 55 = .ok (.tableswitch 191 0 28 #[129, 191, 191, 191, 191, 191, 191, 191, 191, 191, 191, 191, 191, 191, 191, 191, 191, 191, 191, 191, 191, 134, 139, 147, 155, 163, 191, 171, 180], 129) := by decide +kernel
theorem dX11_device_184 : decode cX11_device 184 = .ok (.aload_n 3, 1) := by decide +kernel
theorem dX11_device_185 : decode cX11_device 185 = .ok (.getfield 59, 3) := by decide +kernel
theorem dX11_device_188 : decode cX11_device 188 = .ok (.ireturn, 1) := by decide +kernel
theorem dX11_device_189 : decode cX11_device 189 = .ok (.aload_n 3, 1) := by decide +kernel
theorem dX11_device_190 : decode cX11_device 190 = .ok (.getfield 328, 3) := by decide +kernel
theorem dX11_device_193 : decode cX11_device 193 = .ok (.ireturn, 1) := by decide +kernel
theorem dX11_device_194 : decode cX11_device 194 = .ok (.aload_n 3, 1) := by decide +kernel
theorem dX11_device_195 : decode cX11_device 195 = .ok (.getfield 308, 3) := by decide +kernel
theorem dX11_device_198 : decode cX11_device 198 = .ok (.getfield 42, 3) := by decide +kernel
theorem dX11_device_201 : decode cX11_device 201 = .ok (.ireturn, 1) := by decide +kernel
theorem dX11_device_202 : decode cX11_device 202 = .ok (.aload_n 3, 1) := by decide +kernel
theorem dX11_device_203 : decode cX11_device 203 = .ok (.getfield 124, 3) := by decide +kernel
theorem dX11_device_206 : decode cX11_device 206 = .ok (.getfield 331, 3) := by decide +kernel
theorem dX11_device_209 : decode cX11_device 209 = .ok (.ireturn, 1) := by decide +kernel
theorem dX11_device_210 : decode cX11_device 210 = .ok (.aload_n 3, 1) := by decide +kernel
theorem dX11_device_211 : decode cX11_device 211 = .ok (.getfield 269, 3) := by decide +kernel
theorem dX11_device_214 : decode cX11_device 214 = .ok (.getfield 334, 3) := by decide +kernel
theorem dX11_device_217 : decode cX11_device 217 = .ok (.ireturn, 1) := by decide +kernel
theorem dX11_device_218 : decode cX11_device 218 = .ok (.aload_n 3, 1) := by decide +kernel
theorem dX11_device_219 : decode cX11_device 219 = .ok (.getfield 269, 3) := by decide +kernel
theorem dX11_device_222 : decode cX11_device 222 = .ok (.getfield 335, 3) := by decide +kernel
theorem dX11_device_225 : decode cX11_device 225 = .ok (.ireturn, 1) := by decide +kernel
theorem dX11_device_226 : decode cX11_device 226 = .ok (.aload_n 0, 1) := by decide +kernel
theorem dX11_device_227 : decode cX11_device 227 = .ok (.getfield 18, 3) := by decide +kernel
theorem dX11_device_230 : decode cX11_device 230 = .ok (.iload_n 1, 1) := by decide +kernel
theorem dX11_device_231 : decode cX11_device 231 = .ok (.invokevirtual 338, 3) := by decide +kernel
theorem dX11_device_234 : decode cX11_device 234 = .ok (.ireturn, 1) := by decide +kernel
theorem dX11_device_235 : decode cX11_device 235 = .ok (.aload_n 3, 1) := by decide +kernel
theorem dX11_device_236 : decode cX11_device 236 = .ok (.getfield 124, 3) := by decide +kernel
theorem dX11_device_239 : decode cX11_device 239 = .ok (.getfield 266, 3) := by decide +kernel
theorem dX11_device_242 : decode cX11_device 242 = .ok (.invokestatic 341, 3) := by decide +kernel
theorem dX11_device_245 : decode cX11_device 245 = .ok (.ireturn, 1) := by decide +kernel
theorem dX11_device_246 : decode cX11_device 246 = .ok (.iconst (-1), 1) := by decide +kernel
theorem dX11_device_247 : decode cX11_device 247 = .ok (.ireturn, 1) := by decide +kernel
theorem dX11_linkFigure_0 : decode cX11_linkFigure 0 = .ok (.aload_n 1, 1) := by decide +kernel
theorem dX11_linkFigure_1 : decode cX11_linkFigure 1 = .ok (.invokevirtual 99, 3) := by decide +kernel
theorem dX11_linkFigure_4 : decode cX11_linkFigure 4 = .ok (.ifCond .ne 38, 3) := by decide +kernel
theorem dX11_linkFigure_7 : decode cX11_linkFigure 7 = .ok (.iload_n 2, 1) := by decide +kernel
theorem dX11_linkFigure_8 : decode cX11_linkFigure 8 = .ok (.bipush 8, 2) := by decide +kernel
theorem dX11_linkFigure_10 : decode cX11_linkFigure 10 = .ok (.if_icmp .ne 21, 3) := by decide +kernel
theorem dX11_linkFigure_13 : decode cX11_linkFigure 13 = .ok (.aload_n 1, 1) := by decide +kernel
theorem dX11_linkFigure_14 : decode cX11_linkFigure 14 = .ok (.getfield 59, 3) := by decide +kernel
theorem dX11_linkFigure_17 : decode cX11_linkFigure 17 = .ok (.iconst 1, 1) := by decide +kernel
theorem dX11_linkFigure_18 : decode cX11_linkFigure 18 = .ok (.if_icmp .ne 13, 3) := by decide +kernel
theorem dX11_linkFigure_21 : decode cX11_linkFigure 21 = .ok (.aload_n 1, 1) := by decide +kernel
theorem dX11_linkFigure_22 : decode cX11_linkFigure 22 = .ok (.getfield 68, 3) := by decide +kernel
theorem dX11_linkFigure_25 : decode cX11_linkFigure 25 = .ok (.aload_n 0, 1) := by decide +kernel
theorem dX11_linkFigure_26 : decode cX11_linkFigure 26 = .ok (.getfield 65, 3) := by decide +kernel
theorem dX11_linkFigure_29 : decode cX11_linkFigure 29 = .ok (.isub, 1) := by decide +kernel
theorem dX11_linkFigure_30 : decode cX11_linkFigure 30 = .ok (.ireturn, 1) := by decide +kernel
theorem dX11_linkFigure_31 : decode cX11_linkFigure 31 = .ok (.iload_n 2, 1) := by decide +kernel
theorem dX11_linkFigure_32 : decode cX11_linkFigure 32 = .ok (.iconst 2, 1) := by decide +kernel
theorem dX11_linkFigure_33 : decode cX11_linkFigure 33 = .ok (.if_icmp .ne 7, 3) := by decide +kernel
theorem dX11_linkFigure_36 : decode cX11_linkFigure 36 = .ok (.iconst (-1), 1) := by decide +kernel
theorem dX11_linkFigure_37 : decode cX11_linkFigure 37 = .ok (.goto 4, 3) := by decide +kernel
theorem dX11_linkFigure_40 : decode cX11_linkFigure 40 = .ok (.iconst 0, 1) := by decide +kernel
theorem dX11_linkFigure_41 : decode cX11_linkFigure 41 = .ok (.ireturn, 1) := by decide +kernel
theorem dX11_linkFigure_42 : decode cX11_linkFigure 42 = .ok (.aload_n 1, 1) := by decide +kernel
theorem dX11_linkFigure_43 : decode cX11_linkFigure 43 = .ok (.getfield 87, 3) := by decide +kernel
theorem dX11_linkFigure_46 : decode cX11_linkFigure 46 = .ok (.astore_n 3, 1) := by decide +kernel
theorem dX11_linkFigure_47 : decode cX11_linkFigure 47 = .ok (.iload_n 2, 1) := by decide +kernel
theorem dX11_linkFigure_48 : decode cX11_linkFigure 48 = .ok (.tableswitch 93 1 8 #[48, 53, 58, 63, 68, 73, 78, 83], 48) := by decide +kernel
theorem dX11_linkFigure_96 : decode cX11_linkFigure 96 = .ok (.aload_n 3, 1) := by decide +kernel
theorem dX11_linkFigure_97 : decode cX11_linkFigure 97 = .ok (.getfield 174, 3) := by decide +kernel
theorem dX11_linkFigure_100 : decode cX11_linkFigure 100 = .ok (.ireturn, 1) := by decide +kernel
theorem dX11_linkFigure_101 : decode cX11_linkFigure 101 = .ok (.aload_n 3, 1) := by decide +kernel
theorem dX11_linkFigure_102 : decode cX11_linkFigure 102 = .ok (.getfield 345, 3) := by decide +kernel
theorem dX11_linkFigure_105 : decode cX11_linkFigure 105 = .ok (.ireturn, 1) := by decide +kernel
theorem dX11_linkFigure_106 : decode cX11_linkFigure 106 = .ok (.aload_n 3, 1) := by decide +kernel
theorem dX11_linkFigure_107 : decode cX11_linkFigure 107 = .ok (.getfield 348, 3) := by decide +kernel
theorem dX11_linkFigure_110 : decode cX11_linkFigure 110 = .ok (.ireturn, 1) := by decide +kernel
theorem dX11_linkFigure_111 : decode cX11_linkFigure 111 = .ok (.aload_n 3, 1) := by decide +kernel
theorem dX11_linkFigure_112 : decode cX11_linkFigure 112 = .ok (.getfield 351, 3) := by decide +kernel
theorem dX11_linkFigure_115 : decode cX11_linkFigure 115 = .ok (.ireturn, 1) := by decide +kernel
theorem dX11_linkFigure_116 : decode cX11_linkFigure 116 = .ok (.aload_n 3, 1) := by decide +kernel
theorem dX11_linkFigure_117 : decode cX11_linkFigure 117 = .ok (.getfield 354, 3) := by decide +kernel
theorem dX11_linkFigure_120 : decode cX11_linkFigure 120 = .ok (.ireturn, 1) := by decide +kernel
theorem dX11_linkFigure_121 : decode cX11_linkFigure 121 = .ok (.aload_n 3, 1) := by decide +kernel
theorem dX11_linkFigure_122 : decode cX11_linkFigure 122 = .ok (.getfield 355, 3) := by decide +kernel
theorem dX11_linkFigure_125 : decode cX11_linkFigure 125 = .ok (.ireturn, 1) := by decide +kernel
theorem dX11_linkFigure_126 : decode cX11_linkFigure 126 = .ok (.aload_n 3, 1) := by decide +kernel
theorem dX11_linkFigure_127 : decode cX11_linkFigure 127 = .ok (.getfield 358, 3) := by decide +kernel
theorem dX11_linkFigure_130 : decode cX11_linkFigure 130 = .ok (.ireturn, 1) := by decide +kernel
theorem dX11_linkFigure_131 : decode cX11_linkFigure 131 = .ok (.aload_n 3, 1) := by decide +kernel
theorem dX11_linkFigure_132 : decode cX11_linkFigure 132 = .ok (.getfield 361, 3) := by decide +kernel
theorem dX11_linkFigure_135 : decode cX11_linkFigure 135 = .ok (.aload_n 0, 1) := by decide +kernel
theorem dX11_linkFigure_136 : decode cX11_linkFigure 136 = .ok (.getfield 65, 3) := by decide +kernel
theorem dX11_linkFigure_139 : decode cX11_linkFigure 139 = .ok (.isub, 1) := by decide +kernel
theorem dX11_linkFigure_140 : decode cX11_linkFigure 140 = .ok (.ireturn, 1) := by decide +kernel
theorem dX11_linkFigure_141 : decode cX11_linkFigure 141 = .ok (.aload_n 0, 1) := by decide +kernel
theorem dX11_linkFigure_142 : decode cX11_linkFigure 142 = .ok (.getfield 65, 3) := by decide +kernel
theorem dX11_linkFigure_145 : decode cX11_linkFigure 145 = .ok (.aload_n 3, 1) := by decide +kernel
theorem dX11_linkFigure_146 : decode cX11_linkFigure 146 = .ok (.getfield 364, 3) := by decide +kernel
theorem dX11_linkFigure_149 : decode cX11_linkFigure 149 = .ok (.isub, 1) := by decide +kernel
theorem dX11_linkFigure_150 : decode cX11_linkFigure 150 = .ok (.ireturn, 1) := by decide +kernel
theorem dX11_talkFigure_0 : decode cX11_talkFigure 0 = .ok (.iload_n 1, 1) := by decide +kernel
theorem dX11_talkFigure_1 : decode cX11_talkFigure 1 = .ok (.tableswitch 156 9 19 #[59, 67, 75, 83, 94, 105, 116, 124, 132, 140, 148], 59) := by decide +kernel
theorem dX11_talkFigure_60 : decode cX11_talkFigure 60 = .ok (.aload_n 0, 1) := by decide +kernel
theorem dX11_talkFigure_61 : decode cX11_talkFigure 61 = .ok (.getfield 144, 3) := by decide +kernel
theorem dX11_talkFigure_64 : decode cX11_talkFigure 64 = .ok (.getfield 367, 3) := by decide +kernel
theorem dX11_talkFigure_67 : decode cX11_talkFigure 67 = .ok (.ireturn, 1) := by decide +kernel
theorem dX11_talkFigure_68 : decode cX11_talkFigure 68 = .ok (.aload_n 0, 1) := by decide +kernel
theorem dX11_talkFigure_69 : decode cX11_talkFigure 69 = .ok (.getfield 144, 3) := by decide +kernel
theorem dX11_talkFigure_72 : decode cX11_talkFigure 72 = .ok (.getfield 370, 3) := by decide +kernel
theorem dX11_talkFigure_75 : decode cX11_talkFigure 75 = .ok (.ireturn, 1) := by decide +kernel
theorem dX11_talkFigure_76 : decode cX11_talkFigure 76 = .ok (.aload_n 0, 1) := by decide +kernel
theorem dX11_talkFigure_77 : decode cX11_talkFigure 77 = .ok (.getfield 144, 3) := by decide +kernel
theorem dX11_talkFigure_80 : decode cX11_talkFigure 80 = .ok (.getfield 373, 3) := by decide +kernel
theorem dX11_talkFigure_83 : decode cX11_talkFigure 83 = .ok (.ireturn, 1) := by decide +kernel
theorem dX11_talkFigure_84 : decode cX11_talkFigure 84 = .ok (.aload_n 0, 1) := by decide +kernel
theorem dX11_talkFigure_85 : decode cX11_talkFigure 85 = .ok (.getfield 144, 3) := by decide +kernel
theorem dX11_talkFigure_88 : decode cX11_talkFigure 88 = .ok (.getfield 376, 3) := by decide +kernel
theorem dX11_talkFigure_91 : decode cX11_talkFigure 91 = .ok (.getfield 42, 3) := by decide +kernel
theorem dX11_talkFigure_94 : decode cX11_talkFigure 94 = .ok (.ireturn, 1) := by decide +kernel
theorem dX11_talkFigure_95 : decode cX11_talkFigure 95 = .ok (.aload_n 0, 1) := by decide +kernel
theorem dX11_talkFigure_96 : decode cX11_talkFigure 96 = .ok (.getfield 183, 3) := by decide +kernel
theorem dX11_talkFigure_99 : decode cX11_talkFigure 99 = .ok (.getfield 195, 3) := by decide +kernel
theorem dX11_talkFigure_102 : decode cX11_talkFigure 102 = .ok (.invokestatic 341, 3) := by decide +kernel
theorem dX11_talkFigure_105 : decode cX11_talkFigure 105 = .ok (.ireturn, 1) := by decide +kernel
theorem dX11_talkFigure_106 : decode cX11_talkFigure 106 = .ok (.aload_n 0, 1) := by decide +kernel
theorem dX11_talkFigure_107 : decode cX11_talkFigure 107 = .ok (.getfield 183, 3) := by decide +kernel
theorem dX11_talkFigure_110 : decode cX11_talkFigure 110 = .ok (.getfield 192, 3) := by decide +kernel
theorem dX11_talkFigure_113 : decode cX11_talkFigure 113 = .ok (.invokestatic 341, 3) := by decide +kernel
theorem dX11_talkFigure_116 : decode cX11_talkFigure 116 = .ok (.ireturn, 1) := by decide +kernel
theorem dX11_talkFigure_117 : decode cX11_talkFigure 117 = .ok (.aload_n 0, 1) := by decide +kernel
theorem dX11_talkFigure_118 : decode cX11_talkFigure 118 = .ok (.getfield 183, 3) := by decide +kernel
theorem dX11_talkFigure_121 : decode cX11_talkFigure 121 = .ok (.getfield 379, 3) := by decide +kernel
theorem dX11_talkFigure_124 : decode cX11_talkFigure 124 = .ok (.ireturn, 1) := by decide +kernel
theorem dX11_talkFigure_125 : decode cX11_talkFigure 125 = .ok (.aload_n 0, 1) := by decide +kernel
theorem dX11_talkFigure_126 : decode cX11_talkFigure 126 = .ok (.getfield 183, 3) := by decide +kernel
theorem dX11_talkFigure_129 : decode cX11_talkFigure 129 = .ok (.getfield 382, 3) := by decide +kernel
theorem dX11_talkFigure_132 : decode cX11_talkFigure 132 = .ok (.ireturn, 1) := by decide +kernel
theorem dX11_talkFigure_133 : decode cX11_talkFigure 133 = .ok (.aload_n 0, 1) := by decide +kernel
theorem dX11_talkFigure_134 : decode cX11_talkFigure 134 = .ok (.getfield 124, 3) := by decide +kernel
theorem dX11_talkFigure_137 : decode cX11_talkFigure 137 = .ok (.getfield 259, 3) := by decide +kernel
theorem dX11_talkFigure_140 : decode cX11_talkFigure 140 = .ok (.ireturn, 1) := by decide +kernel
theorem dX11_talkFigure_141 : decode cX11_talkFigure 141 = .ok (.aload_n 0, 1) := by decide +kernel
theorem dX11_talkFigure_142 : decode cX11_talkFigure 142 = .ok (.getfield 111, 3) := by decide +kernel
theorem dX11_talkFigure_145 : decode cX11_talkFigure 145 = .ok (.getfield 219, 3) := by decide +kernel
theorem dX11_talkFigure_148 : decode cX11_talkFigure 148 = .ok (.ireturn, 1) := by decide +kernel
theorem dX11_talkFigure_149 : decode cX11_talkFigure 149 = .ok (.aload_n 0, 1) := by decide +kernel
theorem dX11_talkFigure_150 : decode cX11_talkFigure 150 = .ok (.getfield 235, 3) := by decide +kernel
theorem dX11_talkFigure_153 : decode cX11_talkFigure 153 = .ok (.getfield 239, 3) := by decide +kernel
theorem dX11_talkFigure_156 : decode cX11_talkFigure 156 = .ok (.ireturn, 1) := by decide +kernel
theorem dX11_talkFigure_157 : decode cX11_talkFigure 157 = .ok (.aload_n 0, 1) := by decide +kernel
theorem dX11_talkFigure_158 : decode cX11_talkFigure 158 = .ok (.getfield 124, 3) := by decide +kernel
theorem dX11_talkFigure_161 : decode cX11_talkFigure 161 = .ok (.getfield 385, 3) := by decide +kernel
theorem dX11_talkFigure_164 : decode cX11_talkFigure 164 = .ok (.ireturn, 1) := by decide +kernel
theorem dX11_flag_0 : decode cX11_flag 0 = .ok (.iload_n 0, 1) := by decide +kernel
theorem dX11_flag_1 : decode cX11_flag 1 = .ok (.ifCond .eq 7, 3) := by decide +kernel
theorem dX11_flag_4 : decode cX11_flag 4 = .ok (.iconst 1, 1) := by decide +kernel
theorem dX11_flag_5 : decode cX11_flag 5 = .ok (.goto 4, 3) := by decide +kernel
theorem dX11_flag_8 : decode cX11_flag 8 = .ok (.iconst 0, 1) := by decide +kernel
theorem dX11_flag_9 : decode cX11_flag 9 = .ok (.ireturn, 1) := by decide +kernel
theorem dX11_byteAt_0 : decode cX11_byteAt 0 = .ok (.iload_n 1, 1) := by decide +kernel
theorem dX11_byteAt_1 : decode cX11_byteAt 1 = .ok (.ifCond .lt 15, 3) := by decide +kernel
theorem dX11_byteAt_4 : decode cX11_byteAt 4 = .ok (.iload_n 1, 1) := by decide +kernel
theorem dX11_byteAt_5 : decode cX11_byteAt 5 = .ok (.aload_n 0, 1) := by decide +kernel
theorem dX11_byteAt_6 : decode cX11_byteAt 6 = .ok (.arraylength, 1) := by decide +kernel
theorem dX11_byteAt_7 : decode cX11_byteAt 7 = .ok (.if_icmp .ge 9, 3) := by decide +kernel
theorem dX11_byteAt_10 : decode cX11_byteAt 10 = .ok (.aload_n 0, 1) := by decide +kernel
theorem dX11_byteAt_11 : decode cX11_byteAt 11 = .ok (.iload_n 1, 1) := by decide +kernel
theorem dX11_byteAt_12 : decode cX11_byteAt 12 = .ok (.iaload, 1) := by decide +kernel
theorem dX11_byteAt_13 : decode cX11_byteAt 13 = .ok (.goto 4, 3) := by decide +kernel
theorem dX11_byteAt_16 : decode cX11_byteAt 16 = .ok (.iconst (-1), 1) := by decide +kernel
theorem dX11_byteAt_17 : decode cX11_byteAt 17 = .ok (.ireturn, 1) := by decide +kernel
theorem dX11_find_0 : decode cX11_find 0 = .ok (.iload_n 1, 1) := by decide +kernel
theorem dX11_find_1 : decode cX11_find 1 = .ok (.ifCond .eq 8, 3) := by decide +kernel
theorem dX11_find_4 : decode cX11_find 4 = .ok (.iload_n 1, 1) := by decide +kernel
theorem dX11_find_5 : decode cX11_find 5 = .ok (.iconst 1, 1) := by decide +kernel
theorem dX11_find_6 : decode cX11_find 6 = .ok (.if_icmp .ne 12, 3) := by decide +kernel
theorem dX11_find_9 : decode cX11_find 9 = .ok (.aload_n 0, 1) := by decide +kernel
theorem dX11_find_10 : decode cX11_find 10 = .ok (.getfield 9, 3) := by decide +kernel
theorem dX11_find_13 : decode cX11_find 13 = .ok (.iload_n 1, 1) := by decide +kernel
theorem dX11_find_14 : decode cX11_find 14 = .ok (.aaload, 1) := by decide +kernel
theorem dX11_find_15 : decode cX11_find 15 = .ok (.goto 4, 3) := by decide +kernel
theorem dX11_find_18 : decode cX11_find 18 = .ok (.aconst_null, 1) := by decide +kernel
theorem dX11_find_19 : decode cX11_find 19 = .ok (.areturn, 1) := by decide +kernel
theorem dX11_tick_0 : decode cX11_tick 0 = .ok (.iload_n 1, 1) := by decide +kernel
theorem dX11_tick_1 : decode cX11_tick 1 = .ok (.iconst 1, 1) := by decide +kernel
theorem dX11_tick_2 : decode cX11_tick 2 = .ok (.if_icmp .lt 10, 3) := by decide +kernel
theorem dX11_tick_5 : decode cX11_tick 5 = .ok (.iload_n 1, 1) := by decide +kernel
theorem dX11_tick_6 : decode cX11_tick 6 = .ok (.sipush 1000, 3) := by decide +kernel
theorem dX11_tick_9 : decode cX11_tick 9 = .ok (.if_icmp .le 14, 3) := by decide +kernel
theorem dX11_tick_12 : decode cX11_tick 12 = .ok (.new 388, 3) := by decide +kernel
theorem dX11_tick_15 : decode cX11_tick 15 = .ok (.dup, 1) := by decide +kernel
theorem dX11_tick_16 : decode cX11_tick 16 = .ok (.ldc_w 390, 3) := by decide +kernel
theorem dX11_tick_19 : decode cX11_tick 19 = .ok (.invokespecial 392, 3) := by decide +kernel
theorem dX11_tick_22 : decode cX11_tick 22 = .ok (.athrow, 1) := by decide +kernel
theorem dX11_tick_23 : decode cX11_tick 23 = .ok (.iconst 0, 1) := by decide +kernel
theorem dX11_tick_24 : decode cX11_tick 24 = .ok (.istore_n 2, 1) := by decide +kernel
theorem dX11_tick_25 : decode cX11_tick 25 = .ok (.iconst 0, 1) := by decide +kernel
theorem dX11_tick_26 : decode cX11_tick 26 = .ok (.istore_n 3, 1) := by decide +kernel
theorem dX11_tick_27 : decode cX11_tick 27 = .ok (.iload_n 3, 1) := by decide +kernel
theorem dX11_tick_28 : decode cX11_tick 28 = .ok (.iload_n 1, 1) := by decide +kernel
theorem dX11_tick_29 : decode cX11_tick 29 = .ok (.if_icmp .ge 164, 3) := by decide +kernel
theorem dX11_tick_32 : decode cX11_tick 32 = .ok (.aload_n 0, 1) := by decide +kernel
theorem dX11_tick_33 : decode cX11_tick 33 = .ok (.getfield 18, 3) := by decide +kernel
theorem dX11_tick_36 : decode cX11_tick 36 = .ok (.invokevirtual 393, 3) := by decide +kernel
theorem dX11_tick_39 : decode cX11_tick 39 = .ok (.aload_n 0, 1) := by decide +kernel
theorem dX11_tick_40 : decode cX11_tick 40 = .ok (.aload_n 0, 1) := by decide +kernel
theorem dX11_tick_41 : decode cX11_tick 41 = .ok (.getfield 9, 3) := by decide +kernel
theorem dX11_tick_44 : decode cX11_tick 44 = .ok (.iconst 0, 1) := by decide +kernel
theorem dX11_tick_45 : decode cX11_tick 45 = .ok (.aaload, 1) := by decide +kernel
theorem dX11_tick_46 : decode cX11_tick 46 = .ok (.aload_n 0, 1) := by decide +kernel
theorem dX11_tick_47 : decode cX11_tick 47 = .ok (.getfield 9, 3) := by decide +kernel
theorem dX11_tick_50 : decode cX11_tick 50 = .ok (.iconst 1, 1) := by decide +kernel
theorem dX11_tick_51 : decode cX11_tick 51 = .ok (.aaload, 1) := by decide +kernel
theorem dX11_tick_52 : decode cX11_tick 52 = .ok (.invokevirtual 394, 3) := by decide +kernel
theorem dX11_tick_55 : decode cX11_tick 55 = .ok (.aload_n 0, 1) := by decide +kernel
theorem dX11_tick_56 : decode cX11_tick 56 = .ok (.aload_n 0, 1) := by decide +kernel
theorem dX11_tick_57 : decode cX11_tick 57 = .ok (.getfield 9, 3) := by decide +kernel
theorem dX11_tick_60 : decode cX11_tick 60 = .ok (.iconst 1, 1) := by decide +kernel
theorem dX11_tick_61 : decode cX11_tick 61 = .ok (.aaload, 1) := by decide +kernel
theorem dX11_tick_62 : decode cX11_tick 62 = .ok (.aload_n 0, 1) := by decide +kernel
theorem dX11_tick_63 : decode cX11_tick 63 = .ok (.getfield 9, 3) := by decide +kernel
theorem dX11_tick_66 : decode cX11_tick 66 = .ok (.iconst 0, 1) := by decide +kernel
theorem dX11_tick_67 : decode cX11_tick 67 = .ok (.aaload, 1) := by decide +kernel
theorem dX11_tick_68 : decode cX11_tick 68 = .ok (.invokevirtual 394, 3) := by decide +kernel
theorem dX11_tick_71 : decode cX11_tick 71 = .ok (.aload_n 0, 1) := by decide +kernel
theorem dX11_tick_72 : decode cX11_tick 72 = .ok (.invokevirtual 398, 3) := by decide +kernel
theorem dX11_tick_75 : decode cX11_tick 75 = .ok (.iconst 0, 1) := by decide +kernel
theorem dX11_tick_76 : decode cX11_tick 76 = .ok (.istore 4, 2) := by decide +kernel
theorem dX11_tick_78 : decode cX11_tick 78 = .ok (.iload 4, 2) := by decide +kernel
theorem dX11_tick_80 : decode cX11_tick 80 = .ok (.aload_n 0, 1) := by decide +kernel
theorem dX11_tick_81 : decode cX11_tick 81 = .ok (.getfield 9, 3) := by decide +kernel
theorem dX11_tick_84 : decode cX11_tick 84 = .ok (.arraylength, 1) := by decide +kernel
theorem dX11_tick_85 : decode cX11_tick 85 = .ok (.if_icmp .ge 74, 3) := by decide +kernel
theorem dX11_tick_88 : decode cX11_tick 88 = .ok (.aload_n 0, 1) := by decide +kernel
theorem dX11_tick_89 : decode cX11_tick 89 = .ok (.getfield 9, 3) := by decide +kernel
theorem dX11_tick_92 : decode cX11_tick 92 = .ok (.iload 4, 2) := by decide +kernel
theorem dX11_tick_94 : decode cX11_tick 94 = .ok (.aaload, 1) := by decide +kernel
theorem dX11_tick_95 : decode cX11_tick 95 = .ok (.astore 5, 2) := by decide +kernel
theorem dX11_tick_97 : decode cX11_tick 97 = .ok (.aload_n 0, 1) := by decide +kernel
theorem dX11_tick_98 : decode cX11_tick 98 = .ok (.getfield 9, 3) := by decide +kernel
theorem dX11_tick_101 : decode cX11_tick 101 = .ok (.iconst 1, 1) := by decide +kernel
theorem dX11_tick_102 : decode cX11_tick 102 = .ok (.iload 4, 2) := by decide +kernel
theorem dX11_tick_104 : decode cX11_tick 104 = .ok (.isub, 1) := by decide +kernel
theorem dX11_tick_105 : decode cX11_tick 105 = .ok (.aaload, 1) := by decide +kernel
theorem dX11_tick_106 : decode cX11_tick 106 = .ok (.astore 6, 2) := by decide +kernel
theorem dX11_tick_108 : decode cX11_tick 108 = .ok (.aload_n 0, 1) := by decide +kernel
theorem dX11_tick_109 : decode cX11_tick 109 = .ok (.aload 5, 2) := by decide +kernel
theorem dX11_tick_111 : decode cX11_tick 111 = .ok (.aload 6, 2) := by decide +kernel
theorem dX11_tick_113 : decode cX11_tick 113 = .ok (.invokevirtual 401, 3) := by decide +kernel
theorem dX11_tick_116 : decode cX11_tick 116 = .ok (.ifCond .eq 37, 3) := by decide +kernel
theorem dX11_tick_119 : decode cX11_tick 119 = .ok (.aload_n 0, 1) := by decide +kernel
theorem dX11_tick_120 : decode cX11_tick 120 = .ok (.aload 6, 2) := by decide +kernel
theorem dX11_tick_122 : decode cX11_tick 122 = .ok (.invokevirtual 405, 3) := by decide +kernel
theorem dX11_tick_125 : decode cX11_tick 125 = .ok (.ifCond .eq 8, 3) := by decide +kernel
theorem dX11_tick_128 : decode cX11_tick 128 = .ok (.aload 6, 2) := by decide +kernel
theorem dX11_tick_130 : decode cX11_tick 130 = .ok (.invokestatic 409, 3) := by decide +kernel
theorem dX11_tick_133 : decode cX11_tick 133 = .ok (.aload_n 0, 1) := by decide +kernel
theorem dX11_tick_134 : decode cX11_tick 134 = .ok (.aload 6, 2) := by decide +kernel
theorem dX11_tick_136 : decode cX11_tick 136 = .ok (.invokevirtual 413, 3) := by decide +kernel
theorem dX11_tick_139 : decode cX11_tick 139 = .ok (.aload_n 0, 1) := by decide +kernel
theorem dX11_tick_140 : decode cX11_tick 140 = .ok (.aload 5, 2) := by decide +kernel
theorem dX11_tick_142 : decode cX11_tick 142 = .ok (.invokevirtual 405, 3) := by decide +kernel
theorem dX11_tick_145 : decode cX11_tick 145 = .ok (.ifCond .eq 8, 3) := by decide +kernel
theorem dX11_tick_148 : decode cX11_tick 148 = .ok (.aload 5, 2) := by decide +kernel
theorem dX11_tick_150 : decode cX11_tick 150 = .ok (.invokestatic 409, 3) := by decide +kernel
theorem dX11_tick_153 : decode cX11_tick 153 = .ok (.iinc 4 1, 3) := by decide +kernel
theorem dX11_tick_156 : decode cX11_tick 156 = .ok (.goto (-78), 3) := by decide +kernel
theorem dX11_tick_159 : decode cX11_tick 159 = .ok (.aload_n 0, 1) := by decide +kernel
theorem dX11_tick_160 : decode cX11_tick 160 = .ok (.invokevirtual 416, 3) := by decide +kernel
theorem dX11_tick_163 : decode cX11_tick 163 = .ok (.aload_n 0, 1) := by decide +kernel
theorem dX11_tick_164 : decode cX11_tick 164 = .ok (.invokevirtual 419, 3) := by decide +kernel
theorem dX11_tick_167 : decode cX11_tick 167 = .ok (.iload_n 2, 1) := by decide +kernel
theorem dX11_tick_168 : decode cX11_tick 168 = .ok (.aload_n 0, 1) := by decide +kernel
theorem dX11_tick_169 : decode cX11_tick 169 = .ok (.getfield 18, 3) := by decide +kernel
theorem dX11_tick_172 : decode cX11_tick 172 = .ok (.getfield 422, 3) := by decide +kernel
theorem dX11_tick_175 : decode cX11_tick 175 = .ok (.iadd, 1) := by decide +kernel
theorem dX11_tick_176 : decode cX11_tick 176 = .ok (.istore_n 2, 1) := by decide +kernel
theorem dX11_tick_177 : decode cX11_tick 177 = .ok (.aload_n 0, 1) := by decide +kernel
theorem dX11_tick_178 : decode cX11_tick 178 = .ok (.dup, 1) := by decide +kernel
theorem dX11_tick_179 : decode cX11_tick 179 = .ok (.getfield 65, 3) := by decide +kernel
theorem dX11_tick_182 : decode cX11_tick 182 = .ok (.iconst 1, 1) := by decide +kernel
theorem dX11_tick_183 : decode cX11_tick 183 = .ok (.iadd, 1) := by decide +kernel
theorem dX11_tick_184 : decode cX11_tick 184 = .ok (.putfield 65, 3) := by decide +kernel
theorem dX11_tick_187 : decode cX11_tick 187 = .ok (.iinc 3 1, 3) := by decide +kernel
theorem dX11_tick_190 : decode cX11_tick 190 = .ok (.goto (-163), 3) := by decide +kernel
theorem dX11_tick_193 : decode cX11_tick 193 = .ok (.iload_n 2, 1) := by decide +kernel
theorem dX11_tick_194 : decode cX11_tick 194 = .ok (.ireturn, 1) := by decide +kernel
theorem dX11_spread_0 : decode cX11_spread 0 = .ok (.aload_n 1, 1) := by decide +kernel
theorem dX11_spread_1 : decode cX11_spread 1 = .ok (.getfield 59, 3) := by decide +kernel
theorem dX11_spread_4 : decode cX11_spread 4 = .ok (.iconst 1, 1) := by decide +kernel
theorem dX11_spread_5 : decode cX11_spread 5 = .ok (.if_icmp .ne 14, 3) := by decide +kernel
theorem dX11_spread_8 : decode cX11_spread 8 = .ok (.aload_n 1, 1) := by decide +kernel
theorem dX11_spread_9 : decode cX11_spread 9 = .ok (.getfield 68, 3) := by decide +kernel
theorem dX11_spread_12 : decode cX11_spread 12 = .ok (.aload_n 0, 1) := by decide +kernel
theorem dX11_spread_13 : decode cX11_spread 13 = .ok (.getfield 65, 3) := by decide +kernel
theorem dX11_spread_16 : decode cX11_spread 16 = .ok (.if_icmp .eq 4, 3) := by decide +kernel
theorem dX11_spread_19 : decode cX11_spread 19 = .ok (.return_, 1) := by decide +kernel
theorem dX11_spread_20 : decode cX11_spread 20 = .ok (.aload_n 1, 1) := by decide +kernel
theorem dX11_spread_21 : decode cX11_spread 21 = .ok (.aload_n 0, 1) := by decide +kernel
theorem dX11_spread_22 : decode cX11_spread 22 = .ok (.getfield 65, 3) := by decide +kernel
theorem dX11_spread_25 : decode cX11_spread 25 = .ok (.aload_n 1, 1) := by decide +kernel
theorem dX11_spread_26 : decode cX11_spread 26 = .ok (.getfield 62, 3) := by decide +kernel
theorem dX11_spread_29 : decode cX11_spread 29 = .ok (.iadd, 1) := by decide +kernel
theorem dX11_spread_30 : decode cX11_spread 30 = .ok (.aload_n 1, 1) := by decide +kernel
theorem dX11_spread_31 : decode cX11_spread 31 = .ok (.invokevirtual 423, 3) := by decide +kernel
theorem dX11_spread_34 : decode cX11_spread 34 = .ok (.iconst 3, 1) := by decide +kernel
theorem dX11_spread_35 : decode cX11_spread 35 = .ok (.iand, 1) := by decide +kernel
theorem dX11_spread_36 : decode cX11_spread 36 = .ok (.iadd, 1) := by decide +kernel
theorem dX11_spread_37 : decode cX11_spread 37 = .ok (.putfield 68, 3) := by decide +kernel
theorem dX11_spread_40 : decode cX11_spread 40 = .ok (.bipush 37, 2) := by decide +kernel
theorem dX11_spread_42 : decode cX11_spread 42 = .ok (.istore_n 3, 1) := by decide +kernel
theorem dX11_spread_43 : decode cX11_spread 43 = .ok (.iload_n 3, 1) := by decide +kernel
theorem dX11_spread_44 : decode cX11_spread 44 = .ok (.bipush 39, 2) := by decide +kernel
theorem dX11_spread_46 : decode cX11_spread 46 = .ok (.if_icmp .gt 141, 3) := by decide +kernel
theorem dX11_spread_49 : decode cX11_spread 49 = .ok (.aload_n 1, 1) := by decide +kernel
theorem dX11_spread_50 : decode cX11_spread 50 = .ok (.getfield 59, 3) := by decide +kernel
theorem dX11_spread_53 : decode cX11_spread 53 = .ok (.iconst 1, 1) := by decide +kernel
theorem dX11_spread_54 : decode cX11_spread 54 = .ok (.if_icmp .ne 133, 3) := by decide +kernel
theorem dX11_spread_57 : decode cX11_spread 57 = .ok (.aload_n 0, 1) := by decide +kernel
theorem dX11_spread_58 : decode cX11_spread 58 = .ok (.getfield 31, 3) := by decide +kernel
theorem dX11_spread_61 : decode cX11_spread 61 = .ok (.invokevirtual 78, 3) := by decide +kernel
theorem dX11_spread_64 : decode cX11_spread 64 = .ok (.aload_n 0, 1) := by decide +kernel
theorem dX11_spread_65 : decode cX11_spread 65 = .ok (.getfield 31, 3) := by decide +kernel
theorem dX11_spread_68 : decode cX11_spread 68 = .ok (.aload_n 1, 1) := by decide +kernel
theorem dX11_spread_69 : decode cX11_spread 69 = .ok (.getfield 305, 3) := by decide +kernel
theorem dX11_spread_72 : decode cX11_spread 72 = .ok (.bipush 6, 2) := by decide +kernel
theorem dX11_spread_74 : decode cX11_spread 74 = .ok (.invokevirtual 160, 3) := by decide +kernel
theorem dX11_spread_77 : decode cX11_spread 77 = .ok (.aload_n 0, 1) := by decide +kernel
theorem dX11_spread_78 : decode cX11_spread 78 = .ok (.getfield 31, 3) := by decide +kernel
theorem dX11_spread_81 : decode cX11_spread 81 = .ok (.aload_n 1, 1) := by decide +kernel
theorem dX11_spread_82 : decode cX11_spread 82 = .ok (.getfield 71, 3) := by decide +kernel
theorem dX11_spread_85 : decode cX11_spread 85 = .ok (.iconst 0, 1) := by decide +kernel
theorem dX11_spread_86 : decode cX11_spread 86 = .ok (.aload_n 1, 1) := by decide +kernel
theorem dX11_spread_87 : decode cX11_spread 87 = .ok (.getfield 71, 3) := by decide +kernel
theorem dX11_spread_90 : decode cX11_spread 90 = .ok (.getfield 42, 3) := by decide +kernel
theorem dX11_spread_93 : decode cX11_spread 93 = .ok (.invokevirtual 426, 3) := by decide +kernel
theorem dX11_spread_96 : decode cX11_spread 96 = .ok (.aload_n 0, 1) := by decide +kernel
theorem dX11_spread_97 : decode cX11_spread 97 = .ok (.getfield 18, 3) := by decide +kernel
theorem dX11_spread_100 : decode cX11_spread 100 = .ok (.aload_n 1, 1) := by decide +kernel
theorem dX11_spread_101 : decode cX11_spread 101 = .ok (.getfield 430, 3) := by decide +kernel
theorem dX11_spread_104 : decode cX11_spread 104 = .ok (.iload_n 3, 1) := by decide +kernel
theorem dX11_spread_105 : decode cX11_spread 105 = .ok (.ldc_w 433, 3) := by decide +kernel
theorem dX11_spread_108 : decode cX11_spread 108 = .ok (.ldc_w 434, 3) := by decide +kernel
theorem dX11_spread_111 : decode cX11_spread 111 = .ok (.iconst 0, 1) := by decide +kernel
theorem dX11_spread_112 : decode cX11_spread 112 = .ok (.aload_n 0, 1) := by decide +kernel
theorem dX11_spread_113 : decode cX11_spread 113 = .ok (.getfield 31, 3) := by decide +kernel
theorem dX11_spread_116 : decode cX11_spread 116 = .ok (.invokevirtual 435, 3) := by decide +kernel
theorem dX11_spread_119 : decode cX11_spread 119 = .ok (.aload_n 0, 1) := by decide +kernel
theorem dX11_spread_120 : decode cX11_spread 120 = .ok (.aload_n 2, 1) := by decide +kernel
theorem dX11_spread_121 : decode cX11_spread 121 = .ok (.iload_n 3, 1) := by decide +kernel
theorem dX11_spread_122 : decode cX11_spread 122 = .ok (.invokevirtual 439, 3) := by decide +kernel
theorem dX11_spread_125 : decode cX11_spread 125 = .ok (.ifCond .eq 56, 3) := by decide +kernel
theorem dX11_spread_128 : decode cX11_spread 128 = .ok (.aload_n 2, 1) := by decide +kernel
theorem dX11_spread_129 : decode cX11_spread 129 = .ok (.getfield 59, 3) := by decide +kernel
theorem dX11_spread_132 : decode cX11_spread 132 = .ok (.iconst 2, 1) := by decide +kernel
theorem dX11_spread_133 : decode cX11_spread 133 = .ok (.if_icmp .ne 17, 3) := by decide +kernel
theorem dX11_spread_136 : decode cX11_spread 136 = .ok (.aload_n 2, 1) := by decide +kernel
theorem dX11_spread_137 : decode cX11_spread 137 = .ok (.aload_n 0, 1) := by decide +kernel
theorem dX11_spread_138 : decode cX11_spread 138 = .ok (.getfield 18, 3) := by decide +kernel
theorem dX11_spread_141 : decode cX11_spread 141 = .ok (.getfield 443, 3) := by decide +kernel
theorem dX11_spread_144 : decode cX11_spread 144 = .ok (.invokevirtual 446, 3) := by decide +kernel
theorem dX11_spread_147 : decode cX11_spread 147 = .ok (.goto 34, 3) := by decide +kernel
theorem dX11_spread_150 : decode cX11_spread 150 = .ok (.aload_n 0, 1) := by decide +kernel
theorem dX11_spread_151 : decode cX11_spread 151 = .ok (.getfield 18, 3) := by decide +kernel
theorem dX11_spread_154 : decode cX11_spread 154 = .ok (.getfield 443, 3) := by decide +kernel
theorem dX11_spread_157 : decode cX11_spread 157 = .ok (.iconst 0, 1) := by decide +kernel
theorem dX11_spread_158 : decode cX11_spread 158 = .ok (.bipush 6, 2) := by decide +kernel
theorem dX11_spread_160 : decode cX11_spread 160 = .ok (.invokevirtual 449, 3) := by decide +kernel
theorem dX11_spread_163 : decode cX11_spread 163 = .ok (.aload_n 2, 1) := by decide +kernel
theorem dX11_spread_164 : decode cX11_spread 164 = .ok (.getfield 87, 3) := by decide +kernel
theorem dX11_spread_167 : decode cX11_spread 167 = .ok (.getfield 95, 3) := by decide +kernel
theorem dX11_spread_170 : decode cX11_spread 170 = .ok (.lcmp, 1) := by decide +kernel
theorem dX11_spread_171 : decode cX11_spread 171 = .ok (.ifCond .ne 10, 3) := by decide +kernel
theorem dX11_spread_174 : decode cX11_spread 174 = .ok (.aload_n 0, 1) := by decide +kernel
theorem dX11_spread_175 : decode cX11_spread 175 = .ok (.aload_n 2, 1) := by decide +kernel
theorem dX11_spread_176 : decode cX11_spread 176 = .ok (.aload_n 1, 1) := by decide +kernel
theorem dX11_spread_177 : decode cX11_spread 177 = .ok (.iload_n 3, 1) := by decide +kernel
theorem dX11_spread_178 : decode cX11_spread 178 = .ok (.invokevirtual 453, 3) := by decide +kernel
theorem dX11_spread_181 : decode cX11_spread 181 = .ok (.iinc 3 1, 3) := by decide +kernel
theorem dX11_spread_184 : decode cX11_spread 184 = .ok (.goto (-141), 3) := by decide +kernel
theorem dX11_spread_187 : decode cX11_spread 187 = .ok (.return_, 1) := by decide +kernel
theorem dX11_beginEvents_0 : decode cX11_beginEvents 0 = .ok (.iconst 0, 1) := by decide +kernel
theorem dX11_beginEvents_1 : decode cX11_beginEvents 1 = .ok (.istore_n 1, 1) := by decide +kernel
theorem dX11_beginEvents_2 : decode cX11_beginEvents 2 = .ok (.iload_n 1, 1) := by decide +kernel
theorem dX11_beginEvents_3 : decode cX11_beginEvents 3 = .ok (.aload_n 0, 1) := by decide +kernel
theorem dX11_beginEvents_4 : decode cX11_beginEvents 4 = .ok (.getfield 9, 3) := by decide +kernel
theorem dX11_beginEvents_7 : decode cX11_beginEvents 7 = .ok (.arraylength, 1) := by decide +kernel
theorem dX11_beginEvents_8 : decode cX11_beginEvents 8 = .ok (.if_icmp .ge 37, 3) := by decide +kernel
theorem dX11_beginEvents_11 : decode cX11_beginEvents 11 = .ok (.aload_n 0, 1) := by decide +kernel
theorem dX11_beginEvents_12 : decode cX11_beginEvents 12 = .ok (.getfield 9, 3) := by decide +kernel
theorem dX11_beginEvents_15 : decode cX11_beginEvents 15 = .ok (.iload_n 1, 1) := by decide +kernel
theorem dX11_beginEvents_16 : decode cX11_beginEvents 16 = .ok (.aaload, 1) := by decide +kernel
theorem dX11_beginEvents_17 : decode cX11_beginEvents 17 = .ok (.aload_n 0, 1) := by decide +kernel
theorem dX11_beginEvents_18 : decode cX11_beginEvents 18 = .ok (.getfield 65, 3) := by decide +kernel
theorem dX11_beginEvents_21 : decode cX11_beginEvents 21 = .ok (.invokevirtual 483, 3) := by decide +kernel
theorem dX11_beginEvents_24 : decode cX11_beginEvents 24 = .ok (.ifCond .eq 15, 3) := by decide +kernel
theorem dX11_beginEvents_27 : decode cX11_beginEvents 27 = .ok (.aload_n 0, 1) := by decide +kernel
theorem dX11_beginEvents_28 : decode cX11_beginEvents 28 = .ok (.getfield 9, 3) := by decide +kernel
theorem dX11_beginEvents_31 : decode cX11_beginEvents 31 = .ok (.iload_n 1, 1) := by decide +kernel
theorem dX11_beginEvents_32 : decode cX11_beginEvents 32 = .ok (.aaload, 1) := by decide +kernel
theorem dX11_beginEvents_33 : decode cX11_beginEvents 33 = .ok (.getfield 87, 3) := by decide +kernel
theorem dX11_beginEvents_36 : decode cX11_beginEvents 36 = .ok (.invokevirtual 487, 3) := by decide +kernel
theorem dX11_beginEvents_39 : decode cX11_beginEvents 39 = .ok (.iinc 1 1, 3) := by decide +kernel
theorem dX11_beginEvents_42 : decode cX11_beginEvents 42 = .ok (.goto (-40), 3) := by decide +kernel
theorem dX11_beginEvents_45 : decode cX11_beginEvents 45 = .ok (.return_, 1) := by decide +kernel
theorem dX11_reaches_0 : decode cX11_reaches 0 = .ok (.aload_n 1, 1) := by decide +kernel
theorem dX11_reaches_1 : decode cX11_reaches 1 = .ok (.getfield 59, 3) := by decide +kernel
theorem dX11_reaches_4 : decode cX11_reaches 4 = .ok (.iconst 4, 1) := by decide +kernel
theorem dX11_reaches_5 : decode cX11_reaches 5 = .ok (.if_icmp .ne 14, 3) := by decide +kernel
theorem dX11_reaches_8 : decode cX11_reaches 8 = .ok (.aload_n 1, 1) := by decide +kernel
theorem dX11_reaches_9 : decode cX11_reaches 9 = .ok (.aload_n 0, 1) := by decide +kernel
theorem dX11_reaches_10 : decode cX11_reaches 10 = .ok (.getfield 65, 3) := by decide +kernel
theorem dX11_reaches_13 : decode cX11_reaches 13 = .ok (.invokevirtual 483, 3) := by decide +kernel
theorem dX11_reaches_16 : decode cX11_reaches 16 = .ok (.ifCond .ne 5, 3) := by decide +kernel
theorem dX11_reaches_19 : decode cX11_reaches 19 = .ok (.iconst 0, 1) := by decide +kernel
theorem dX11_reaches_20 : decode cX11_reaches 20 = .ok (.ireturn, 1) := by decide +kernel
theorem dX11_reaches_21 : decode cX11_reaches 21 = .ok (.aload_n 0, 1) := by decide +kernel
theorem dX11_reaches_22 : decode cX11_reaches 22 = .ok (.aload_n 1, 1) := by decide +kernel
theorem dX11_reaches_23 : decode cX11_reaches 23 = .ok (.invokevirtual 413, 3) := by decide +kernel
theorem dX11_reaches_26 : decode cX11_reaches 26 = .ok (.aload_n 2, 1) := by decide +kernel
theorem dX11_reaches_27 : decode cX11_reaches 27 = .ok (.getfield 59, 3) := by decide +kernel
theorem dX11_reaches_30 : decode cX11_reaches 30 = .ok (.iconst 5, 1) := by decide +kernel
theorem dX11_reaches_31 : decode cX11_reaches 31 = .ok (.if_icmp .ne 42, 3) := by decide +kernel
theorem dX11_reaches_34 : decode cX11_reaches 34 = .ok (.aload_n 2, 1) := by decide +kernel
theorem dX11_reaches_35 : decode cX11_reaches 35 = .ok (.aload_n 0, 1) := by decide +kernel
theorem dX11_reaches_36 : decode cX11_reaches 36 = .ok (.getfield 65, 3) := by decide +kernel
theorem dX11_reaches_39 : decode cX11_reaches 39 = .ok (.invokevirtual 483, 3) := by decide +kernel
theorem dX11_reaches_42 : decode cX11_reaches 42 = .ok (.ifCond .eq 31, 3) := by decide +kernel
theorem dX11_reaches_45 : decode cX11_reaches 45 = .ok (.aload_n 0, 1) := by decide +kernel
theorem dX11_reaches_46 : decode cX11_reaches 46 = .ok (.getfield 18, 3) := by decide +kernel
theorem dX11_reaches_49 : decode cX11_reaches 49 = .ok (.aload_n 2, 1) := by decide +kernel
theorem dX11_reaches_50 : decode cX11_reaches 50 = .ok (.getfield 87, 3) := by decide +kernel
theorem dX11_reaches_53 : decode cX11_reaches 53 = .ok (.getfield 345, 3) := by decide +kernel
theorem dX11_reaches_56 : decode cX11_reaches 56 = .ok (.aload_n 2, 1) := by decide +kernel
theorem dX11_reaches_57 : decode cX11_reaches 57 = .ok (.getfield 87, 3) := by decide +kernel
theorem dX11_reaches_60 : decode cX11_reaches 60 = .ok (.getfield 469, 3) := by decide +kernel
theorem dX11_reaches_63 : decode cX11_reaches 63 = .ok (.invokevirtual 457, 3) := by decide +kernel
theorem dX11_reaches_66 : decode cX11_reaches 66 = .ok (.ifCond .eq 7, 3) := by decide +kernel
theorem dX11_reaches_69 : decode cX11_reaches 69 = .ok (.iconst 1, 1) := by decide +kernel
theorem dX11_reaches_70 : decode cX11_reaches 70 = .ok (.goto 4, 3) := by decide +kernel
theorem dX11_reaches_73 : decode cX11_reaches 73 = .ok (.iconst 0, 1) := by decide +kernel
theorem dX11_reaches_74 : decode cX11_reaches 74 = .ok (.ireturn, 1) := by decide +kernel
theorem dX11_endEvents_0 : decode cX11_endEvents 0 = .ok (.iconst 0, 1) := by decide +kernel
theorem dX11_endEvents_1 : decode cX11_endEvents 1 = .ok (.istore_n 1, 1) := by decide +kernel
theorem dX11_endEvents_2 : decode cX11_endEvents 2 = .ok (.iload_n 1, 1) := by decide +kernel
theorem dX11_endEvents_3 : decode cX11_endEvents 3 = .ok (.aload_n 0, 1) := by decide +kernel
theorem dX11_endEvents_4 : decode cX11_endEvents 4 = .ok (.getfield 9, 3) := by decide +kernel
theorem dX11_endEvents_7 : decode cX11_endEvents 7 = .ok (.arraylength, 1) := by decide +kernel
theorem dX11_endEvents_8 : decode cX11_endEvents 8 = .ok (.if_icmp .ge 37, 3) := by decide +kernel
theorem dX11_endEvents_11 : decode cX11_endEvents 11 = .ok (.aload_n 0, 1) := by decide +kernel
theorem dX11_endEvents_12 : decode cX11_endEvents 12 = .ok (.getfield 9, 3) := by decide +kernel
theorem dX11_endEvents_15 : decode cX11_endEvents 15 = .ok (.iload_n 1, 1) := by decide +kernel
theorem dX11_endEvents_16 : decode cX11_endEvents 16 = .ok (.aaload, 1) := by decide +kernel
theorem dX11_endEvents_17 : decode cX11_endEvents 17 = .ok (.aload_n 0, 1) := by decide +kernel
theorem dX11_endEvents_18 : decode cX11_endEvents 18 = .ok (.getfield 65, 3) := by decide +kernel
theorem dX11_endEvents_21 : decode cX11_endEvents 21 = .ok (.invokevirtual 483, 3) := by decide +kernel
theorem dX11_endEvents_24 : decode cX11_endEvents 24 = .ok (.ifCond .eq 15, 3) := by decide +kernel
theorem dX11_endEvents_27 : decode cX11_endEvents 27 = .ok (.aload_n 0, 1) := by decide +kernel
theorem dX11_endEvents_28 : decode cX11_endEvents 28 = .ok (.getfield 9, 3) := by decide +kernel
theorem dX11_endEvents_31 : decode cX11_endEvents 31 = .ok (.iload_n 1, 1) := by decide +kernel
theorem dX11_endEvents_32 : decode cX11_endEvents 32 = .ok (.aaload, 1) := by decide +kernel
theorem dX11_endEvents_33 : decode cX11_endEvents 33 = .ok (.getfield 87, 3) := by decide +kernel
theorem dX11_endEvents_36 : decode cX11_endEvents 36 = .ok (.invokevirtual 490, 3) := by decide +kernel
theorem dX11_endEvents_39 : decode cX11_endEvents 39 = .ok (.iinc 1 1, 3) := by decide +kernel
theorem dX11_endEvents_42 : decode cX11_endEvents 42 = .ok (.goto (-40), 3) := by decide +kernel
theorem dX11_endEvents_45 : decode cX11_endEvents 45 = .ok (.return_, 1) := by decide +kernel
theorem dX11_endLinks_0 : decode cX11_endLinks 0 = .ok (.iconst 0, 1) := by decide +kernel
theorem dX11_endLinks_1 : decode cX11_endLinks 1 = .ok (.istore_n 1, 1) := by decide +kernel
theorem dX11_endLinks_2 : decode cX11_endLinks 2 = .ok (.iload_n 1, 1) := by decide +kernel
theorem dX11_endLinks_3 : decode cX11_endLinks 3 = .ok (.aload_n 0, 1) := by decide +kernel
theorem dX11_endLinks_4 : decode cX11_endLinks 4 = .ok (.getfield 9, 3) := by decide +kernel
theorem dX11_endLinks_7 : decode cX11_endLinks 7 = .ok (.arraylength, 1) := by decide +kernel
theorem dX11_endLinks_8 : decode cX11_endLinks 8 = .ok (.if_icmp .ge 49, 3) := by decide +kernel
theorem dX11_endLinks_11 : decode cX11_endLinks 11 = .ok (.aload_n 0, 1) := by decide +kernel
theorem dX11_endLinks_12 : decode cX11_endLinks 12 = .ok (.getfield 9, 3) := by decide +kernel
theorem dX11_endLinks_15 : decode cX11_endLinks 15 = .ok (.iload_n 1, 1) := by decide +kernel
theorem dX11_endLinks_16 : decode cX11_endLinks 16 = .ok (.aaload, 1) := by decide +kernel
theorem dX11_endLinks_17 : decode cX11_endLinks 17 = .ok (.astore_n 2, 1) := by decide +kernel
theorem dX11_endLinks_18 : decode cX11_endLinks 18 = .ok (.aload_n 2, 1) := by decide +kernel
theorem dX11_endLinks_19 : decode cX11_endLinks 19 = .ok (.invokevirtual 99, 3) := by decide +kernel
theorem dX11_endLinks_22 : decode cX11_endLinks 22 = .ok (.ifCond .eq 17, 3) := by decide +kernel
theorem dX11_endLinks_25 : decode cX11_endLinks 25 = .ok (.aload_n 2, 1) := by decide +kernel
theorem dX11_endLinks_26 : decode cX11_endLinks 26 = .ok (.getfield 87, 3) := by decide +kernel
theorem dX11_endLinks_29 : decode cX11_endLinks 29 = .ok (.aload_n 0, 1) := by decide +kernel
theorem dX11_endLinks_30 : decode cX11_endLinks 30 = .ok (.getfield 65, 3) := by decide +kernel
theorem dX11_endLinks_33 : decode cX11_endLinks 33 = .ok (.invokevirtual 493, 3) := by decide +kernel
theorem dX11_endLinks_36 : decode cX11_endLinks 36 = .ok (.goto 4, 3) := by decide +kernel
theorem dX11_endLinks_39 : decode cX11_endLinks 39 = .ok (.iconst (-1), 1) := by decide +kernel
theorem dX11_endLinks_40 : decode cX11_endLinks 40 = .ok (.istore_n 3, 1) := by decide +kernel
theorem dX11_endLinks_41 : decode cX11_endLinks 41 = .ok (.iload_n 3, 1) := by decide +kernel
theorem dX11_endLinks_42 : decode cX11_endLinks 42 = .ok (.iconst (-1), 1) := by decide +kernel
theorem dX11_endLinks_43 : decode cX11_endLinks 43 = .ok (.if_icmp .eq 8, 3) := by decide +kernel
theorem dX11_endLinks_46 : decode cX11_endLinks 46 = .ok (.aload_n 2, 1) := by decide +kernel
theorem dX11_endLinks_47 : decode cX11_endLinks 47 = .ok (.iload_n 3, 1) := by decide +kernel
theorem dX11_endLinks_48 : decode cX11_endLinks 48 = .ok (.invokevirtual 496, 3) := by decide +kernel
theorem dX11_endLinks_51 : decode cX11_endLinks 51 = .ok (.iinc 1 1, 3) := by decide +kernel
theorem dX11_endLinks_54 : decode cX11_endLinks 54 = .ok (.goto (-52), 3) := by decide +kernel
theorem dX11_endLinks_57 : decode cX11_endLinks 57 = .ok (.return_, 1) := by decide +kernel
theorem dJ13_bitCount_95d88_0 : decode cJ13_bitCount_95d88 0 = .ok (.lload_n 0, 1) := by decide +kernel
theorem dJ13_bitCount_95d88_1 : decode cJ13_bitCount_95d88 1 = .ok (.lload_n 0, 1) := by decide +kernel
theorem dJ13_bitCount_95d88_2 : decode cJ13_bitCount_95d88 2 = .ok (.iconst 1, 1) := by decide +kernel
theorem dJ13_bitCount_95d88_3 : decode cJ13_bitCount_95d88 3 = .ok (.lushr, 1) := by decide +kernel
theorem dJ13_bitCount_95d88_4 : decode cJ13_bitCount_95d88 4 = .ok (.ldc2_w 314, 3) := by decide +kernel
theorem dJ13_bitCount_95d88_7 : decode cJ13_bitCount_95d88 7 = .ok (.land, 1) := by decide +kernel
theorem dJ13_bitCount_95d88_8 : decode cJ13_bitCount_95d88 8 = .ok (.lsub, 1) := by decide +kernel
theorem dJ13_bitCount_95d88_9 : decode cJ13_bitCount_95d88 9 = .ok (.lstore_n 0, 1) := by decide +kernel
theorem dJ13_bitCount_95d88_10 : decode cJ13_bitCount_95d88 10 = .ok (.lload_n 0, 1) := by decide +kernel
theorem dJ13_bitCount_95d88_11 : decode cJ13_bitCount_95d88 11 = .ok (.ldc2_w 316, 3) := by decide +kernel
theorem dJ13_bitCount_95d88_14 : decode cJ13_bitCount_95d88 14 = .ok (.land, 1) := by decide +kernel
theorem dJ13_bitCount_95d88_15 : decode cJ13_bitCount_95d88 15 = .ok (.lload_n 0, 1) := by decide +kernel
theorem dJ13_bitCount_95d88_16 : decode cJ13_bitCount_95d88 16 = .ok (.iconst 2, 1) := by decide +kernel
theorem dJ13_bitCount_95d88_17 : decode cJ13_bitCount_95d88 17 = .ok (.lushr, 1) := by decide +kernel
theorem dJ13_bitCount_95d88_18 : decode cJ13_bitCount_95d88 18 = .ok (.ldc2_w 316, 3) := by decide +kernel
theorem dJ13_bitCount_95d88_21 : decode cJ13_bitCount_95d88 21 = .ok (.land, 1) := by decide +kernel
theorem dJ13_bitCount_95d88_22 : decode cJ13_bitCount_95d88 22 = .ok (.ladd, 1) := by decide +kernel
theorem dJ13_bitCount_95d88_23 : decode cJ13_bitCount_95d88 23 = .ok (.lstore_n 0, 1) := by decide +kernel
theorem dJ13_bitCount_95d88_24 : decode cJ13_bitCount_95d88 24 = .ok (.lload_n 0, 1) := by decide +kernel
theorem dJ13_bitCount_95d88_25 : decode cJ13_bitCount_95d88 25 = .ok (.lload_n 0, 1) := by decide +kernel
theorem dJ13_bitCount_95d88_26 : decode cJ13_bitCount_95d88 26 = .ok (.iconst 4, 1) := by decide +kernel
theorem dJ13_bitCount_95d88_27 : decode cJ13_bitCount_95d88 27 = .ok (.lushr, 1) := by decide +kernel
theorem dJ13_bitCount_95d88_28 : decode cJ13_bitCount_95d88 28 = .ok (.ladd, 1) := by decide +kernel
theorem dJ13_bitCount_95d88_29 : decode cJ13_bitCount_95d88 29 = .ok (.ldc2_w 318, 3) := by decide +kernel
theorem dJ13_bitCount_95d88_32 : decode cJ13_bitCount_95d88 32 = .ok (.land, 1) := by decide +kernel
theorem dJ13_bitCount_95d88_33 : decode cJ13_bitCount_95d88 33 = .ok (.lstore_n 0, 1) := by decide +kernel
theorem dJ13_bitCount_95d88_34 : decode cJ13_bitCount_95d88 34 = .ok (.lload_n 0, 1) := by decide +kernel
theorem dJ13_bitCount_95d88_35 : decode cJ13_bitCount_95d88 35 = .ok (.lload_n 0, 1) := by decide +kernel
theorem dJ13_bitCount_95d88_36 : decode cJ13_bitCount_95d88 36 = .ok (.bipush 8, 2) := by decide +kernel
theorem dJ13_bitCount_95d88_38 : decode cJ13_bitCount_95d88 38 = .ok (.lushr, 1) := by decide +kernel
theorem dJ13_bitCount_95d88_39 : decode cJ13_bitCount_95d88 39 = .ok (.ladd, 1) := by decide +kernel
theorem dJ13_bitCount_95d88_40 : decode cJ13_bitCount_95d88 40 = .ok (.lstore_n 0, 1) := by decide +kernel
theorem dJ13_bitCount_95d88_41 : decode cJ13_bitCount_95d88 41 = .ok (.lload_n 0, 1) := by decide +kernel
theorem dJ13_bitCount_95d88_42 : decode cJ13_bitCount_95d88 42 = .ok (.lload_n 0, 1) := by decide +kernel
theorem dJ13_bitCount_95d88_43 : decode cJ13_bitCount_95d88 43 = .ok (.bipush 16, 2) := by decide +kernel
theorem dJ13_bitCount_95d88_45 : decode cJ13_bitCount_95d88 45 = .ok (.lushr, 1) := by decide +kernel
theorem dJ13_bitCount_95d88_46 : decode cJ13_bitCount_95d88 46 = .ok (.ladd, 1) := by decide +kernel
theorem dJ13_bitCount_95d88_47 : decode cJ13_bitCount_95d88 47 = .ok (.lstore_n 0, 1) := by decide +kernel
theorem dJ13_bitCount_95d88_48 : decode cJ13_bitCount_95d88 48 = .ok (.lload_n 0, 1) := by decide +kernel
theorem dJ13_bitCount_95d88_49 : decode cJ13_bitCount_95d88 49 = .ok (.lload_n 0, 1) := by decide +kernel
theorem dJ13_bitCount_95d88_50 : decode cJ13_bitCount_95d88 50 = .ok (.bipush 32, 2) := by decide +kernel
theorem dJ13_bitCount_95d88_52 : decode cJ13_bitCount_95d88 52 = .ok (.lushr, 1) := by decide +kernel
theorem dJ13_bitCount_95d88_53 : decode cJ13_bitCount_95d88 53 = .ok (.ladd, 1) := by decide +kernel
theorem dJ13_bitCount_95d88_54 : decode cJ13_bitCount_95d88 54 = .ok (.lstore_n 0, 1) := by decide +kernel
theorem dJ13_bitCount_95d88_55 : decode cJ13_bitCount_95d88 55 = .ok (.lload_n 0, 1) := by decide +kernel
theorem dJ13_bitCount_95d88_56 : decode cJ13_bitCount_95d88 56 = .ok (.l2i, 1) := by decide +kernel
theorem dJ13_bitCount_95d88_57 : decode cJ13_bitCount_95d88 57 = .ok (.bipush 127, 2) := by decide +kernel
theorem dJ13_bitCount_95d88_59 : decode cJ13_bitCount_95d88 59 = .ok (.iand, 1) := by decide +kernel
theorem dJ13_bitCount_95d88_60 : decode cJ13_bitCount_95d88 60 = .ok (.ireturn, 1) := by decide +kernel
theorem dJ9_max_7cf53_0 : decode cJ9_max_7cf53 0 = .ok (.iload_n 0, 1) := by decide +kernel
theorem dJ9_max_7cf53_1 : decode cJ9_max_7cf53 1 = .ok (.iload_n 1, 1) := by decide +kernel
theorem dJ9_max_7cf53_2 : decode cJ9_max_7cf53 2 = .ok (.if_icmp .lt 7, 3) := by decide +kernel
theorem dJ9_max_7cf53_5 : decode cJ9_max_7cf53 5 = .ok (.iload_n 0, 1) := by decide +kernel
theorem dJ9_max_7cf53_6 : decode cJ9_max_7cf53 6 = .ok (.goto 4, 3) := by decide +kernel
theorem dJ9_max_7cf53_9 : decode cJ9_max_7cf53 9 = .ok (.iload_n 1, 1) := by decide +kernel
theorem dJ9_max_7cf53_10 : decode cJ9_max_7cf53 10 = .ok (.ireturn, 1) := by decide +kernel
theorem dJ9_min_7cf53_0 : decode cJ9_min_7cf53 0 = .ok (.iload_n 0, 1) := by decide +kernel
theorem dJ9_min_7cf53_1 : decode cJ9_min_7cf53 1 = .ok (.iload_n 1, 1) := by decide +kernel
theorem dJ9_min_7cf53_2 : decode cJ9_min_7cf53 2 = .ok (.if_icmp .gt 7, 3) := by decide +kernel
theorem dJ9_min_7cf53_5 : decode cJ9_min_7cf53 5 = .ok (.iload_n 0, 1) := by decide +kernel
theorem dJ9_min_7cf53_6 : decode cJ9_min_7cf53 6 = .ok (.goto 4, 3) := by decide +kernel
theorem dJ9_min_7cf53_9 : decode cJ9_min_7cf53 9 = .ok (.iload_n 1, 1) := by decide +kernel
theorem dJ9_min_7cf53_10 : decode cJ9_min_7cf53 10 = .ok (.ireturn, 1) := by decide +kernel
theorem dL_cell_0 : decode cL_cell 0 = .ok (.iload_n 1, 1) := by decide +kernel
theorem dL_cell_1 : decode cL_cell 1 = .ok (.aload_n 0, 1) := by decide +kernel
theorem dL_cell_2 : decode cL_cell 2 = .ok (.arraylength, 1) := by decide +kernel
theorem dL_cell_3 : decode cL_cell 3 = .ok (.if_icmp .ge 9, 3) := by decide +kernel
theorem dL_cell_6 : decode cL_cell 6 = .ok (.aload_n 0, 1) := by decide +kernel
theorem dL_cell_7 : decode cL_cell 7 = .ok (.iload_n 1, 1) := by decide +kernel
theorem dL_cell_8 : decode cL_cell 8 = .ok (.iaload, 1) := by decide +kernel
theorem dL_cell_9 : decode cL_cell 9 = .ok (.goto 4, 3) := by decide +kernel
theorem dL_cell_12 : decode cL_cell 12 = .ok (.iconst 0, 1) := by decide +kernel
theorem dL_cell_13 : decode cL_cell 13 = .ok (.ireturn, 1) := by decide +kernel
theorem dL_tick_0 : decode cL_tick 0 = .ok (.aload_n 2, 1) := by decide +kernel
theorem dL_tick_1 : decode cL_tick 1 = .ok (.iconst 0, 1) := by decide +kernel
theorem dL_tick_2 : decode cL_tick 2 = .ok (.aload_n 0, 1) := by decide +kernel
theorem dL_tick_3 : decode cL_tick 3 = .ok (.iload_n 1, 1) := by decide +kernel
theorem dL_tick_4 : decode cL_tick 4 = .ok (.invokevirtual 7, 3) := by decide +kernel
theorem dL_tick_7 : decode cL_tick 7 = .ok (.i2l, 1) := by decide +kernel
theorem dL_tick_8 : decode cL_tick 8 = .ok (.lastore, 1) := by decide +kernel
theorem dL_tick_9 : decode cL_tick 9 = .ok (.goto 6, 3) := by decide +kernel
theorem dL_tick_12 : decode cL_tick 12 = .ok (.astore_n 3, 1) := by decide +kernel
theorem dL_tick_13 : decode cL_tick 13 = .ok (.iconst 1, 1) := by decide +kernel
theorem dL_tick_14 : decode cL_tick 14 = .ok (.ireturn, 1) := by decide +kernel
theorem dL_tick_15 : decode cL_tick 15 = .ok (.iconst 0, 1) := by decide +kernel
theorem dL_tick_16 : decode cL_tick 16 = .ok (.ireturn, 1) := by decide +kernel
theorem dL_air_0 : decode cL_air 0 = .ok (.aload_n 3, 1) := by decide +kernel
theorem dL_air_1 : decode cL_air 1 = .ok (.iconst 0, 1) := by decide +kernel
theorem dL_air_2 : decode cL_air 2 = .ok (.aload_n 0, 1) := by decide +kernel
theorem dL_air_3 : decode cL_air 3 = .ok (.iload_n 1, 1) := by decide +kernel
theorem dL_air_4 : decode cL_air 4 = .ok (.iload_n 2, 1) := by decide +kernel
theorem dL_air_5 : decode cL_air 5 = .ok (.invokevirtual 15, 3) := by decide +kernel
theorem dL_air_8 : decode cL_air 8 = .ok (.i2l, 1) := by decide +kernel
theorem dL_air_9 : decode cL_air 9 = .ok (.lastore, 1) := by decide +kernel
theorem dL_air_10 : decode cL_air 10 = .ok (.goto 7, 3) := by decide +kernel
theorem dL_air_13 : decode cL_air 13 = .ok (.astore 4, 2) := by decide +kernel
theorem dL_air_15 : decode cL_air 15 = .ok (.iconst 1, 1) := by decide +kernel
theorem dL_air_16 : decode cL_air 16 = .ok (.ireturn, 1) := by decide +kernel
theorem dL_air_17 : decode cL_air 17 = .ok (.iconst 0, 1) := by decide +kernel
theorem dL_air_18 : decode cL_air 18 = .ok (.ireturn, 1) := by decide +kernel
theorem dL_value_0 : decode cL_value 0 = .ok (.aload 4, 2) := by decide +kernel
theorem dL_value_2 : decode cL_value 2 = .ok (.iconst 0, 1) := by decide +kernel
theorem dL_value_3 : decode cL_value 3 = .ok (.aload_n 0, 1) := by decide +kernel
theorem dL_value_4 : decode cL_value 4 = .ok (.iload_n 1, 1) := by decide +kernel
theorem dL_value_5 : decode cL_value 5 = .ok (.iload_n 2, 1) := by decide +kernel
theorem dL_value_6 : decode cL_value 6 = .ok (.iload_n 3, 1) := by decide +kernel
theorem dL_value_7 : decode cL_value 7 = .ok (.invokevirtual 21, 3) := by decide +kernel
theorem dL_value_10 : decode cL_value 10 = .ok (.i2l, 1) := by decide +kernel
theorem dL_value_11 : decode cL_value 11 = .ok (.lastore, 1) := by decide +kernel
theorem dL_value_12 : decode cL_value 12 = .ok (.goto 7, 3) := by decide +kernel
theorem dL_value_15 : decode cL_value 15 = .ok (.astore 5, 2) := by decide +kernel
theorem dL_value_17 : decode cL_value 17 = .ok (.iconst 1, 1) := by decide +kernel
theorem dL_value_18 : decode cL_value 18 = .ok (.ireturn, 1) := by decide +kernel
theorem dL_value_19 : decode cL_value 19 = .ok (.iconst 0, 1) := by decide +kernel
theorem dL_value_20 : decode cL_value 20 = .ok (.ireturn, 1) := by decide +kernel
theorem dL_law_0 : decode cL_law 0 = .ok (.new 8, 3) := by decide +kernel
theorem dL_law_3 : decode cL_law 3 = .ok (.dup, 1) := by decide +kernel
theorem dL_law_4 : decode cL_law 4 = .ok (.aload_n 0, 1) := by decide +kernel
theorem dL_law_5 : decode cL_law 5 = .ok (.iconst 0, 1) := by decide +kernel
theorem dL_law_6 : decode cL_law 6 = .ok (.invokestatic 25, 3) := by decide +kernel
theorem dL_law_9 : decode cL_law 9 = .ok (.i2l, 1) := by decide +kernel
theorem dL_law_10 : decode cL_law 10 = .ok (.aload_n 0, 1) := by decide +kernel
theorem dL_law_11 : decode cL_law 11 = .ok (.iconst 1, 1) := by decide +kernel
theorem dL_law_12 : decode cL_law 12 = .ok (.invokestatic 25, 3) := by decide +kernel
theorem dL_law_15 : decode cL_law 15 = .ok (.i2l, 1) := by decide +kernel
theorem dL_law_16 : decode cL_law 16 = .ok (.invokespecial 31, 3) := by decide +kernel
theorem dL_law_19 : decode cL_law 19 = .ok (.astore_n 1, 1) := by decide +kernel
theorem dL_law_20 : decode cL_law 20 = .ok (.new 34, 3) := by decide +kernel
theorem dL_law_23 : decode cL_law 23 = .ok (.dup, 1) := by decide +kernel
theorem dL_law_24 : decode cL_law 24 = .ok (.aload_n 0, 1) := by decide +kernel
theorem dL_law_25 : decode cL_law 25 = .ok (.iconst 0, 1) := by decide +kernel
theorem dL_law_26 : decode cL_law 26 = .ok (.invokestatic 25, 3) := by decide +kernel
theorem dL_law_29 : decode cL_law 29 = .ok (.i2l, 1) := by decide +kernel
theorem dL_law_30 : decode cL_law 30 = .ok (.aload_n 0, 1) := by decide +kernel
theorem dL_law_31 : decode cL_law 31 = .ok (.iconst 1, 1) := by decide +kernel
theorem dL_law_32 : decode cL_law 32 = .ok (.invokestatic 25, 3) := by decide +kernel
theorem dL_law_35 : decode cL_law 35 = .ok (.i2l, 1) := by decide +kernel
theorem dL_law_36 : decode cL_law 36 = .ok (.invokespecial 36, 3) := by decide +kernel
theorem dL_law_39 : decode cL_law 39 = .ok (.astore_n 2, 1) := by decide +kernel
theorem dL_law_40 : decode cL_law 40 = .ok (.iconst 1, 1) := by decide +kernel
theorem dL_law_41 : decode cL_law 41 = .ok (.newarray .long, 2) := by decide +kernel
theorem dL_law_43 : decode cL_law 43 = .ok (.astore_n 3, 1) := by decide +kernel
theorem dL_law_44 : decode cL_law 44 = .ok (.iconst 2, 1) := by decide +kernel
theorem dL_law_45 : decode cL_law 45 = .ok (.istore 4, 2) := by decide +kernel
theorem dL_law_47 : decode cL_law 47 = .ok (.iload 4, 2) := by decide +kernel
theorem dL_law_49 : decode cL_law 49 = .ok (.aload_n 0, 1) := by decide +kernel
theorem dL_law_50 : decode cL_law 50 = .ok (.arraylength, 1) := by decide +kernel
theorem dL_law_51 : decode cL_law 51 = .ok (.bipush 9, 2) := by decide +kernel
theorem dL_law_53 : decode cL_law 53 = .ok (.isub, 1) := by decide +kernel
theorem dL_law_54 : decode cL_law 54 = .ok (.if_icmp .gt 1492, 3) := by decide +kernel
theorem dL_law_57 : decode cL_law 57 = .ok (.aload_n 0, 1) := by decide +kernel
theorem dL_law_58 : decode cL_law 58 = .ok (.iload 4, 2) := by decide +kernel
theorem dL_law_60 : decode cL_law 60 = .ok (.iaload, 1) := by decide +kernel
theorem dL_law_61 : decode cL_law 61 = .ok (.bipush 31, 2) := by decide +kernel
theorem dL_law_63 : decode cL_law 63 = .ok (.iand, 1) := by decide +kernel
theorem dL_law_64 : decode cL_law 64 = .ok (.tableswitch 1476 0 27 #[128, 201, 226, 263, 300, 325, 480, 505, 561, 598, 635, 703, 740, 778, 827, 864, 933, 958, 995, 1032, 1101, 1150, 1187, 1267, 1304, 1365, 1414, 1451], 128) := by decide +kernel
theorem dL_law_192 : decode cL_law 192 = .ok (.aload_n 1, 1) := by decide +kernel
theorem dL_law_193 : decode cL_law 193 = .ok (.aload_n 0, 1) := by decide +kernel
theorem dL_law_194 : decode cL_law 194 = .ok (.iload 4, 2) := by decide +kernel
theorem dL_law_196 : decode cL_law 196 = .ok (.iconst 1, 1) := by decide +kernel
theorem dL_law_197 : decode cL_law 197 = .ok (.iadd, 1) := by decide +kernel
theorem dL_law_198 : decode cL_law 198 = .ok (.iaload, 1) := by decide +kernel
theorem dL_law_199 : decode cL_law 199 = .ok (.aload_n 0, 1) := by decide +kernel
theorem dL_law_200 : decode cL_law 200 = .ok (.iload 4, 2) := by decide +kernel
theorem dL_law_202 : decode cL_law 202 = .ok (.iconst 2, 1) := by decide +kernel
theorem dL_law_203 : decode cL_law 203 = .ok (.iadd, 1) := by decide +kernel
theorem dL_law_204 : decode cL_law 204 = .ok (.iaload, 1) := by decide +kernel
theorem dL_law_205 : decode cL_law 205 = .ok (.aload_n 0, 1) := by decide +kernel
theorem dL_law_206 : decode cL_law 206 = .ok (.iload 4, 2) := by decide +kernel
theorem dL_law_208 : decode cL_law 208 = .ok (.iconst 3, 1) := by decide +kernel
theorem dL_law_209 : decode cL_law 209 = .ok (.iadd, 1) := by decide +kernel
theorem dL_law_210 : decode cL_law 210 = .ok (.iaload, 1) := by decide +kernel
theorem dL_law_211 : decode cL_law 211 = .ok (.aload_n 0, 1) := by decide +kernel
theorem dL_law_212 : decode cL_law 212 = .ok (.iload 4, 2) := by decide +kernel
theorem dL_law_214 : decode cL_law 214 = .ok (.iconst 4, 1) := by decide +kernel
theorem dL_law_215 : decode cL_law 215 = .ok (.iadd, 1) := by decide +kernel
theorem dL_law_216 : decode cL_law 216 = .ok (.iaload, 1) := by decide +kernel
theorem dL_law_217 : decode cL_law 217 = .ok (.aload_n 0, 1) := by decide +kernel
theorem dL_law_218 : decode cL_law 218 = .ok (.iload 4, 2) := by decide +kernel
theorem dL_law_220 : decode cL_law 220 = .ok (.iconst 5, 1) := by decide +kernel
theorem dL_law_221 : decode cL_law 221 = .ok (.iadd, 1) := by decide +kernel
theorem dL_law_222 : decode cL_law 222 = .ok (.iaload, 1) := by decide +kernel
theorem dL_law_223 : decode cL_law 223 = .ok (.invokevirtual 37, 3) := by decide +kernel
theorem dL_law_226 : decode cL_law 226 = .ok (.aload_n 2, 1) := by decide +kernel
theorem dL_law_227 : decode cL_law 227 = .ok (.aload_n 0, 1) := by decide +kernel
theorem dL_law_228 : decode cL_law 228 = .ok (.iload 4, 2) := by decide +kernel
theorem dL_law_230 : decode cL_law 230 = .ok (.iconst 1, 1) := by decide +kernel
theorem dL_law_231 : decode cL_law 231 = .ok (.iadd, 1) := by decide +kernel
theorem dL_law_232 : decode cL_law 232 = .ok (.iaload, 1) := by decide +kernel
theorem dL_law_233 : decode cL_law 233 = .ok (.aload_n 0, 1) := by decide +kernel
theorem dL_law_234 : decode cL_law 234 = .ok (.iload 4, 2) := by decide +kernel
theorem dL_law_236 : decode cL_law 236 = .ok (.iconst 2, 1) := by decide +kernel
theorem dL_law_237 : decode cL_law 237 = .ok (.iadd, 1) := by decide +kernel
theorem dL_law_238 : decode cL_law 238 = .ok (.iaload, 1) := by decide +kernel
theorem dL_law_239 : decode cL_law 239 = .ok (.aload_n 0, 1) := by decide +kernel
theorem dL_law_240 : decode cL_law 240 = .ok (.iload 4, 2) := by decide +kernel
theorem dL_law_242 : decode cL_law 242 = .ok (.iconst 3, 1) := by decide +kernel
theorem dL_law_243 : decode cL_law 243 = .ok (.iadd, 1) := by decide +kernel
theorem dL_law_244 : decode cL_law 244 = .ok (.iaload, 1) := by decide +kernel
theorem dL_law_245 : decode cL_law 245 = .ok (.aload_n 0, 1) := by decide +kernel
theorem dL_law_246 : decode cL_law 246 = .ok (.iload 4, 2) := by decide +kernel
theorem dL_law_248 : decode cL_law 248 = .ok (.iconst 4, 1) := by decide +kernel
theorem dL_law_249 : decode cL_law 249 = .ok (.iadd, 1) := by decide +kernel
theorem dL_law_250 : decode cL_law 250 = .ok (.iaload, 1) := by decide +kernel
theorem dL_law_251 : decode cL_law 251 = .ok (.aload_n 0, 1) := by decide +kernel
theorem dL_law_252 : decode cL_law 252 = .ok (.iload 4, 2) := by decide +kernel
theorem dL_law_254 : decode cL_law 254 = .ok (.iconst 5, 1) := by decide +kernel
theorem dL_law_255 : decode cL_law 255 = .ok (.iadd, 1) := by decide +kernel
theorem dL_law_256 : decode cL_law 256 = .ok (.iaload, 1) := by decide +kernel
theorem dL_law_257 : decode cL_law 257 = .ok (.invokevirtual 41, 3) := by decide +kernel
theorem dL_law_260 : decode cL_law 260 = .ok (.if_icmp .eq 1280, 3) := by decide +kernel
theorem dL_law_263 : decode cL_law 263 = .ok (.iconst 0, 1) := by decide +kernel
theorem dL_law_264 : decode cL_law 264 = .ok (.ireturn, 1) := by decide +kernel
theorem dL_law_265 : decode cL_law 265 = .ok (.aload_n 1, 1) := by decide +kernel
theorem dL_law_266 : decode cL_law 266 = .ok (.aload_n 0, 1) := by decide +kernel
theorem dL_law_267 : decode cL_law 267 = .ok (.iload 4, 2) := by decide +kernel
theorem dL_law_269 : decode cL_law 269 = .ok (.iconst 1, 1) := by decide +kernel
theorem dL_law_270 : decode cL_law 270 = .ok (.iadd, 1) := by decide +kernel
theorem dL_law_271 : decode cL_law 271 = .ok (.iaload, 1) := by decide +kernel
theorem dL_law_272 : decode cL_law 272 = .ok (.invokevirtual 42, 3) := by decide +kernel
theorem dL_law_275 : decode cL_law 275 = .ok (.aload_n 2, 1) := by decide +kernel
theorem dL_law_276 : decode cL_law 276 = .ok (.aload_n 0, 1) := by decide +kernel
theorem dL_law_277 : decode cL_law 277 = .ok (.iload 4, 2) := by decide +kernel
theorem dL_law_279 : decode cL_law 279 = .ok (.iconst 1, 1) := by decide +kernel
theorem dL_law_280 : decode cL_law 280 = .ok (.iadd, 1) := by decide +kernel
theorem dL_law_281 : decode cL_law 281 = .ok (.iaload, 1) := by decide +kernel
theorem dL_law_282 : decode cL_law 282 = .ok (.invokevirtual 45, 3) := by decide +kernel
theorem dL_law_285 : decode cL_law 285 = .ok (.if_icmp .eq 1255, 3) := by decide +kernel
theorem dL_law_288 : decode cL_law 288 = .ok (.iconst 0, 1) := by decide +kernel
theorem dL_law_289 : decode cL_law 289 = .ok (.ireturn, 1) := by decide +kernel
theorem dL_law_290 : decode cL_law 290 = .ok (.aload_n 1, 1) := by decide +kernel
theorem dL_law_291 : decode cL_law 291 = .ok (.aload_n 0, 1) := by decide +kernel
theorem dL_law_292 : decode cL_law 292 = .ok (.iload 4, 2) := by decide +kernel
theorem dL_law_294 : decode cL_law 294 = .ok (.iconst 1, 1) := by decide +kernel
theorem dL_law_295 : decode cL_law 295 = .ok (.iadd, 1) := by decide +kernel
theorem dL_law_296 : decode cL_law 296 = .ok (.iaload, 1) := by decide +kernel
theorem dL_law_297 : decode cL_law 297 = .ok (.aload_n 0, 1) := by decide +kernel
theorem dL_law_298 : decode cL_law 298 = .ok (.iload 4, 2) := by decide +kernel
theorem dL_law_300 : decode cL_law 300 = .ok (.iconst 2, 1) := by decide +kernel
theorem dL_law_301 : decode cL_law 301 = .ok (.iadd, 1) := by decide +kernel
theorem dL_law_302 : decode cL_law 302 = .ok (.iaload, 1) := by decide +kernel
theorem dL_law_303 : decode cL_law 303 = .ok (.invokevirtual 46, 3) := by decide +kernel
theorem dL_law_306 : decode cL_law 306 = .ok (.aload_n 2, 1) := by decide +kernel
theorem dL_law_307 : decode cL_law 307 = .ok (.aload_n 0, 1) := by decide +kernel
theorem dL_law_308 : decode cL_law 308 = .ok (.iload 4, 2) := by decide +kernel
theorem dL_law_310 : decode cL_law 310 = .ok (.iconst 1, 1) := by decide +kernel
theorem dL_law_311 : decode cL_law 311 = .ok (.iadd, 1) := by decide +kernel
theorem dL_law_312 : decode cL_law 312 = .ok (.iaload, 1) := by decide +kernel
theorem dL_law_313 : decode cL_law 313 = .ok (.aload_n 0, 1) := by decide +kernel
theorem dL_law_314 : decode cL_law 314 = .ok (.iload 4, 2) := by decide +kernel
theorem dL_law_316 : decode cL_law 316 = .ok (.iconst 2, 1) := by decide +kernel
theorem dL_law_317 : decode cL_law 317 = .ok (.iadd, 1) := by decide +kernel
theorem dL_law_318 : decode cL_law 318 = .ok (.iaload, 1) := by decide +kernel
theorem dL_law_319 : decode cL_law 319 = .ok (.invokevirtual 50, 3) := by decide +kernel
theorem dL_law_322 : decode cL_law 322 = .ok (.if_icmp .eq 1218, 3) := by decide +kernel
theorem dL_law_325 : decode cL_law 325 = .ok (.iconst 0, 1) := by decide +kernel
theorem dL_law_326 : decode cL_law 326 = .ok (.ireturn, 1) := by decide +kernel
theorem dL_law_327 : decode cL_law 327 = .ok (.aload_n 1, 1) := by decide +kernel
theorem dL_law_328 : decode cL_law 328 = .ok (.aload_n 0, 1) := by decide +kernel
theorem dL_law_329 : decode cL_law 329 = .ok (.iload 4, 2) := by decide +kernel
theorem dL_law_331 : decode cL_law 331 = .ok (.iconst 1, 1) := by decide +kernel
theorem dL_law_332 : decode cL_law 332 = .ok (.iadd, 1) := by decide +kernel
theorem dL_law_333 : decode cL_law 333 = .ok (.iaload, 1) := by decide +kernel
theorem dL_law_334 : decode cL_law 334 = .ok (.aload_n 0, 1) := by decide +kernel
theorem dL_law_335 : decode cL_law 335 = .ok (.iload 4, 2) := by decide +kernel
theorem dL_law_337 : decode cL_law 337 = .ok (.iconst 2, 1) := by decide +kernel
theorem dL_law_338 : decode cL_law 338 = .ok (.iadd, 1) := by decide +kernel
theorem dL_law_339 : decode cL_law 339 = .ok (.iaload, 1) := by decide +kernel
theorem dL_law_340 : decode cL_law 340 = .ok (.invokevirtual 51, 3) := by decide +kernel
theorem dL_law_343 : decode cL_law 343 = .ok (.aload_n 2, 1) := by decide +kernel
theorem dL_law_344 : decode cL_law 344 = .ok (.aload_n 0, 1) := by decide +kernel
theorem dL_law_345 : decode cL_law 345 = .ok (.iload 4, 2) := by decide +kernel
theorem dL_law_347 : decode cL_law 347 = .ok (.iconst 1, 1) := by decide +kernel
theorem dL_law_348 : decode cL_law 348 = .ok (.iadd, 1) := by decide +kernel
theorem dL_law_349 : decode cL_law 349 = .ok (.iaload, 1) := by decide +kernel
theorem dL_law_350 : decode cL_law 350 = .ok (.aload_n 0, 1) := by decide +kernel
theorem dL_law_351 : decode cL_law 351 = .ok (.iload 4, 2) := by decide +kernel
theorem dL_law_353 : decode cL_law 353 = .ok (.iconst 2, 1) := by decide +kernel
theorem dL_law_354 : decode cL_law 354 = .ok (.iadd, 1) := by decide +kernel
theorem dL_law_355 : decode cL_law 355 = .ok (.iaload, 1) := by decide +kernel
theorem dL_law_356 : decode cL_law 356 = .ok (.invokevirtual 54, 3) := by decide +kernel
theorem dL_law_359 : decode cL_law 359 = .ok (.if_icmp .eq 1181, 3) := by decide +kernel
theorem dL_law_362 : decode cL_law 362 = .ok (.iconst 0, 1) := by decide +kernel
theorem dL_law_363 : decode cL_law 363 = .ok (.ireturn, 1) := by decide +kernel
theorem dL_law_364 : decode cL_law 364 = .ok (.aload_n 1, 1) := by decide +kernel
theorem dL_law_365 : decode cL_law 365 = .ok (.aload_n 0, 1) := by decide +kernel
theorem dL_law_366 : decode cL_law 366 = .ok (.iload 4, 2) := by decide +kernel
theorem dL_law_368 : decode cL_law 368 = .ok (.iconst 1, 1) := by decide +kernel
theorem dL_law_369 : decode cL_law 369 = .ok (.iadd, 1) := by decide +kernel
theorem dL_law_370 : decode cL_law 370 = .ok (.iaload, 1) := by decide +kernel
theorem dL_law_371 : decode cL_law 371 = .ok (.invokevirtual 55, 3) := by decide +kernel
theorem dL_law_374 : decode cL_law 374 = .ok (.aload_n 2, 1) := by decide +kernel
theorem dL_law_375 : decode cL_law 375 = .ok (.aload_n 0, 1) := by decide +kernel
theorem dL_law_376 : decode cL_law 376 = .ok (.iload 4, 2) := by decide +kernel
theorem dL_law_378 : decode cL_law 378 = .ok (.iconst 1, 1) := by decide +kernel
theorem dL_law_379 : decode cL_law 379 = .ok (.iadd, 1) := by decide +kernel
theorem dL_law_380 : decode cL_law 380 = .ok (.iaload, 1) := by decide +kernel
theorem dL_law_381 : decode cL_law 381 = .ok (.invokevirtual 59, 3) := by decide +kernel
theorem dL_law_384 : decode cL_law 384 = .ok (.if_icmp .eq 1156, 3) := by decide +kernel
theorem dL_law_387 : decode cL_law 387 = .ok (.iconst 0, 1) := by decide +kernel
theorem dL_law_388 : decode cL_law 388 = .ok (.ireturn, 1) := by decide +kernel
theorem dL_law_389 : decode cL_law 389 = .ok (.aload_n 1, 1) := by decide +kernel
theorem dL_law_390 : decode cL_law 390 = .ok (.aload_n 0, 1) := by decide +kernel
theorem dL_law_391 : decode cL_law 391 = .ok (.iload 4, 2) := by decide +kernel
theorem dL_law_393 : decode cL_law 393 = .ok (.iconst 1, 1) := by decide +kernel
theorem dL_law_394 : decode cL_law 394 = .ok (.iadd, 1) := by decide +kernel
theorem dL_law_395 : decode cL_law 395 = .ok (.iaload, 1) := by decide +kernel
theorem dL_law_396 : decode cL_law 396 = .ok (.aload_n 0, 1) := by decide +kernel
theorem dL_law_397 : decode cL_law 397 = .ok (.iload 4, 2) := by decide +kernel
theorem dL_law_399 : decode cL_law 399 = .ok (.iconst 2, 1) := by decide +kernel
theorem dL_law_400 : decode cL_law 400 = .ok (.iadd, 1) := by decide +kernel
theorem dL_law_401 : decode cL_law 401 = .ok (.iaload, 1) := by decide +kernel
theorem dL_law_402 : decode cL_law 402 = .ok (.i2l, 1) := by decide +kernel
theorem dL_law_403 : decode cL_law 403 = .ok (.bipush 32, 2) := by decide +kernel
theorem dL_law_405 : decode cL_law 405 = .ok (.lshl, 1) := by decide +kernel
theorem dL_law_406 : decode cL_law 406 = .ok (.aload_n 0, 1) := by decide +kernel
theorem dL_law_407 : decode cL_law 407 = .ok (.iload 4, 2) := by decide +kernel
theorem dL_law_409 : decode cL_law 409 = .ok (.iconst 3, 1) := by decide +kernel
theorem dL_law_410 : decode cL_law 410 = .ok (.iadd, 1) := by decide +kernel
theorem dL_law_411 : decode cL_law 411 = .ok (.iaload, 1) := by decide +kernel
theorem dL_law_412 : decode cL_law 412 = .ok (.i2l, 1) := by decide +kernel
theorem dL_law_413 : decode cL_law 413 = .ok (.ldc2_w 60, 3) := by decide +kernel
theorem dL_law_416 : decode cL_law 416 = .ok (.land, 1) := by decide +kernel
theorem dL_law_417 : decode cL_law 417 = .ok (.lor, 1) := by decide +kernel
theorem dL_law_418 : decode cL_law 418 = .ok (.aload_n 0, 1) := by decide +kernel
theorem dL_law_419 : decode cL_law 419 = .ok (.iload 4, 2) := by decide +kernel
theorem dL_law_421 : decode cL_law 421 = .ok (.iconst 4, 1) := by decide +kernel
theorem dL_law_422 : decode cL_law 422 = .ok (.iadd, 1) := by decide +kernel
theorem dL_law_423 : decode cL_law 423 = .ok (.iaload, 1) := by decide +kernel
theorem dL_law_424 : decode cL_law 424 = .ok (.aload_n 0, 1) := by decide +kernel
theorem dL_law_425 : decode cL_law 425 = .ok (.iload 4, 2) := by decide +kernel
theorem dL_law_427 : decode cL_law 427 = .ok (.iconst 5, 1) := by decide +kernel
theorem dL_law_428 : decode cL_law 428 = .ok (.iadd, 1) := by decide +kernel
theorem dL_law_429 : decode cL_law 429 = .ok (.iaload, 1) := by decide +kernel
theorem dL_law_430 : decode cL_law 430 = .ok (.aload_n 0, 1) := by decide +kernel
theorem dL_law_431 : decode cL_law 431 = .ok (.iload 4, 2) := by decide +kernel
theorem dL_law_433 : decode cL_law 433 = .ok (.bipush 6, 2) := by decide +kernel
theorem dL_law_435 : decode cL_law 435 = .ok (.iadd, 1) := by decide +kernel
theorem dL_law_436 : decode cL_law 436 = .ok (.iaload, 1) := by decide +kernel
theorem dL_law_437 : decode cL_law 437 = .ok (.aload_n 0, 1) := by decide +kernel
theorem dL_law_438 : decode cL_law 438 = .ok (.iload 4, 2) := by decide +kernel
theorem dL_law_440 : decode cL_law 440 = .ok (.bipush 7, 2) := by decide +kernel
theorem dL_law_442 : decode cL_law 442 = .ok (.iadd, 1) := by decide +kernel
theorem dL_law_443 : decode cL_law 443 = .ok (.iaload, 1) := by decide +kernel
theorem dL_law_444 : decode cL_law 444 = .ok (.i2l, 1) := by decide +kernel
theorem dL_law_445 : decode cL_law 445 = .ok (.bipush 32, 2) := by decide +kernel
theorem dL_law_447 : decode cL_law 447 = .ok (.lshl, 1) := by decide +kernel
theorem dL_law_448 : decode cL_law 448 = .ok (.aload_n 0, 1) := by decide +kernel
theorem dL_law_449 : decode cL_law 449 = .ok (.iload 4, 2) := by decide +kernel
theorem dL_law_451 : decode cL_law 451 = .ok (.bipush 8, 2) := by decide +kernel
theorem dL_law_453 : decode cL_law 453 = .ok (.iadd, 1) := by decide +kernel
theorem dL_law_454 : decode cL_law 454 = .ok (.iaload, 1) := by decide +kernel
theorem dL_law_455 : decode cL_law 455 = .ok (.i2l, 1) := by decide +kernel
theorem dL_law_456 : decode cL_law 456 = .ok (.ldc2_w 60, 3) := by decide +kernel
theorem dL_law_459 : decode cL_law 459 = .ok (.land, 1) := by decide +kernel
theorem dL_law_460 : decode cL_law 460 = .ok (.lor, 1) := by decide +kernel
theorem dL_law_461 : decode cL_law 461 = .ok (.invokevirtual 62, 3) := by decide +kernel
theorem dL_law_464 : decode cL_law 464 = .ok (.aload_n 2, 1) := by decide +kernel
theorem dL_law_465 : decode cL_law 465 = .ok (.aload_n 0, 1) := by decide +kernel
theorem dL_law_466 : decode cL_law 466 = .ok (.iload 4, 2) := by decide +kernel
theorem dL_law_468 : decode cL_law 468 = .ok (.iconst 1, 1) := by decide +kernel
theorem dL_law_469 : decode cL_law 469 = .ok (.iadd, 1) := by decide +kernel
theorem dL_law_470 : decode cL_law 470 = .ok (.iaload, 1) := by decide +kernel
theorem dL_law_471 : decode cL_law 471 = .ok (.aload_n 0, 1) := by decide +kernel
theorem dL_law_472 : decode cL_law 472 = .ok (.iload 4, 2) := by decide +kernel
theorem dL_law_474 : decode cL_law 474 = .ok (.iconst 2, 1) := by decide +kernel
theorem dL_law_475 : decode cL_law 475 = .ok (.iadd, 1) := by decide +kernel
theorem dL_law_476 : decode cL_law 476 = .ok (.iaload, 1) := by decide +kernel
theorem dL_law_477 : decode cL_law 477 = .ok (.i2l, 1) := by decide +kernel
theorem dL_law_478 : decode cL_law 478 = .ok (.bipush 32, 2) := by decide +kernel
theorem dL_law_480 : decode cL_law 480 = .ok (.lshl, 1) := by decide +kernel
theorem dL_law_481 : decode cL_law 481 = .ok (.aload_n 0, 1) := by decide +kernel
theorem dL_law_482 : decode cL_law 482 = .ok (.iload 4, 2) := by decide +kernel
theorem dL_law_484 : decode cL_law 484 = .ok (.iconst 3, 1) := by decide +kernel
theorem dL_law_485 : decode cL_law 485 = .ok (.iadd, 1) := by decide +kernel
theorem dL_law_486 : decode cL_law 486 = .ok (.iaload, 1) := by decide +kernel
theorem dL_law_487 : decode cL_law 487 = .ok (.i2l, 1) := by decide +kernel
theorem dL_law_488 : decode cL_law 488 = .ok (.ldc2_w 60, 3) := by decide +kernel
theorem dL_law_491 : decode cL_law 491 = .ok (.land, 1) := by decide +kernel
theorem dL_law_492 : decode cL_law 492 = .ok (.lor, 1) := by decide +kernel
theorem dL_law_493 : decode cL_law 493 = .ok (.aload_n 0, 1) := by decide +kernel
theorem dL_law_494 : decode cL_law 494 = .ok (.iload 4, 2) := by decide +kernel
theorem dL_law_496 : decode cL_law 496 = .ok (.iconst 4, 1) := by decide +kernel
theorem dL_law_497 : decode cL_law 497 = .ok (.iadd, 1) := by decide +kernel
theorem dL_law_498 : decode cL_law 498 = .ok (.iaload, 1) := by decide +kernel
theorem dL_law_499 : decode cL_law 499 = .ok (.aload_n 0, 1) := by decide +kernel
theorem dL_law_500 : decode cL_law 500 = .ok (.iload 4, 2) := by decide +kernel
theorem dL_law_502 : decode cL_law 502 = .ok (.iconst 5, 1) := by decide +kernel
theorem dL_law_503 : decode cL_law 503 = .ok (.iadd, 1) := by decide +kernel
theorem dL_law_504 : decode cL_law 504 = .ok (.iaload, 1) := by decide +kernel
theorem dL_law_505 : decode cL_law 505 = .ok (.aload_n 0, 1) := by decide +kernel
theorem dL_law_506 : decode cL_law 506 = .ok (.iload 4, 2) := by decide +kernel
theorem dL_law_508 : decode cL_law 508 = .ok (.bipush 6, 2) := by decide +kernel
theorem dL_law_510 : decode cL_law 510 = .ok (.iadd, 1) := by decide +kernel
theorem dL_law_511 : decode cL_law 511 = .ok (.iaload, 1) := by decide +kernel
theorem dL_law_512 : decode cL_law 512 = .ok (.aload_n 0, 1) := by decide +kernel
theorem dL_law_513 : decode cL_law 513 = .ok (.iload 4, 2) := by decide +kernel
theorem dL_law_515 : decode cL_law 515 = .ok (.bipush 7, 2) := by decide +kernel
theorem dL_law_517 : decode cL_law 517 = .ok (.iadd, 1) := by decide +kernel
theorem dL_law_518 : decode cL_law 518 = .ok (.iaload, 1) := by decide +kernel
theorem dL_law_519 : decode cL_law 519 = .ok (.i2l, 1) := by decide +kernel
theorem dL_law_520 : decode cL_law 520 = .ok (.bipush 32, 2) := by decide +kernel
theorem dL_law_522 : decode cL_law 522 = .ok (.lshl, 1) := by decide +kernel
theorem dL_law_523 : decode cL_law 523 = .ok (.aload_n 0, 1) := by decide +kernel
theorem dL_law_524 : decode cL_law 524 = .ok (.iload 4, 2) := by decide +kernel
theorem dL_law_526 : decode cL_law 526 = .ok (.bipush 8, 2) := by decide +kernel
theorem dL_law_528 : decode cL_law 528 = .ok (.iadd, 1) := by decide +kernel
theorem dL_law_529 : decode cL_law 529 = .ok (.iaload, 1) := by decide +kernel
theorem dL_law_530 : decode cL_law 530 = .ok (.i2l, 1) := by decide +kernel
theorem dL_law_531 : decode cL_law 531 = .ok (.ldc2_w 60, 3) := by decide +kernel
theorem dL_law_534 : decode cL_law 534 = .ok (.land, 1) := by decide +kernel
theorem dL_law_535 : decode cL_law 535 = .ok (.lor, 1) := by decide +kernel
theorem dL_law_536 : decode cL_law 536 = .ok (.invokevirtual 66, 3) := by decide +kernel
theorem dL_law_539 : decode cL_law 539 = .ok (.if_icmp .eq 1001, 3) := by decide +kernel
theorem dL_law_542 : decode cL_law 542 = .ok (.iconst 0, 1) := by decide +kernel
theorem dL_law_543 : decode cL_law 543 = .ok (.ireturn, 1) := by decide +kernel
theorem dL_law_544 : decode cL_law 544 = .ok (.aload_n 1, 1) := by decide +kernel
theorem dL_law_545 : decode cL_law 545 = .ok (.aload_n 0, 1) := by decide +kernel
theorem dL_law_546 : decode cL_law 546 = .ok (.iload 4, 2) := by decide +kernel
theorem dL_law_548 : decode cL_law 548 = .ok (.iconst 1, 1) := by decide +kernel
theorem dL_law_549 : decode cL_law 549 = .ok (.iadd, 1) := by decide +kernel
theorem dL_law_550 : decode cL_law 550 = .ok (.iaload, 1) := by decide +kernel
theorem dL_law_551 : decode cL_law 551 = .ok (.invokevirtual 67, 3) := by decide +kernel
theorem dL_law_554 : decode cL_law 554 = .ok (.aload_n 2, 1) := by decide +kernel
theorem dL_law_555 : decode cL_law 555 = .ok (.aload_n 0, 1) := by decide +kernel
theorem dL_law_556 : decode cL_law 556 = .ok (.iload 4, 2) := by decide +kernel
theorem dL_law_558 : decode cL_law 558 = .ok (.iconst 1, 1) := by decide +kernel
theorem dL_law_559 : decode cL_law 559 = .ok (.iadd, 1) := by decide +kernel
theorem dL_law_560 : decode cL_law 560 = .ok (.iaload, 1) := by decide +kernel
theorem dL_law_561 : decode cL_law 561 = .ok (.invokevirtual 70, 3) := by decide +kernel
theorem dL_law_564 : decode cL_law 564 = .ok (.if_icmp .eq 976, 3) := by decide +kernel
theorem dL_law_567 : decode cL_law 567 = .ok (.iconst 0, 1) := by decide +kernel
theorem dL_law_568 : decode cL_law 568 = .ok (.ireturn, 1) := by decide +kernel
theorem dL_law_569 : decode cL_law 569 = .ok (.aload_n 1, 1) := by decide +kernel
theorem dL_law_570 : decode cL_law 570 = .ok (.aload_n 0, 1) := by decide +kernel
theorem dL_law_571 : decode cL_law 571 = .ok (.iload 4, 2) := by decide +kernel
theorem dL_law_573 : decode cL_law 573 = .ok (.iconst 1, 1) := by decide +kernel
theorem dL_law_574 : decode cL_law 574 = .ok (.iadd, 1) := by decide +kernel
theorem dL_law_575 : decode cL_law 575 = .ok (.iaload, 1) := by decide +kernel
theorem dL_law_576 : decode cL_law 576 = .ok (.aload_n 3, 1) := by decide +kernel
theorem dL_law_577 : decode cL_law 577 = .ok (.invokestatic 71, 3) := by decide +kernel
theorem dL_law_580 : decode cL_law 580 = .ok (.istore 5, 2) := by decide +kernel
theorem dL_law_582 : decode cL_law 582 = .ok (.aload_n 2, 1) := by decide +kernel
theorem dL_law_583 : decode cL_law 583 = .ok (.aload_n 0, 1) := by decide +kernel
theorem dL_law_584 : decode cL_law 584 = .ok (.iload 4, 2) := by decide +kernel
theorem dL_law_586 : decode cL_law 586 = .ok (.iconst 1, 1) := by decide +kernel
theorem dL_law_587 : decode cL_law 587 = .ok (.iadd, 1) := by decide +kernel
theorem dL_law_588 : decode cL_law 588 = .ok (.iaload, 1) := by decide +kernel
theorem dL_law_589 : decode cL_law 589 = .ok (.invokevirtual 74, 3) := by decide +kernel
theorem dL_law_592 : decode cL_law 592 = .ok (.istore 6, 2) := by decide +kernel
theorem dL_law_594 : decode cL_law 594 = .ok (.aload_n 2, 1) := by decide +kernel
theorem dL_law_595 : decode cL_law 595 = .ok (.invokevirtual 75, 3) := by decide +kernel
theorem dL_law_598 : decode cL_law 598 = .ok (.iload 5, 2) := by decide +kernel
theorem dL_law_600 : decode cL_law 600 = .ok (.if_icmp .eq 5, 3) := by decide +kernel
theorem dL_law_603 : decode cL_law 603 = .ok (.iconst 0, 1) := by decide +kernel
theorem dL_law_604 : decode cL_law 604 = .ok (.ireturn, 1) := by decide +kernel
theorem dL_law_605 : decode cL_law 605 = .ok (.iload 5, 2) := by decide +kernel
theorem dL_law_607 : decode cL_law 607 = .ok (.ifCond .ne 15, 3) := by decide +kernel
theorem dL_law_610 : decode cL_law 610 = .ok (.aload_n 3, 1) := by decide +kernel
theorem dL_law_611 : decode cL_law 611 = .ok (.iconst 0, 1) := by decide +kernel
theorem dL_law_612 : decode cL_law 612 = .ok (.laload, 1) := by decide +kernel
theorem dL_law_613 : decode cL_law 613 = .ok (.iload 6, 2) := by decide +kernel
theorem dL_law_615 : decode cL_law 615 = .ok (.i2l, 1) := by decide +kernel
theorem dL_law_616 : decode cL_law 616 = .ok (.lcmp, 1) := by decide +kernel
theorem dL_law_617 : decode cL_law 617 = .ok (.ifCond .eq 5, 3) := by decide +kernel
theorem dL_law_620 : decode cL_law 620 = .ok (.iconst 0, 1) := by decide +kernel
theorem dL_law_621 : decode cL_law 621 = .ok (.ireturn, 1) := by decide +kernel
theorem dL_law_622 : decode cL_law 622 = .ok (.goto 918, 3) := by decide +kernel
theorem dL_law_625 : decode cL_law 625 = .ok (.aload_n 1, 1) := by decide +kernel
theorem dL_law_626 : decode cL_law 626 = .ok (.aload_n 0, 1) := by decide +kernel
theorem dL_law_627 : decode cL_law 627 = .ok (.iload 4, 2) := by decide +kernel
theorem dL_law_629 : decode cL_law 629 = .ok (.iconst 1, 1) := by decide +kernel
theorem dL_law_630 : decode cL_law 630 = .ok (.iadd, 1) := by decide +kernel
theorem dL_law_631 : decode cL_law 631 = .ok (.iaload, 1) := by decide +kernel
theorem dL_law_632 : decode cL_law 632 = .ok (.aload_n 0, 1) := by decide +kernel
theorem dL_law_633 : decode cL_law 633 = .ok (.iload 4, 2) := by decide +kernel
theorem dL_law_635 : decode cL_law 635 = .ok (.iconst 2, 1) := by decide +kernel
theorem dL_law_636 : decode cL_law 636 = .ok (.iadd, 1) := by decide +kernel
theorem dL_law_637 : decode cL_law 637 = .ok (.iaload, 1) := by decide +kernel
theorem dL_law_638 : decode cL_law 638 = .ok (.invokevirtual 79, 3) := by decide +kernel
theorem dL_law_641 : decode cL_law 641 = .ok (.aload_n 2, 1) := by decide +kernel
theorem dL_law_642 : decode cL_law 642 = .ok (.aload_n 0, 1) := by decide +kernel
theorem dL_law_643 : decode cL_law 643 = .ok (.iload 4, 2) := by decide +kernel
theorem dL_law_645 : decode cL_law 645 = .ok (.iconst 1, 1) := by decide +kernel
theorem dL_law_646 : decode cL_law 646 = .ok (.iadd, 1) := by decide +kernel
theorem dL_law_647 : decode cL_law 647 = .ok (.iaload, 1) := by decide +kernel
theorem dL_law_648 : decode cL_law 648 = .ok (.aload_n 0, 1) := by decide +kernel
theorem dL_law_649 : decode cL_law 649 = .ok (.iload 4, 2) := by decide +kernel
theorem dL_law_651 : decode cL_law 651 = .ok (.iconst 2, 1) := by decide +kernel
theorem dL_law_652 : decode cL_law 652 = .ok (.iadd, 1) := by decide +kernel
theorem dL_law_653 : decode cL_law 653 = .ok (.iaload, 1) := by decide +kernel
theorem dL_law_654 : decode cL_law 654 = .ok (.invokevirtual 82, 3) := by decide +kernel
theorem dL_law_657 : decode cL_law 657 = .ok (.if_icmp .eq 883, 3) := by decide +kernel
theorem dL_law_660 : decode cL_law 660 = .ok (.iconst 0, 1) := by decide +kernel
theorem dL_law_661 : decode cL_law 661 = .ok (.ireturn, 1) := by decide +kernel
theorem dL_law_662 : decode cL_law 662 = .ok (.aload_n 1, 1) := by decide +kernel
theorem dL_law_663 : decode cL_law 663 = .ok (.aload_n 0, 1) := by decide +kernel
theorem dL_law_664 : decode cL_law 664 = .ok (.iload 4, 2) := by decide +kernel
theorem dL_law_666 : decode cL_law 666 = .ok (.iconst 1, 1) := by decide +kernel
theorem dL_law_667 : decode cL_law 667 = .ok (.iadd, 1) := by decide +kernel
theorem dL_law_668 : decode cL_law 668 = .ok (.iaload, 1) := by decide +kernel
theorem dL_law_669 : decode cL_law 669 = .ok (.aload_n 0, 1) := by decide +kernel
theorem dL_law_670 : decode cL_law 670 = .ok (.iload 4, 2) := by decide +kernel
theorem dL_law_672 : decode cL_law 672 = .ok (.iconst 2, 1) := by decide +kernel
theorem dL_law_673 : decode cL_law 673 = .ok (.iadd, 1) := by decide +kernel
theorem dL_law_674 : decode cL_law 674 = .ok (.iaload, 1) := by decide +kernel
theorem dL_law_675 : decode cL_law 675 = .ok (.invokevirtual 83, 3) := by decide +kernel
theorem dL_law_678 : decode cL_law 678 = .ok (.aload_n 2, 1) := by decide +kernel
theorem dL_law_679 : decode cL_law 679 = .ok (.aload_n 0, 1) := by decide +kernel
theorem dL_law_680 : decode cL_law 680 = .ok (.iload 4, 2) := by decide +kernel
theorem dL_law_682 : decode cL_law 682 = .ok (.iconst 1, 1) := by decide +kernel
theorem dL_law_683 : decode cL_law 683 = .ok (.iadd, 1) := by decide +kernel
theorem dL_law_684 : decode cL_law 684 = .ok (.iaload, 1) := by decide +kernel
theorem dL_law_685 : decode cL_law 685 = .ok (.aload_n 0, 1) := by decide +kernel
theorem dL_law_686 : decode cL_law 686 = .ok (.iload 4, 2) := by decide +kernel
theorem dL_law_688 : decode cL_law 688 = .ok (.iconst 2, 1) := by decide +kernel
theorem dL_law_689 : decode cL_law 689 = .ok (.iadd, 1) := by decide +kernel
theorem dL_law_690 : decode cL_law 690 = .ok (.iaload, 1) := by decide +kernel
theorem dL_law_691 : decode cL_law 691 = .ok (.invokevirtual 86, 3) := by decide +kernel
theorem dL_law_694 : decode cL_law 694 = .ok (.if_icmp .eq 846, 3) := by decide +kernel
theorem dL_law_697 : decode cL_law 697 = .ok (.iconst 0, 1) := by decide +kernel
theorem dL_law_698 : decode cL_law 698 = .ok (.ireturn, 1) := by decide +kernel
theorem dL_law_699 : decode cL_law 699 = .ok (.aload_n 1, 1) := by decide +kernel
theorem dL_law_700 : decode cL_law 700 = .ok (.aload_n 0, 1) := by decide +kernel
theorem dL_law_701 : decode cL_law 701 = .ok (.iload 4, 2) := by decide +kernel
theorem dL_law_703 : decode cL_law 703 = .ok (.iconst 1, 1) := by decide +kernel
theorem dL_law_704 : decode cL_law 704 = .ok (.iadd, 1) := by decide +kernel
theorem dL_law_705 : decode cL_law 705 = .ok (.iaload, 1) := by decide +kernel
theorem dL_law_706 : decode cL_law 706 = .ok (.aload_n 0, 1) := by decide +kernel
theorem dL_law_707 : decode cL_law 707 = .ok (.iload 4, 2) := by decide +kernel
theorem dL_law_709 : decode cL_law 709 = .ok (.iconst 2, 1) := by decide +kernel
theorem dL_law_710 : decode cL_law 710 = .ok (.iadd, 1) := by decide +kernel
theorem dL_law_711 : decode cL_law 711 = .ok (.iaload, 1) := by decide +kernel
theorem dL_law_712 : decode cL_law 712 = .ok (.aload_n 3, 1) := by decide +kernel
theorem dL_law_713 : decode cL_law 713 = .ok (.invokestatic 87, 3) := by decide +kernel
theorem dL_law_716 : decode cL_law 716 = .ok (.istore 5, 2) := by decide +kernel
theorem dL_law_718 : decode cL_law 718 = .ok (.aload_n 2, 1) := by decide +kernel
theorem dL_law_719 : decode cL_law 719 = .ok (.aload_n 0, 1) := by decide +kernel
theorem dL_law_720 : decode cL_law 720 = .ok (.iload 4, 2) := by decide +kernel
theorem dL_law_722 : decode cL_law 722 = .ok (.iconst 1, 1) := by decide +kernel
theorem dL_law_723 : decode cL_law 723 = .ok (.iadd, 1) := by decide +kernel
theorem dL_law_724 : decode cL_law 724 = .ok (.iaload, 1) := by decide +kernel
theorem dL_law_725 : decode cL_law 725 = .ok (.aload_n 0, 1) := by decide +kernel
theorem dL_law_726 : decode cL_law 726 = .ok (.iload 4, 2) := by decide +kernel
theorem dL_law_728 : decode cL_law 728 = .ok (.iconst 2, 1) := by decide +kernel
theorem dL_law_729 : decode cL_law 729 = .ok (.iadd, 1) := by decide +kernel
theorem dL_law_730 : decode cL_law 730 = .ok (.iaload, 1) := by decide +kernel
theorem dL_law_731 : decode cL_law 731 = .ok (.invokevirtual 90, 3) := by decide +kernel
theorem dL_law_734 : decode cL_law 734 = .ok (.istore 6, 2) := by decide +kernel
theorem dL_law_736 : decode cL_law 736 = .ok (.aload_n 2, 1) := by decide +kernel
theorem dL_law_737 : decode cL_law 737 = .ok (.invokevirtual 75, 3) := by decide +kernel
theorem dL_law_740 : decode cL_law 740 = .ok (.iload 5, 2) := by decide +kernel
theorem dL_law_742 : decode cL_law 742 = .ok (.if_icmp .eq 5, 3) := by decide +kernel
theorem dL_law_745 : decode cL_law 745 = .ok (.iconst 0, 1) := by decide +kernel
theorem dL_law_746 : decode cL_law 746 = .ok (.ireturn, 1) := by decide +kernel
theorem dL_law_747 : decode cL_law 747 = .ok (.iload 5, 2) := by decide +kernel
theorem dL_law_749 : decode cL_law 749 = .ok (.ifCond .ne 15, 3) := by decide +kernel
theorem dL_law_752 : decode cL_law 752 = .ok (.aload_n 3, 1) := by decide +kernel
theorem dL_law_753 : decode cL_law 753 = .ok (.iconst 0, 1) := by decide +kernel
theorem dL_law_754 : decode cL_law 754 = .ok (.laload, 1) := by decide +kernel
theorem dL_law_755 : decode cL_law 755 = .ok (.iload 6, 2) := by decide +kernel
theorem dL_law_757 : decode cL_law 757 = .ok (.i2l, 1) := by decide +kernel
theorem dL_law_758 : decode cL_law 758 = .ok (.lcmp, 1) := by decide +kernel
theorem dL_law_759 : decode cL_law 759 = .ok (.ifCond .eq 5, 3) := by decide +kernel
theorem dL_law_762 : decode cL_law 762 = .ok (.iconst 0, 1) := by decide +kernel
theorem dL_law_763 : decode cL_law 763 = .ok (.ireturn, 1) := by decide +kernel
theorem dL_law_764 : decode cL_law 764 = .ok (.goto 776, 3) := by decide +kernel
theorem dL_law_767 : decode cL_law 767 = .ok (.aload_n 1, 1) := by decide +kernel
theorem dL_law_768 : decode cL_law 768 = .ok (.aload_n 0, 1) := by decide +kernel
theorem dL_law_769 : decode cL_law 769 = .ok (.iload 4, 2) := by decide +kernel
theorem dL_law_771 : decode cL_law 771 = .ok (.iconst 1, 1) := by decide +kernel
theorem dL_law_772 : decode cL_law 772 = .ok (.iadd, 1) := by decide +kernel
theorem dL_law_773 : decode cL_law 773 = .ok (.iaload, 1) := by decide +kernel
theorem dL_law_774 : decode cL_law 774 = .ok (.aload_n 0, 1) := by decide +kernel
theorem dL_law_775 : decode cL_law 775 = .ok (.iload 4, 2) := by decide +kernel
theorem dL_law_777 : decode cL_law 777 = .ok (.iconst 2, 1) := by decide +kernel
theorem dL_law_778 : decode cL_law 778 = .ok (.iadd, 1) := by decide +kernel
theorem dL_law_779 : decode cL_law 779 = .ok (.iaload, 1) := by decide +kernel
theorem dL_law_780 : decode cL_law 780 = .ok (.invokevirtual 91, 3) := by decide +kernel
theorem dL_law_783 : decode cL_law 783 = .ok (.aload_n 2, 1) := by decide +kernel
theorem dL_law_784 : decode cL_law 784 = .ok (.aload_n 0, 1) := by decide +kernel
theorem dL_law_785 : decode cL_law 785 = .ok (.iload 4, 2) := by decide +kernel
theorem dL_law_787 : decode cL_law 787 = .ok (.iconst 1, 1) := by decide +kernel
theorem dL_law_788 : decode cL_law 788 = .ok (.iadd, 1) := by decide +kernel
theorem dL_law_789 : decode cL_law 789 = .ok (.iaload, 1) := by decide +kernel
theorem dL_law_790 : decode cL_law 790 = .ok (.aload_n 0, 1) := by decide +kernel
theorem dL_law_791 : decode cL_law 791 = .ok (.iload 4, 2) := by decide +kernel
theorem dL_law_793 : decode cL_law 793 = .ok (.iconst 2, 1) := by decide +kernel
theorem dL_law_794 : decode cL_law 794 = .ok (.iadd, 1) := by decide +kernel
theorem dL_law_795 : decode cL_law 795 = .ok (.iaload, 1) := by decide +kernel
theorem dL_law_796 : decode cL_law 796 = .ok (.invokevirtual 94, 3) := by decide +kernel
theorem dL_law_799 : decode cL_law 799 = .ok (.if_icmp .eq 741, 3) := by decide +kernel
theorem dL_law_802 : decode cL_law 802 = .ok (.iconst 0, 1) := by decide +kernel
theorem dL_law_803 : decode cL_law 803 = .ok (.ireturn, 1) := by decide +kernel
theorem dL_law_804 : decode cL_law 804 = .ok (.aload_n 1, 1) := by decide +kernel
theorem dL_law_805 : decode cL_law 805 = .ok (.aload_n 0, 1) := by decide +kernel
theorem dL_law_806 : decode cL_law 806 = .ok (.iload 4, 2) := by decide +kernel
theorem dL_law_808 : decode cL_law 808 = .ok (.iconst 1, 1) := by decide +kernel
theorem dL_law_809 : decode cL_law 809 = .ok (.iadd, 1) := by decide +kernel
theorem dL_law_810 : decode cL_law 810 = .ok (.iaload, 1) := by decide +kernel
theorem dL_law_811 : decode cL_law 811 = .ok (.aload_n 0, 1) := by decide +kernel
theorem dL_law_812 : decode cL_law 812 = .ok (.iload 4, 2) := by decide +kernel
theorem dL_law_814 : decode cL_law 814 = .ok (.iconst 2, 1) := by decide +kernel
theorem dL_law_815 : decode cL_law 815 = .ok (.iadd, 1) := by decide +kernel
theorem dL_law_816 : decode cL_law 816 = .ok (.iaload, 1) := by decide +kernel
theorem dL_law_817 : decode cL_law 817 = .ok (.invokevirtual 95, 3) := by decide +kernel
theorem dL_law_820 : decode cL_law 820 = .ok (.aload_n 2, 1) := by decide +kernel
theorem dL_law_821 : decode cL_law 821 = .ok (.aload_n 0, 1) := by decide +kernel
theorem dL_law_822 : decode cL_law 822 = .ok (.iload 4, 2) := by decide +kernel
theorem dL_law_824 : decode cL_law 824 = .ok (.iconst 1, 1) := by decide +kernel
theorem dL_law_825 : decode cL_law 825 = .ok (.iadd, 1) := by decide +kernel
theorem dL_law_826 : decode cL_law 826 = .ok (.iaload, 1) := by decide +kernel
theorem dL_law_827 : decode cL_law 827 = .ok (.aload_n 0, 1) := by decide +kernel
theorem dL_law_828 : decode cL_law 828 = .ok (.iload 4, 2) := by decide +kernel
theorem dL_law_830 : decode cL_law 830 = .ok (.iconst 2, 1) := by decide +kernel
theorem dL_law_831 : decode cL_law 831 = .ok (.iadd, 1) := by decide +kernel
theorem dL_law_832 : decode cL_law 832 = .ok (.iaload, 1) := by decide +kernel
theorem dL_law_833 : decode cL_law 833 = .ok (.invokevirtual 99, 3) := by decide +kernel
theorem dL_law_836 : decode cL_law 836 = .ok (.lcmp, 1) := by decide +kernel
theorem dL_law_837 : decode cL_law 837 = .ok (.ifCond .eq 703, 3) := by decide +kernel
theorem dL_law_840 : decode cL_law 840 = .ok (.iconst 0, 1) := by decide +kernel
theorem dL_law_841 : decode cL_law 841 = .ok (.ireturn, 1) := by decide +kernel
theorem dL_law_842 : decode cL_law 842 = .ok (.aload_n 1, 1) := by decide +kernel
theorem dL_law_843 : decode cL_law 843 = .ok (.aload_n 0, 1) := by decide +kernel
theorem dL_law_844 : decode cL_law 844 = .ok (.iload 4, 2) := by decide +kernel
theorem dL_law_846 : decode cL_law 846 = .ok (.iconst 1, 1) := by decide +kernel
theorem dL_law_847 : decode cL_law 847 = .ok (.iadd, 1) := by decide +kernel
theorem dL_law_848 : decode cL_law 848 = .ok (.iaload, 1) := by decide +kernel
theorem dL_law_849 : decode cL_law 849 = .ok (.aload_n 0, 1) := by decide +kernel
theorem dL_law_850 : decode cL_law 850 = .ok (.iload 4, 2) := by decide +kernel
theorem dL_law_852 : decode cL_law 852 = .ok (.iconst 2, 1) := by decide +kernel
theorem dL_law_853 : decode cL_law 853 = .ok (.iadd, 1) := by decide +kernel
theorem dL_law_854 : decode cL_law 854 = .ok (.iaload, 1) := by decide +kernel
theorem dL_law_855 : decode cL_law 855 = .ok (.aload_n 0, 1) := by decide +kernel
theorem dL_law_856 : decode cL_law 856 = .ok (.iload 4, 2) := by decide +kernel
theorem dL_law_858 : decode cL_law 858 = .ok (.iconst 3, 1) := by decide +kernel
theorem dL_law_859 : decode cL_law 859 = .ok (.iadd, 1) := by decide +kernel
theorem dL_law_860 : decode cL_law 860 = .ok (.iaload, 1) := by decide +kernel
theorem dL_law_861 : decode cL_law 861 = .ok (.invokevirtual 100, 3) := by decide +kernel
theorem dL_law_864 : decode cL_law 864 = .ok (.aload_n 2, 1) := by decide +kernel
theorem dL_law_865 : decode cL_law 865 = .ok (.aload_n 0, 1) := by decide +kernel
theorem dL_law_866 : decode cL_law 866 = .ok (.iload 4, 2) := by decide +kernel
theorem dL_law_868 : decode cL_law 868 = .ok (.iconst 1, 1) := by decide +kernel
theorem dL_law_869 : decode cL_law 869 = .ok (.iadd, 1) := by decide +kernel
theorem dL_law_870 : decode cL_law 870 = .ok (.iaload, 1) := by decide +kernel
theorem dL_law_871 : decode cL_law 871 = .ok (.aload_n 0, 1) := by decide +kernel
theorem dL_law_872 : decode cL_law 872 = .ok (.iload 4, 2) := by decide +kernel
theorem dL_law_874 : decode cL_law 874 = .ok (.iconst 2, 1) := by decide +kernel
theorem dL_law_875 : decode cL_law 875 = .ok (.iadd, 1) := by decide +kernel
theorem dL_law_876 : decode cL_law 876 = .ok (.iaload, 1) := by decide +kernel
theorem dL_law_877 : decode cL_law 877 = .ok (.aload_n 0, 1) := by decide +kernel
theorem dL_law_878 : decode cL_law 878 = .ok (.iload 4, 2) := by decide +kernel
theorem dL_law_880 : decode cL_law 880 = .ok (.iconst 3, 1) := by decide +kernel
theorem dL_law_881 : decode cL_law 881 = .ok (.iadd, 1) := by decide +kernel
theorem dL_law_882 : decode cL_law 882 = .ok (.iaload, 1) := by decide +kernel
theorem dL_law_883 : decode cL_law 883 = .ok (.invokevirtual 103, 3) := by decide +kernel
theorem dL_law_886 : decode cL_law 886 = .ok (.if_icmp .eq 654, 3) := by decide +kernel
theorem dL_law_889 : decode cL_law 889 = .ok (.iconst 0, 1) := by decide +kernel
theorem dL_law_890 : decode cL_law 890 = .ok (.ireturn, 1) := by decide +kernel
theorem dL_law_891 : decode cL_law 891 = .ok (.aload_n 1, 1) := by decide +kernel
theorem dL_law_892 : decode cL_law 892 = .ok (.aload_n 0, 1) := by decide +kernel
theorem dL_law_893 : decode cL_law 893 = .ok (.iload 4, 2) := by decide +kernel
theorem dL_law_895 : decode cL_law 895 = .ok (.iconst 1, 1) := by decide +kernel
theorem dL_law_896 : decode cL_law 896 = .ok (.iadd, 1) := by decide +kernel
theorem dL_law_897 : decode cL_law 897 = .ok (.iaload, 1) := by decide +kernel
theorem dL_law_898 : decode cL_law 898 = .ok (.aload_n 0, 1) := by decide +kernel
theorem dL_law_899 : decode cL_law 899 = .ok (.iload 4, 2) := by decide +kernel
theorem dL_law_901 : decode cL_law 901 = .ok (.iconst 2, 1) := by decide +kernel
theorem dL_law_902 : decode cL_law 902 = .ok (.iadd, 1) := by decide +kernel
theorem dL_law_903 : decode cL_law 903 = .ok (.iaload, 1) := by decide +kernel
theorem dL_law_904 : decode cL_law 904 = .ok (.invokevirtual 104, 3) := by decide +kernel
theorem dL_law_907 : decode cL_law 907 = .ok (.aload_n 2, 1) := by decide +kernel
theorem dL_law_908 : decode cL_law 908 = .ok (.aload_n 0, 1) := by decide +kernel
theorem dL_law_909 : decode cL_law 909 = .ok (.iload 4, 2) := by decide +kernel
theorem dL_law_911 : decode cL_law 911 = .ok (.iconst 1, 1) := by decide +kernel
theorem dL_law_912 : decode cL_law 912 = .ok (.iadd, 1) := by decide +kernel
theorem dL_law_913 : decode cL_law 913 = .ok (.iaload, 1) := by decide +kernel
theorem dL_law_914 : decode cL_law 914 = .ok (.aload_n 0, 1) := by decide +kernel
theorem dL_law_915 : decode cL_law 915 = .ok (.iload 4, 2) := by decide +kernel
theorem dL_law_917 : decode cL_law 917 = .ok (.iconst 2, 1) := by decide +kernel
theorem dL_law_918 : decode cL_law 918 = .ok (.iadd, 1) := by decide +kernel
theorem dL_law_919 : decode cL_law 919 = .ok (.iaload, 1) := by decide +kernel
theorem dL_law_920 : decode cL_law 920 = .ok (.invokevirtual 107, 3) := by decide +kernel
theorem dL_law_923 : decode cL_law 923 = .ok (.if_icmp .eq 617, 3) := by decide +kernel
theorem dL_law_926 : decode cL_law 926 = .ok (.iconst 0, 1) := by decide +kernel
theorem dL_law_927 : decode cL_law 927 = .ok (.ireturn, 1) := by decide +kernel
theorem dL_law_928 : decode cL_law 928 = .ok (.aload_n 1, 1) := by decide +kernel
theorem dL_law_929 : decode cL_law 929 = .ok (.aload_n 0, 1) := by decide +kernel
theorem dL_law_930 : decode cL_law 930 = .ok (.iload 4, 2) := by decide +kernel
theorem dL_law_932 : decode cL_law 932 = .ok (.iconst 1, 1) := by decide +kernel
theorem dL_law_933 : decode cL_law 933 = .ok (.iadd, 1) := by decide +kernel
theorem dL_law_934 : decode cL_law 934 = .ok (.iaload, 1) := by decide +kernel
theorem dL_law_935 : decode cL_law 935 = .ok (.aload_n 0, 1) := by decide +kernel
theorem dL_law_936 : decode cL_law 936 = .ok (.iload 4, 2) := by decide +kernel
theorem dL_law_938 : decode cL_law 938 = .ok (.iconst 2, 1) := by decide +kernel
theorem dL_law_939 : decode cL_law 939 = .ok (.iadd, 1) := by decide +kernel
theorem dL_law_940 : decode cL_law 940 = .ok (.iaload, 1) := by decide +kernel
theorem dL_law_941 : decode cL_law 941 = .ok (.i2l, 1) := by decide +kernel
theorem dL_law_942 : decode cL_law 942 = .ok (.bipush 32, 2) := by decide +kernel
theorem dL_law_944 : decode cL_law 944 = .ok (.lshl, 1) := by decide +kernel
theorem dL_law_945 : decode cL_law 945 = .ok (.aload_n 0, 1) := by decide +kernel
theorem dL_law_946 : decode cL_law 946 = .ok (.iload 4, 2) := by decide +kernel
theorem dL_law_948 : decode cL_law 948 = .ok (.iconst 3, 1) := by decide +kernel
theorem dL_law_949 : decode cL_law 949 = .ok (.iadd, 1) := by decide +kernel
theorem dL_law_950 : decode cL_law 950 = .ok (.iaload, 1) := by decide +kernel
theorem dL_law_951 : decode cL_law 951 = .ok (.i2l, 1) := by decide +kernel
theorem dL_law_952 : decode cL_law 952 = .ok (.ldc2_w 60, 3) := by decide +kernel
theorem dL_law_955 : decode cL_law 955 = .ok (.land, 1) := by decide +kernel
theorem dL_law_956 : decode cL_law 956 = .ok (.lor, 1) := by decide +kernel
theorem dL_law_957 : decode cL_law 957 = .ok (.invokevirtual 108, 3) := by decide +kernel
theorem dL_law_960 : decode cL_law 960 = .ok (.aload_n 2, 1) := by decide +kernel
theorem dL_law_961 : decode cL_law 961 = .ok (.aload_n 0, 1) := by decide +kernel
theorem dL_law_962 : decode cL_law 962 = .ok (.iload 4, 2) := by decide +kernel
theorem dL_law_964 : decode cL_law 964 = .ok (.iconst 1, 1) := by decide +kernel
theorem dL_law_965 : decode cL_law 965 = .ok (.iadd, 1) := by decide +kernel
theorem dL_law_966 : decode cL_law 966 = .ok (.iaload, 1) := by decide +kernel
theorem dL_law_967 : decode cL_law 967 = .ok (.aload_n 0, 1) := by decide +kernel
theorem dL_law_968 : decode cL_law 968 = .ok (.iload 4, 2) := by decide +kernel
theorem dL_law_970 : decode cL_law 970 = .ok (.iconst 2, 1) := by decide +kernel
theorem dL_law_971 : decode cL_law 971 = .ok (.iadd, 1) := by decide +kernel
theorem dL_law_972 : decode cL_law 972 = .ok (.iaload, 1) := by decide +kernel
theorem dL_law_973 : decode cL_law 973 = .ok (.i2l, 1) := by decide +kernel
theorem dL_law_974 : decode cL_law 974 = .ok (.bipush 32, 2) := by decide +kernel
theorem dL_law_976 : decode cL_law 976 = .ok (.lshl, 1) := by decide +kernel
theorem dL_law_977 : decode cL_law 977 = .ok (.aload_n 0, 1) := by decide +kernel
theorem dL_law_978 : decode cL_law 978 = .ok (.iload 4, 2) := by decide +kernel
theorem dL_law_980 : decode cL_law 980 = .ok (.iconst 3, 1) := by decide +kernel
theorem dL_law_981 : decode cL_law 981 = .ok (.iadd, 1) := by decide +kernel
theorem dL_law_982 : decode cL_law 982 = .ok (.iaload, 1) := by decide +kernel
theorem dL_law_983 : decode cL_law 983 = .ok (.i2l, 1) := by decide +kernel
theorem dL_law_984 : decode cL_law 984 = .ok (.ldc2_w 60, 3) := by decide +kernel
theorem dL_law_987 : decode cL_law 987 = .ok (.land, 1) := by decide +kernel
theorem dL_law_988 : decode cL_law 988 = .ok (.lor, 1) := by decide +kernel
theorem dL_law_989 : decode cL_law 989 = .ok (.invokevirtual 112, 3) := by decide +kernel
theorem dL_law_992 : decode cL_law 992 = .ok (.if_icmp .eq 548, 3) := by decide +kernel
theorem dL_law_995 : decode cL_law 995 = .ok (.iconst 0, 1) := by decide +kernel
theorem dL_law_996 : decode cL_law 996 = .ok (.ireturn, 1) := by decide +kernel
theorem dL_law_997 : decode cL_law 997 = .ok (.aload_n 1, 1) := by decide +kernel
theorem dL_law_998 : decode cL_law 998 = .ok (.aload_n 0, 1) := by decide +kernel
theorem dL_law_999 : decode cL_law 999 = .ok (.iload 4, 2) := by decide +kernel
theorem dL_law_1001 : decode cL_law 1001 = .ok (.iconst 1, 1) := by decide +kernel
theorem dL_law_1002 : decode cL_law 1002 = .ok (.iadd, 1) := by decide +kernel
theorem dL_law_1003 : decode cL_law 1003 = .ok (.iaload, 1) := by decide +kernel
theorem dL_law_1004 : decode cL_law 1004 = .ok (.invokevirtual 113, 3) := by decide +kernel
theorem dL_law_1007 : decode cL_law 1007 = .ok (.aload_n 2, 1) := by decide +kernel
theorem dL_law_1008 : decode cL_law 1008 = .ok (.aload_n 0, 1) := by decide +kernel
theorem dL_law_1009 : decode cL_law 1009 = .ok (.iload 4, 2) := by decide +kernel
theorem dL_law_1011 : decode cL_law 1011 = .ok (.iconst 1, 1) := by decide +kernel
theorem dL_law_1012 : decode cL_law 1012 = .ok (.iadd, 1) := by decide +kernel
theorem dL_law_1013 : decode cL_law 1013 = .ok (.iaload, 1) := by decide +kernel
theorem dL_law_1014 : decode cL_law 1014 = .ok (.invokevirtual 116, 3) := by decide +kernel
theorem dL_law_1017 : decode cL_law 1017 = .ok (.if_icmp .eq 523, 3) := by decide +kernel
theorem dL_law_1020 : decode cL_law 1020 = .ok (.iconst 0, 1) := by decide +kernel
theorem dL_law_1021 : decode cL_law 1021 = .ok (.ireturn, 1) := by decide +kernel
theorem dL_law_1022 : decode cL_law 1022 = .ok (.aload_n 1, 1) := by decide +kernel
theorem dL_law_1023 : decode cL_law 1023 = .ok (.aload_n 0, 1) := by decide +kernel
theorem dL_law_1024 : decode cL_law 1024 = .ok (.iload 4, 2) := by decide +kernel
theorem dL_law_1026 : decode cL_law 1026 = .ok (.iconst 1, 1) := by decide +kernel
theorem dL_law_1027 : decode cL_law 1027 = .ok (.iadd, 1) := by decide +kernel
theorem dL_law_1028 : decode cL_law 1028 = .ok (.iaload, 1) := by decide +kernel
theorem dL_law_1029 : decode cL_law 1029 = .ok (.aload_n 0, 1) := by decide +kernel
theorem dL_law_1030 : decode cL_law 1030 = .ok (.iload 4, 2) := by decide +kernel
theorem dL_law_1032 : decode cL_law 1032 = .ok (.iconst 2, 1) := by decide +kernel
theorem dL_law_1033 : decode cL_law 1033 = .ok (.iadd, 1) := by decide +kernel
theorem dL_law_1034 : decode cL_law 1034 = .ok (.iaload, 1) := by decide +kernel
theorem dL_law_1035 : decode cL_law 1035 = .ok (.invokevirtual 117, 3) := by decide +kernel
theorem dL_law_1038 : decode cL_law 1038 = .ok (.aload_n 2, 1) := by decide +kernel
theorem dL_law_1039 : decode cL_law 1039 = .ok (.aload_n 0, 1) := by decide +kernel
theorem dL_law_1040 : decode cL_law 1040 = .ok (.iload 4, 2) := by decide +kernel
theorem dL_law_1042 : decode cL_law 1042 = .ok (.iconst 1, 1) := by decide +kernel
theorem dL_law_1043 : decode cL_law 1043 = .ok (.iadd, 1) := by decide +kernel
theorem dL_law_1044 : decode cL_law 1044 = .ok (.iaload, 1) := by decide +kernel
theorem dL_law_1045 : decode cL_law 1045 = .ok (.aload_n 0, 1) := by decide +kernel
theorem dL_law_1046 : decode cL_law 1046 = .ok (.iload 4, 2) := by decide +kernel
theorem dL_law_1048 : decode cL_law 1048 = .ok (.iconst 2, 1) := by decide +kernel
theorem dL_law_1049 : decode cL_law 1049 = .ok (.iadd, 1) := by decide +kernel
theorem dL_law_1050 : decode cL_law 1050 = .ok (.iaload, 1) := by decide +kernel
theorem dL_law_1051 : decode cL_law 1051 = .ok (.invokevirtual 120, 3) := by decide +kernel
theorem dL_law_1054 : decode cL_law 1054 = .ok (.if_icmp .eq 486, 3) := by decide +kernel
theorem dL_law_1057 : decode cL_law 1057 = .ok (.iconst 0, 1) := by decide +kernel
theorem dL_law_1058 : decode cL_law 1058 = .ok (.ireturn, 1) := by decide +kernel
theorem dL_law_1059 : decode cL_law 1059 = .ok (.aload_n 1, 1) := by decide +kernel
theorem dL_law_1060 : decode cL_law 1060 = .ok (.aload_n 0, 1) := by decide +kernel
theorem dL_law_1061 : decode cL_law 1061 = .ok (.iload 4, 2) := by decide +kernel
theorem dL_law_1063 : decode cL_law 1063 = .ok (.iconst 1, 1) := by decide +kernel
theorem dL_law_1064 : decode cL_law 1064 = .ok (.iadd, 1) := by decide +kernel
theorem dL_law_1065 : decode cL_law 1065 = .ok (.iaload, 1) := by decide +kernel
theorem dL_law_1066 : decode cL_law 1066 = .ok (.aload_n 0, 1) := by decide +kernel
theorem dL_law_1067 : decode cL_law 1067 = .ok (.iload 4, 2) := by decide +kernel
theorem dL_law_1069 : decode cL_law 1069 = .ok (.iconst 2, 1) := by decide +kernel
theorem dL_law_1070 : decode cL_law 1070 = .ok (.iadd, 1) := by decide +kernel
theorem dL_law_1071 : decode cL_law 1071 = .ok (.iaload, 1) := by decide +kernel
theorem dL_law_1072 : decode cL_law 1072 = .ok (.invokevirtual 121, 3) := by decide +kernel
theorem dL_law_1075 : decode cL_law 1075 = .ok (.aload_n 2, 1) := by decide +kernel
theorem dL_law_1076 : decode cL_law 1076 = .ok (.aload_n 0, 1) := by decide +kernel
theorem dL_law_1077 : decode cL_law 1077 = .ok (.iload 4, 2) := by decide +kernel
theorem dL_law_1079 : decode cL_law 1079 = .ok (.iconst 1, 1) := by decide +kernel
theorem dL_law_1080 : decode cL_law 1080 = .ok (.iadd, 1) := by decide +kernel
theorem dL_law_1081 : decode cL_law 1081 = .ok (.iaload, 1) := by decide +kernel
theorem dL_law_1082 : decode cL_law 1082 = .ok (.aload_n 0, 1) := by decide +kernel
theorem dL_law_1083 : decode cL_law 1083 = .ok (.iload 4, 2) := by decide +kernel
theorem dL_law_1085 : decode cL_law 1085 = .ok (.iconst 2, 1) := by decide +kernel
theorem dL_law_1086 : decode cL_law 1086 = .ok (.iadd, 1) := by decide +kernel
theorem dL_law_1087 : decode cL_law 1087 = .ok (.iaload, 1) := by decide +kernel
theorem dL_law_1088 : decode cL_law 1088 = .ok (.invokevirtual 124, 3) := by decide +kernel
theorem dL_law_1091 : decode cL_law 1091 = .ok (.if_icmp .eq 449, 3) := by decide +kernel
theorem dL_law_1094 : decode cL_law 1094 = .ok (.iconst 0, 1) := by decide +kernel
theorem dL_law_1095 : decode cL_law 1095 = .ok (.ireturn, 1) := by decide +kernel
theorem dL_law_1096 : decode cL_law 1096 = .ok (.aload_n 1, 1) := by decide +kernel
theorem dL_law_1097 : decode cL_law 1097 = .ok (.aload_n 0, 1) := by decide +kernel
theorem dL_law_1098 : decode cL_law 1098 = .ok (.iload 4, 2) := by decide +kernel
theorem dL_law_1100 : decode cL_law 1100 = .ok (.iconst 1, 1) := by decide +kernel
theorem dL_law_1101 : decode cL_law 1101 = .ok (.iadd, 1) := by decide +kernel
theorem dL_law_1102 : decode cL_law 1102 = .ok (.iaload, 1) := by decide +kernel
theorem dL_law_1103 : decode cL_law 1103 = .ok (.aload_n 0, 1) := by decide +kernel
theorem dL_law_1104 : decode cL_law 1104 = .ok (.iload 4, 2) := by decide +kernel
theorem dL_law_1106 : decode cL_law 1106 = .ok (.iconst 2, 1) := by decide +kernel
theorem dL_law_1107 : decode cL_law 1107 = .ok (.iadd, 1) := by decide +kernel
theorem dL_law_1108 : decode cL_law 1108 = .ok (.iaload, 1) := by decide +kernel
theorem dL_law_1109 : decode cL_law 1109 = .ok (.i2l, 1) := by decide +kernel
theorem dL_law_1110 : decode cL_law 1110 = .ok (.bipush 32, 2) := by decide +kernel
theorem dL_law_1112 : decode cL_law 1112 = .ok (.lshl, 1) := by decide +kernel
theorem dL_law_1113 : decode cL_law 1113 = .ok (.aload_n 0, 1) := by decide +kernel
theorem dL_law_1114 : decode cL_law 1114 = .ok (.iload 4, 2) := by decide +kernel
theorem dL_law_1116 : decode cL_law 1116 = .ok (.iconst 3, 1) := by decide +kernel
theorem dL_law_1117 : decode cL_law 1117 = .ok (.iadd, 1) := by decide +kernel
theorem dL_law_1118 : decode cL_law 1118 = .ok (.iaload, 1) := by decide +kernel
theorem dL_law_1119 : decode cL_law 1119 = .ok (.i2l, 1) := by decide +kernel
theorem dL_law_1120 : decode cL_law 1120 = .ok (.ldc2_w 60, 3) := by decide +kernel
theorem dL_law_1123 : decode cL_law 1123 = .ok (.land, 1) := by decide +kernel
theorem dL_law_1124 : decode cL_law 1124 = .ok (.lor, 1) := by decide +kernel
theorem dL_law_1125 : decode cL_law 1125 = .ok (.invokevirtual 125, 3) := by decide +kernel
theorem dL_law_1128 : decode cL_law 1128 = .ok (.aload_n 2, 1) := by decide +kernel
theorem dL_law_1129 : decode cL_law 1129 = .ok (.aload_n 0, 1) := by decide +kernel
theorem dL_law_1130 : decode cL_law 1130 = .ok (.iload 4, 2) := by decide +kernel
theorem dL_law_1132 : decode cL_law 1132 = .ok (.iconst 1, 1) := by decide +kernel
theorem dL_law_1133 : decode cL_law 1133 = .ok (.iadd, 1) := by decide +kernel
theorem dL_law_1134 : decode cL_law 1134 = .ok (.iaload, 1) := by decide +kernel
theorem dL_law_1135 : decode cL_law 1135 = .ok (.aload_n 0, 1) := by decide +kernel
theorem dL_law_1136 : decode cL_law 1136 = .ok (.iload 4, 2) := by decide +kernel
theorem dL_law_1138 : decode cL_law 1138 = .ok (.iconst 2, 1) := by decide +kernel
theorem dL_law_1139 : decode cL_law 1139 = .ok (.iadd, 1) := by decide +kernel
theorem dL_law_1140 : decode cL_law 1140 = .ok (.iaload, 1) := by decide +kernel
theorem dL_law_1141 : decode cL_law 1141 = .ok (.i2l, 1) := by decide +kernel
theorem dL_law_1142 : decode cL_law 1142 = .ok (.bipush 32, 2) := by decide +kernel
theorem dL_law_1144 : decode cL_law 1144 = .ok (.lshl, 1) := by decide +kernel
theorem dL_law_1145 : decode cL_law 1145 = .ok (.aload_n 0, 1) := by decide +kernel
theorem dL_law_1146 : decode cL_law 1146 = .ok (.iload 4, 2) := by decide +kernel
theorem dL_law_1148 : decode cL_law 1148 = .ok (.iconst 3, 1) := by decide +kernel
theorem dL_law_1149 : decode cL_law 1149 = .ok (.iadd, 1) := by decide +kernel
theorem dL_law_1150 : decode cL_law 1150 = .ok (.iaload, 1) := by decide +kernel
theorem dL_law_1151 : decode cL_law 1151 = .ok (.i2l, 1) := by decide +kernel
theorem dL_law_1152 : decode cL_law 1152 = .ok (.ldc2_w 60, 3) := by decide +kernel
theorem dL_law_1155 : decode cL_law 1155 = .ok (.land, 1) := by decide +kernel
theorem dL_law_1156 : decode cL_law 1156 = .ok (.lor, 1) := by decide +kernel
theorem dL_law_1157 : decode cL_law 1157 = .ok (.invokevirtual 128, 3) := by decide +kernel
theorem dL_law_1160 : decode cL_law 1160 = .ok (.if_icmp .eq 380, 3) := by decide +kernel
theorem dL_law_1163 : decode cL_law 1163 = .ok (.iconst 0, 1) := by decide +kernel
theorem dL_law_1164 : decode cL_law 1164 = .ok (.ireturn, 1) := by decide +kernel
theorem dL_law_1165 : decode cL_law 1165 = .ok (.aload_n 1, 1) := by decide +kernel
theorem dL_law_1166 : decode cL_law 1166 = .ok (.aload_n 0, 1) := by decide +kernel
theorem dL_law_1167 : decode cL_law 1167 = .ok (.iload 4, 2) := by decide +kernel
theorem dL_law_1169 : decode cL_law 1169 = .ok (.iconst 1, 1) := by decide +kernel
theorem dL_law_1170 : decode cL_law 1170 = .ok (.iadd, 1) := by decide +kernel
theorem dL_law_1171 : decode cL_law 1171 = .ok (.iaload, 1) := by decide +kernel
theorem dL_law_1172 : decode cL_law 1172 = .ok (.aload_n 0, 1) := by decide +kernel
theorem dL_law_1173 : decode cL_law 1173 = .ok (.iload 4, 2) := by decide +kernel
theorem dL_law_1175 : decode cL_law 1175 = .ok (.iconst 2, 1) := by decide +kernel
theorem dL_law_1176 : decode cL_law 1176 = .ok (.iadd, 1) := by decide +kernel
theorem dL_law_1177 : decode cL_law 1177 = .ok (.iaload, 1) := by decide +kernel
theorem dL_law_1178 : decode cL_law 1178 = .ok (.aload_n 0, 1) := by decide +kernel
theorem dL_law_1179 : decode cL_law 1179 = .ok (.iload 4, 2) := by decide +kernel
theorem dL_law_1181 : decode cL_law 1181 = .ok (.iconst 3, 1) := by decide +kernel
theorem dL_law_1182 : decode cL_law 1182 = .ok (.iadd, 1) := by decide +kernel
theorem dL_law_1183 : decode cL_law 1183 = .ok (.iaload, 1) := by decide +kernel
theorem dL_law_1184 : decode cL_law 1184 = .ok (.invokevirtual 129, 3) := by decide +kernel
theorem dL_law_1187 : decode cL_law 1187 = .ok (.aload_n 2, 1) := by decide +kernel
theorem dL_law_1188 : decode cL_law 1188 = .ok (.aload_n 0, 1) := by decide +kernel
theorem dL_law_1189 : decode cL_law 1189 = .ok (.iload 4, 2) := by decide +kernel
theorem dL_law_1191 : decode cL_law 1191 = .ok (.iconst 1, 1) := by decide +kernel
theorem dL_law_1192 : decode cL_law 1192 = .ok (.iadd, 1) := by decide +kernel
theorem dL_law_1193 : decode cL_law 1193 = .ok (.iaload, 1) := by decide +kernel
theorem dL_law_1194 : decode cL_law 1194 = .ok (.aload_n 0, 1) := by decide +kernel
theorem dL_law_1195 : decode cL_law 1195 = .ok (.iload 4, 2) := by decide +kernel
theorem dL_law_1197 : decode cL_law 1197 = .ok (.iconst 2, 1) := by decide +kernel
theorem dL_law_1198 : decode cL_law 1198 = .ok (.iadd, 1) := by decide +kernel
theorem dL_law_1199 : decode cL_law 1199 = .ok (.iaload, 1) := by decide +kernel
theorem dL_law_1200 : decode cL_law 1200 = .ok (.aload_n 0, 1) := by decide +kernel
theorem dL_law_1201 : decode cL_law 1201 = .ok (.iload 4, 2) := by decide +kernel
theorem dL_law_1203 : decode cL_law 1203 = .ok (.iconst 3, 1) := by decide +kernel
theorem dL_law_1204 : decode cL_law 1204 = .ok (.iadd, 1) := by decide +kernel
theorem dL_law_1205 : decode cL_law 1205 = .ok (.iaload, 1) := by decide +kernel
theorem dL_law_1206 : decode cL_law 1206 = .ok (.invokevirtual 132, 3) := by decide +kernel
theorem dL_law_1209 : decode cL_law 1209 = .ok (.if_icmp .eq 331, 3) := by decide +kernel
theorem dL_law_1212 : decode cL_law 1212 = .ok (.iconst 0, 1) := by decide +kernel
theorem dL_law_1213 : decode cL_law 1213 = .ok (.ireturn, 1) := by decide +kernel
theorem dL_law_1214 : decode cL_law 1214 = .ok (.aload_n 1, 1) := by decide +kernel
theorem dL_law_1215 : decode cL_law 1215 = .ok (.aload_n 0, 1) := by decide +kernel
theorem dL_law_1216 : decode cL_law 1216 = .ok (.iload 4, 2) := by decide +kernel
theorem dL_law_1218 : decode cL_law 1218 = .ok (.iconst 1, 1) := by decide +kernel
theorem dL_law_1219 : decode cL_law 1219 = .ok (.iadd, 1) := by decide +kernel
theorem dL_law_1220 : decode cL_law 1220 = .ok (.iaload, 1) := by decide +kernel
theorem dL_law_1221 : decode cL_law 1221 = .ok (.aload_n 0, 1) := by decide +kernel
theorem dL_law_1222 : decode cL_law 1222 = .ok (.iload 4, 2) := by decide +kernel
theorem dL_law_1224 : decode cL_law 1224 = .ok (.iconst 2, 1) := by decide +kernel
theorem dL_law_1225 : decode cL_law 1225 = .ok (.iadd, 1) := by decide +kernel
theorem dL_law_1226 : decode cL_law 1226 = .ok (.iaload, 1) := by decide +kernel
theorem dL_law_1227 : decode cL_law 1227 = .ok (.invokevirtual 133, 3) := by decide +kernel
theorem dL_law_1230 : decode cL_law 1230 = .ok (.aload_n 2, 1) := by decide +kernel
theorem dL_law_1231 : decode cL_law 1231 = .ok (.aload_n 0, 1) := by decide +kernel
theorem dL_law_1232 : decode cL_law 1232 = .ok (.iload 4, 2) := by decide +kernel
theorem dL_law_1234 : decode cL_law 1234 = .ok (.iconst 1, 1) := by decide +kernel
theorem dL_law_1235 : decode cL_law 1235 = .ok (.iadd, 1) := by decide +kernel
theorem dL_law_1236 : decode cL_law 1236 = .ok (.iaload, 1) := by decide +kernel
theorem dL_law_1237 : decode cL_law 1237 = .ok (.aload_n 0, 1) := by decide +kernel
theorem dL_law_1238 : decode cL_law 1238 = .ok (.iload 4, 2) := by decide +kernel
theorem dL_law_1240 : decode cL_law 1240 = .ok (.iconst 2, 1) := by decide +kernel
theorem dL_law_1241 : decode cL_law 1241 = .ok (.iadd, 1) := by decide +kernel
theorem dL_law_1242 : decode cL_law 1242 = .ok (.iaload, 1) := by decide +kernel
theorem dL_law_1243 : decode cL_law 1243 = .ok (.invokevirtual 136, 3) := by decide +kernel
theorem dL_law_1246 : decode cL_law 1246 = .ok (.if_icmp .eq 294, 3) := by decide +kernel
theorem dL_law_1249 : decode cL_law 1249 = .ok (.iconst 0, 1) := by decide +kernel
theorem dL_law_1250 : decode cL_law 1250 = .ok (.ireturn, 1) := by decide +kernel
theorem dL_law_1251 : decode cL_law 1251 = .ok (.aload_n 1, 1) := by decide +kernel
theorem dL_law_1252 : decode cL_law 1252 = .ok (.aload_n 0, 1) := by decide +kernel
theorem dL_law_1253 : decode cL_law 1253 = .ok (.iload 4, 2) := by decide +kernel
theorem dL_law_1255 : decode cL_law 1255 = .ok (.iconst 1, 1) := by decide +kernel
theorem dL_law_1256 : decode cL_law 1256 = .ok (.iadd, 1) := by decide +kernel
theorem dL_law_1257 : decode cL_law 1257 = .ok (.iaload, 1) := by decide +kernel
theorem dL_law_1258 : decode cL_law 1258 = .ok (.aload_n 0, 1) := by decide +kernel
theorem dL_law_1259 : decode cL_law 1259 = .ok (.iload 4, 2) := by decide +kernel
theorem dL_law_1261 : decode cL_law 1261 = .ok (.iconst 2, 1) := by decide +kernel
theorem dL_law_1262 : decode cL_law 1262 = .ok (.iadd, 1) := by decide +kernel
theorem dL_law_1263 : decode cL_law 1263 = .ok (.iaload, 1) := by decide +kernel
theorem dL_law_1264 : decode cL_law 1264 = .ok (.aload_n 0, 1) := by decide +kernel
theorem dL_law_1265 : decode cL_law 1265 = .ok (.iload 4, 2) := by decide +kernel
theorem dL_law_1267 : decode cL_law 1267 = .ok (.iconst 3, 1) := by decide +kernel
theorem dL_law_1268 : decode cL_law 1268 = .ok (.iadd, 1) := by decide +kernel
theorem dL_law_1269 : decode cL_law 1269 = .ok (.iaload, 1) := by decide +kernel
theorem dL_law_1270 : decode cL_law 1270 = .ok (.aload_n 3, 1) := by decide +kernel
theorem dL_law_1271 : decode cL_law 1271 = .ok (.invokestatic 137, 3) := by decide +kernel
theorem dL_law_1274 : decode cL_law 1274 = .ok (.istore 5, 2) := by decide +kernel
theorem dL_law_1276 : decode cL_law 1276 = .ok (.aload_n 2, 1) := by decide +kernel
theorem dL_law_1277 : decode cL_law 1277 = .ok (.aload_n 0, 1) := by decide +kernel
theorem dL_law_1278 : decode cL_law 1278 = .ok (.iload 4, 2) := by decide +kernel
theorem dL_law_1280 : decode cL_law 1280 = .ok (.iconst 1, 1) := by decide +kernel
theorem dL_law_1281 : decode cL_law 1281 = .ok (.iadd, 1) := by decide +kernel
theorem dL_law_1282 : decode cL_law 1282 = .ok (.iaload, 1) := by decide +kernel
theorem dL_law_1283 : decode cL_law 1283 = .ok (.aload_n 0, 1) := by decide +kernel
theorem dL_law_1284 : decode cL_law 1284 = .ok (.iload 4, 2) := by decide +kernel
theorem dL_law_1286 : decode cL_law 1286 = .ok (.iconst 2, 1) := by decide +kernel
theorem dL_law_1287 : decode cL_law 1287 = .ok (.iadd, 1) := by decide +kernel
theorem dL_law_1288 : decode cL_law 1288 = .ok (.iaload, 1) := by decide +kernel
theorem dL_law_1289 : decode cL_law 1289 = .ok (.aload_n 0, 1) := by decide +kernel
theorem dL_law_1290 : decode cL_law 1290 = .ok (.iload 4, 2) := by decide +kernel
theorem dL_law_1292 : decode cL_law 1292 = .ok (.iconst 3, 1) := by decide +kernel
theorem dL_law_1293 : decode cL_law 1293 = .ok (.iadd, 1) := by decide +kernel
theorem dL_law_1294 : decode cL_law 1294 = .ok (.iaload, 1) := by decide +kernel
theorem dL_law_1295 : decode cL_law 1295 = .ok (.invokevirtual 140, 3) := by decide +kernel
theorem dL_law_1298 : decode cL_law 1298 = .ok (.istore 6, 2) := by decide +kernel
theorem dL_law_1300 : decode cL_law 1300 = .ok (.aload_n 2, 1) := by decide +kernel
theorem dL_law_1301 : decode cL_law 1301 = .ok (.invokevirtual 75, 3) := by decide +kernel
theorem dL_law_1304 : decode cL_law 1304 = .ok (.iload 5, 2) := by decide +kernel
theorem dL_law_1306 : decode cL_law 1306 = .ok (.if_icmp .eq 5, 3) := by decide +kernel
theorem dL_law_1309 : decode cL_law 1309 = .ok (.iconst 0, 1) := by decide +kernel
theorem dL_law_1310 : decode cL_law 1310 = .ok (.ireturn, 1) := by decide +kernel
theorem dL_law_1311 : decode cL_law 1311 = .ok (.iload 5, 2) := by decide +kernel
theorem dL_law_1313 : decode cL_law 1313 = .ok (.ifCond .ne 15, 3) := by decide +kernel
theorem dL_law_1316 : decode cL_law 1316 = .ok (.aload_n 3, 1) := by decide +kernel
theorem dL_law_1317 : decode cL_law 1317 = .ok (.iconst 0, 1) := by decide +kernel
theorem dL_law_1318 : decode cL_law 1318 = .ok (.laload, 1) := by decide +kernel
theorem dL_law_1319 : decode cL_law 1319 = .ok (.iload 6, 2) := by decide +kernel
theorem dL_law_1321 : decode cL_law 1321 = .ok (.i2l, 1) := by decide +kernel
theorem dL_law_1322 : decode cL_law 1322 = .ok (.lcmp, 1) := by decide +kernel
theorem dL_law_1323 : decode cL_law 1323 = .ok (.ifCond .eq 5, 3) := by decide +kernel
theorem dL_law_1326 : decode cL_law 1326 = .ok (.iconst 0, 1) := by decide +kernel
theorem dL_law_1327 : decode cL_law 1327 = .ok (.ireturn, 1) := by decide +kernel
theorem dL_law_1328 : decode cL_law 1328 = .ok (.goto 212, 3) := by decide +kernel
theorem dL_law_1331 : decode cL_law 1331 = .ok (.aload_n 1, 1) := by decide +kernel
theorem dL_law_1332 : decode cL_law 1332 = .ok (.aload_n 0, 1) := by decide +kernel
theorem dL_law_1333 : decode cL_law 1333 = .ok (.iload 4, 2) := by decide +kernel
theorem dL_law_1335 : decode cL_law 1335 = .ok (.iconst 1, 1) := by decide +kernel
theorem dL_law_1336 : decode cL_law 1336 = .ok (.iadd, 1) := by decide +kernel
theorem dL_law_1337 : decode cL_law 1337 = .ok (.iaload, 1) := by decide +kernel
theorem dL_law_1338 : decode cL_law 1338 = .ok (.aload_n 0, 1) := by decide +kernel
theorem dL_law_1339 : decode cL_law 1339 = .ok (.iload 4, 2) := by decide +kernel
theorem dL_law_1341 : decode cL_law 1341 = .ok (.iconst 2, 1) := by decide +kernel
theorem dL_law_1342 : decode cL_law 1342 = .ok (.iadd, 1) := by decide +kernel
theorem dL_law_1343 : decode cL_law 1343 = .ok (.iaload, 1) := by decide +kernel
theorem dL_law_1344 : decode cL_law 1344 = .ok (.invokevirtual 141, 3) := by decide +kernel
theorem dL_law_1347 : decode cL_law 1347 = .ok (.aload_n 2, 1) := by decide +kernel
theorem dL_law_1348 : decode cL_law 1348 = .ok (.aload_n 0, 1) := by decide +kernel
theorem dL_law_1349 : decode cL_law 1349 = .ok (.iload 4, 2) := by decide +kernel
theorem dL_law_1351 : decode cL_law 1351 = .ok (.iconst 1, 1) := by decide +kernel
theorem dL_law_1352 : decode cL_law 1352 = .ok (.iadd, 1) := by decide +kernel
theorem dL_law_1353 : decode cL_law 1353 = .ok (.iaload, 1) := by decide +kernel
theorem dL_law_1354 : decode cL_law 1354 = .ok (.aload_n 0, 1) := by decide +kernel
theorem dL_law_1355 : decode cL_law 1355 = .ok (.iload 4, 2) := by decide +kernel
theorem dL_law_1357 : decode cL_law 1357 = .ok (.iconst 2, 1) := by decide +kernel
theorem dL_law_1358 : decode cL_law 1358 = .ok (.iadd, 1) := by decide +kernel
theorem dL_law_1359 : decode cL_law 1359 = .ok (.iaload, 1) := by decide +kernel
theorem dL_law_1360 : decode cL_law 1360 = .ok (.invokevirtual 144, 3) := by decide +kernel
theorem dL_law_1363 : decode cL_law 1363 = .ok (.if_icmp .eq 177, 3) := by decide +kernel
theorem dL_law_1366 : decode cL_law 1366 = .ok (.iconst 0, 1) := by decide +kernel
theorem dL_law_1367 : decode cL_law 1367 = .ok (.ireturn, 1) := by decide +kernel
theorem dL_law_1368 : decode cL_law 1368 = .ok (.aload_n 1, 1) := by decide +kernel
theorem dL_law_1369 : decode cL_law 1369 = .ok (.aload_n 0, 1) := by decide +kernel
theorem dL_law_1370 : decode cL_law 1370 = .ok (.iload 4, 2) := by decide +kernel
theorem dL_law_1372 : decode cL_law 1372 = .ok (.iconst 1, 1) := by decide +kernel
theorem dL_law_1373 : decode cL_law 1373 = .ok (.iadd, 1) := by decide +kernel
theorem dL_law_1374 : decode cL_law 1374 = .ok (.iaload, 1) := by decide +kernel
theorem dL_law_1375 : decode cL_law 1375 = .ok (.aload_n 0, 1) := by decide +kernel
theorem dL_law_1376 : decode cL_law 1376 = .ok (.iload 4, 2) := by decide +kernel
theorem dL_law_1378 : decode cL_law 1378 = .ok (.iconst 2, 1) := by decide +kernel
theorem dL_law_1379 : decode cL_law 1379 = .ok (.iadd, 1) := by decide +kernel
theorem dL_law_1380 : decode cL_law 1380 = .ok (.iaload, 1) := by decide +kernel
theorem dL_law_1381 : decode cL_law 1381 = .ok (.aload_n 0, 1) := by decide +kernel
theorem dL_law_1382 : decode cL_law 1382 = .ok (.iload 4, 2) := by decide +kernel
theorem dL_law_1384 : decode cL_law 1384 = .ok (.iconst 3, 1) := by decide +kernel
theorem dL_law_1385 : decode cL_law 1385 = .ok (.iadd, 1) := by decide +kernel
theorem dL_law_1386 : decode cL_law 1386 = .ok (.iaload, 1) := by decide +kernel
theorem dL_law_1387 : decode cL_law 1387 = .ok (.aload_n 0, 1) := by decide +kernel
theorem dL_law_1388 : decode cL_law 1388 = .ok (.iload 4, 2) := by decide +kernel
theorem dL_law_1390 : decode cL_law 1390 = .ok (.iconst 4, 1) := by decide +kernel
theorem dL_law_1391 : decode cL_law 1391 = .ok (.iadd, 1) := by decide +kernel
theorem dL_law_1392 : decode cL_law 1392 = .ok (.iaload, 1) := by decide +kernel
theorem dL_law_1393 : decode cL_law 1393 = .ok (.invokevirtual 145, 3) := by decide +kernel
theorem dL_law_1396 : decode cL_law 1396 = .ok (.aload_n 2, 1) := by decide +kernel
theorem dL_law_1397 : decode cL_law 1397 = .ok (.aload_n 0, 1) := by decide +kernel
theorem dL_law_1398 : decode cL_law 1398 = .ok (.iload 4, 2) := by decide +kernel
theorem dL_law_1400 : decode cL_law 1400 = .ok (.iconst 1, 1) := by decide +kernel
theorem dL_law_1401 : decode cL_law 1401 = .ok (.iadd, 1) := by decide +kernel
theorem dL_law_1402 : decode cL_law 1402 = .ok (.iaload, 1) := by decide +kernel
theorem dL_law_1403 : decode cL_law 1403 = .ok (.aload_n 0, 1) := by decide +kernel
theorem dL_law_1404 : decode cL_law 1404 = .ok (.iload 4, 2) := by decide +kernel
theorem dL_law_1406 : decode cL_law 1406 = .ok (.iconst 2, 1) := by decide +kernel
theorem dL_law_1407 : decode cL_law 1407 = .ok (.iadd, 1) := by decide +kernel
theorem dL_law_1408 : decode cL_law 1408 = .ok (.iaload, 1) := by decide +kernel
theorem dL_law_1409 : decode cL_law 1409 = .ok (.aload_n 0, 1) := by decide +kernel
theorem dL_law_1410 : decode cL_law 1410 = .ok (.iload 4, 2) := by decide +kernel
theorem dL_law_1412 : decode cL_law 1412 = .ok (.iconst 3, 1) := by decide +kernel
theorem dL_law_1413 : decode cL_law 1413 = .ok (.iadd, 1) := by decide +kernel
theorem dL_law_1414 : decode cL_law 1414 = .ok (.iaload, 1) := by decide +kernel
theorem dL_law_1415 : decode cL_law 1415 = .ok (.aload_n 0, 1) := by decide +kernel
theorem dL_law_1416 : decode cL_law 1416 = .ok (.iload 4, 2) := by decide +kernel
theorem dL_law_1418 : decode cL_law 1418 = .ok (.iconst 4, 1) := by decide +kernel
theorem dL_law_1419 : decode cL_law 1419 = .ok (.iadd, 1) := by decide +kernel
theorem dL_law_1420 : decode cL_law 1420 = .ok (.iaload, 1) := by decide +kernel
theorem dL_law_1421 : decode cL_law 1421 = .ok (.invokevirtual 149, 3) := by decide +kernel
theorem dL_law_1424 : decode cL_law 1424 = .ok (.if_icmp .eq 116, 3) := by decide +kernel
theorem dL_law_1427 : decode cL_law 1427 = .ok (.iconst 0, 1) := by decide +kernel
theorem dL_law_1428 : decode cL_law 1428 = .ok (.ireturn, 1) := by decide +kernel
theorem dL_law_1429 : decode cL_law 1429 = .ok (.aload_n 1, 1) := by decide +kernel
theorem dL_law_1430 : decode cL_law 1430 = .ok (.aload_n 0, 1) := by decide +kernel
theorem dL_law_1431 : decode cL_law 1431 = .ok (.iload 4, 2) := by decide +kernel
theorem dL_law_1433 : decode cL_law 1433 = .ok (.iconst 1, 1) := by decide +kernel
theorem dL_law_1434 : decode cL_law 1434 = .ok (.iadd, 1) := by decide +kernel
theorem dL_law_1435 : decode cL_law 1435 = .ok (.iaload, 1) := by decide +kernel
theorem dL_law_1436 : decode cL_law 1436 = .ok (.aload_n 0, 1) := by decide +kernel
theorem dL_law_1437 : decode cL_law 1437 = .ok (.iload 4, 2) := by decide +kernel
theorem dL_law_1439 : decode cL_law 1439 = .ok (.iconst 2, 1) := by decide +kernel
theorem dL_law_1440 : decode cL_law 1440 = .ok (.iadd, 1) := by decide +kernel
theorem dL_law_1441 : decode cL_law 1441 = .ok (.iaload, 1) := by decide +kernel
theorem dL_law_1442 : decode cL_law 1442 = .ok (.aload_n 0, 1) := by decide +kernel
theorem dL_law_1443 : decode cL_law 1443 = .ok (.iload 4, 2) := by decide +kernel
theorem dL_law_1445 : decode cL_law 1445 = .ok (.iconst 3, 1) := by decide +kernel
theorem dL_law_1446 : decode cL_law 1446 = .ok (.iadd, 1) := by decide +kernel
theorem dL_law_1447 : decode cL_law 1447 = .ok (.iaload, 1) := by decide +kernel
theorem dL_law_1448 : decode cL_law 1448 = .ok (.invokevirtual 150, 3) := by decide +kernel
theorem dL_law_1451 : decode cL_law 1451 = .ok (.aload_n 2, 1) := by decide +kernel
theorem dL_law_1452 : decode cL_law 1452 = .ok (.aload_n 0, 1) := by decide +kernel
theorem dL_law_1453 : decode cL_law 1453 = .ok (.iload 4, 2) := by decide +kernel
theorem dL_law_1455 : decode cL_law 1455 = .ok (.iconst 1, 1) := by decide +kernel
theorem dL_law_1456 : decode cL_law 1456 = .ok (.iadd, 1) := by decide +kernel
theorem dL_law_1457 : decode cL_law 1457 = .ok (.iaload, 1) := by decide +kernel
theorem dL_law_1458 : decode cL_law 1458 = .ok (.aload_n 0, 1) := by decide +kernel
theorem dL_law_1459 : decode cL_law 1459 = .ok (.iload 4, 2) := by decide +kernel
theorem dL_law_1461 : decode cL_law 1461 = .ok (.iconst 2, 1) := by decide +kernel
theorem dL_law_1462 : decode cL_law 1462 = .ok (.iadd, 1) := by decide +kernel
theorem dL_law_1463 : decode cL_law 1463 = .ok (.iaload, 1) := by decide +kernel
theorem dL_law_1464 : decode cL_law 1464 = .ok (.aload_n 0, 1) := by decide +kernel
theorem dL_law_1465 : decode cL_law 1465 = .ok (.iload 4, 2) := by decide +kernel
theorem dL_law_1467 : decode cL_law 1467 = .ok (.iconst 3, 1) := by decide +kernel
theorem dL_law_1468 : decode cL_law 1468 = .ok (.iadd, 1) := by decide +kernel
theorem dL_law_1469 : decode cL_law 1469 = .ok (.iaload, 1) := by decide +kernel
theorem dL_law_1470 : decode cL_law 1470 = .ok (.invokevirtual 154, 3) := by decide +kernel
theorem dL_law_1473 : decode cL_law 1473 = .ok (.if_icmp .eq 67, 3) := by decide +kernel
theorem dL_law_1476 : decode cL_law 1476 = .ok (.iconst 0, 1) := by decide +kernel
theorem dL_law_1477 : decode cL_law 1477 = .ok (.ireturn, 1) := by decide +kernel
theorem dL_law_1478 : decode cL_law 1478 = .ok (.aload_n 1, 1) := by decide +kernel
theorem dL_law_1479 : decode cL_law 1479 = .ok (.aload_n 0, 1) := by decide +kernel
theorem dL_law_1480 : decode cL_law 1480 = .ok (.iload 4, 2) := by decide +kernel
theorem dL_law_1482 : decode cL_law 1482 = .ok (.iconst 1, 1) := by decide +kernel
theorem dL_law_1483 : decode cL_law 1483 = .ok (.iadd, 1) := by decide +kernel
theorem dL_law_1484 : decode cL_law 1484 = .ok (.iaload, 1) := by decide +kernel
theorem dL_law_1485 : decode cL_law 1485 = .ok (.aload_n 0, 1) := by decide +kernel
theorem dL_law_1486 : decode cL_law 1486 = .ok (.iload 4, 2) := by decide +kernel
theorem dL_law_1488 : decode cL_law 1488 = .ok (.iconst 2, 1) := by decide +kernel
theorem dL_law_1489 : decode cL_law 1489 = .ok (.iadd, 1) := by decide +kernel
theorem dL_law_1490 : decode cL_law 1490 = .ok (.iaload, 1) := by decide +kernel
theorem dL_law_1491 : decode cL_law 1491 = .ok (.invokevirtual 155, 3) := by decide +kernel
theorem dL_law_1494 : decode cL_law 1494 = .ok (.aload_n 2, 1) := by decide +kernel
theorem dL_law_1495 : decode cL_law 1495 = .ok (.aload_n 0, 1) := by decide +kernel
theorem dL_law_1496 : decode cL_law 1496 = .ok (.iload 4, 2) := by decide +kernel
theorem dL_law_1498 : decode cL_law 1498 = .ok (.iconst 1, 1) := by decide +kernel
theorem dL_law_1499 : decode cL_law 1499 = .ok (.iadd, 1) := by decide +kernel
theorem dL_law_1500 : decode cL_law 1500 = .ok (.iaload, 1) := by decide +kernel
theorem dL_law_1501 : decode cL_law 1501 = .ok (.aload_n 0, 1) := by decide +kernel
theorem dL_law_1502 : decode cL_law 1502 = .ok (.iload 4, 2) := by decide +kernel
theorem dL_law_1504 : decode cL_law 1504 = .ok (.iconst 2, 1) := by decide +kernel
theorem dL_law_1505 : decode cL_law 1505 = .ok (.iadd, 1) := by decide +kernel
theorem dL_law_1506 : decode cL_law 1506 = .ok (.iaload, 1) := by decide +kernel
theorem dL_law_1507 : decode cL_law 1507 = .ok (.invokevirtual 158, 3) := by decide +kernel
theorem dL_law_1510 : decode cL_law 1510 = .ok (.if_icmp .eq 30, 3) := by decide +kernel
theorem dL_law_1513 : decode cL_law 1513 = .ok (.iconst 0, 1) := by decide +kernel
theorem dL_law_1514 : decode cL_law 1514 = .ok (.ireturn, 1) := by decide +kernel
theorem dL_law_1515 : decode cL_law 1515 = .ok (.aload_n 1, 1) := by decide +kernel
theorem dL_law_1516 : decode cL_law 1516 = .ok (.aload_n 0, 1) := by decide +kernel
theorem dL_law_1517 : decode cL_law 1517 = .ok (.iload 4, 2) := by decide +kernel
theorem dL_law_1519 : decode cL_law 1519 = .ok (.iconst 1, 1) := by decide +kernel
theorem dL_law_1520 : decode cL_law 1520 = .ok (.iadd, 1) := by decide +kernel
theorem dL_law_1521 : decode cL_law 1521 = .ok (.iaload, 1) := by decide +kernel
theorem dL_law_1522 : decode cL_law 1522 = .ok (.invokevirtual 159, 3) := by decide +kernel
theorem dL_law_1525 : decode cL_law 1525 = .ok (.aload_n 2, 1) := by decide +kernel
theorem dL_law_1526 : decode cL_law 1526 = .ok (.aload_n 0, 1) := by decide +kernel
theorem dL_law_1527 : decode cL_law 1527 = .ok (.iload 4, 2) := by decide +kernel
theorem dL_law_1529 : decode cL_law 1529 = .ok (.iconst 1, 1) := by decide +kernel
theorem dL_law_1530 : decode cL_law 1530 = .ok (.iadd, 1) := by decide +kernel
theorem dL_law_1531 : decode cL_law 1531 = .ok (.iaload, 1) := by decide +kernel
theorem dL_law_1532 : decode cL_law 1532 = .ok (.invokevirtual 162, 3) := by decide +kernel
theorem dL_law_1535 : decode cL_law 1535 = .ok (.if_icmp .eq 5, 3) := by decide +kernel
theorem dL_law_1538 : decode cL_law 1538 = .ok (.iconst 0, 1) := by decide +kernel
theorem dL_law_1539 : decode cL_law 1539 = .ok (.ireturn, 1) := by decide +kernel
theorem dL_law_1540 : decode cL_law 1540 = .ok (.iinc 4 9, 3) := by decide +kernel
theorem dL_law_1543 : decode cL_law 1543 = .ok (.goto (-1496), 3) := by decide +kernel
theorem dL_law_1546 : decode cL_law 1546 = .ok (.iconst 1, 1) := by decide +kernel
theorem dL_law_1547 : decode cL_law 1547 = .ok (.ireturn, 1) := by decide +kernel
