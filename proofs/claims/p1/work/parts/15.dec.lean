theorem dX0_init_0 : decode cX0_init 0 = .ok (.aload_n 0, 1) := by decide +kernel
theorem dX0_init_1 : decode cX0_init 1 = .ok (.invokespecial 1, 3) := by decide +kernel
theorem dX0_init_4 : decode cX0_init 4 = .ok (.return_, 1) := by decide +kernel
theorem dX1_init_0 : decode cX1_init 0 = .ok (.aload_n 0, 1) := by decide +kernel
theorem dX1_init_1 : decode cX1_init 1 = .ok (.invokespecial 1, 3) := by decide +kernel
theorem dX1_init_4 : decode cX1_init 4 = .ok (.aload_n 0, 1) := by decide +kernel
theorem dX1_init_5 : decode cX1_init 5 = .ok (.aload_n 1, 1) := by decide +kernel
theorem dX1_init_6 : decode cX1_init 6 = .ok (.putfield 7, 3) := by decide +kernel
theorem dX1_init_9 : decode cX1_init 9 = .ok (.aload_n 0, 1) := by decide +kernel
theorem dX1_init_10 : decode cX1_init 10 = .ok (.aload_n 3, 1) := by decide +kernel
theorem dX1_init_11 : decode cX1_init 11 = .ok (.putfield 13, 3) := by decide +kernel
theorem dX1_init_14 : decode cX1_init 14 = .ok (.aload_n 0, 1) := by decide +kernel
theorem dX1_init_15 : decode cX1_init 15 = .ok (.aload 4, 2) := by decide +kernel
theorem dX1_init_17 : decode cX1_init 17 = .ok (.putfield 17, 3) := by decide +kernel
theorem dX1_init_20 : decode cX1_init 20 = .ok (.aload_n 0, 1) := by decide +kernel
theorem dX1_init_21 : decode cX1_init 21 = .ok (.aload_n 2, 1) := by decide +kernel
theorem dX1_init_22 : decode cX1_init 22 = .ok (.getfield 20, 3) := by decide +kernel
theorem dX1_init_25 : decode cX1_init 25 = .ok (.putfield 26, 3) := by decide +kernel
theorem dX1_init_28 : decode cX1_init 28 = .ok (.aload_n 0, 1) := by decide +kernel
theorem dX1_init_29 : decode cX1_init 29 = .ok (.iload 5, 2) := by decide +kernel
theorem dX1_init_31 : decode cX1_init 31 = .ok (.putfield 27, 3) := by decide +kernel
theorem dX1_init_34 : decode cX1_init 34 = .ok (.aload_n 0, 1) := by decide +kernel
theorem dX1_init_35 : decode cX1_init 35 = .ok (.lconst 1, 1) := by decide +kernel
theorem dX1_init_36 : decode cX1_init 36 = .ok (.aload_n 1, 1) := by decide +kernel
theorem dX1_init_37 : decode cX1_init 37 = .ok (.arraylength, 1) := by decide +kernel
theorem dX1_init_38 : decode cX1_init 38 = .ok (.lshl, 1) := by decide +kernel
theorem dX1_init_39 : decode cX1_init 39 = .ok (.putfield 30, 3) := by decide +kernel
theorem dX1_init_42 : decode cX1_init 42 = .ok (.aload_n 0, 1) := by decide +kernel
theorem dX1_init_43 : decode cX1_init 43 = .ok (.aload_n 2, 1) := by decide +kernel
theorem dX1_init_44 : decode cX1_init 44 = .ok (.getfield 34, 3) := by decide +kernel
theorem dX1_init_47 : decode cX1_init 47 = .ok (.ifCond .eq 15, 3) := by decide +kernel
theorem dX1_init_50 : decode cX1_init 50 = .ok (.aload_n 2, 1) := by decide +kernel
theorem dX1_init_51 : decode cX1_init 51 = .ok (.getfield 38, 3) := by decide +kernel
theorem dX1_init_54 : decode cX1_init 54 = .ok (.aload_n 0, 1) := by decide +kernel
theorem dX1_init_55 : decode cX1_init 55 = .ok (.getfield 30, 3) := by decide +kernel
theorem dX1_init_58 : decode cX1_init 58 = .ok (.lor, 1) := by decide +kernel
theorem dX1_init_59 : decode cX1_init 59 = .ok (.goto 7, 3) := by decide +kernel
theorem dX1_init_66 : decode cX1_init 66 = .ok (.putfield 41, 3) := by decide +kernel
theorem dX1_init_69 : decode cX1_init 69 = .ok (.lconst 0, 1) := by decide +kernel
theorem dX1_init_70 : decode cX1_init 70 = .ok (.lstore 6, 2) := by decide +kernel
theorem dX1_init_72 : decode cX1_init 72 = .ok (.iconst 0, 1) := by decide +kernel
theorem dX1_init_73 : decode cX1_init 73 = .ok (.istore 8, 2) := by decide +kernel
theorem dX1_init_75 : decode cX1_init 75 = .ok (.iload 8, 2) := by decide +kernel
theorem dX1_init_77 : decode cX1_init 77 = .ok (.aload 4, 2) := by decide +kernel
theorem dX1_init_79 : decode cX1_init 79 = .ok (.arraylength, 1) := by decide +kernel
theorem dX1_init_80 : decode cX1_init 80 = .ok (.if_icmp .ge 19, 3) := by decide +kernel
theorem dX1_init_83 : decode cX1_init 83 = .ok (.lload 6, 2) := by decide +kernel
theorem dX1_init_85 : decode cX1_init 85 = .ok (.aload 4, 2) := by decide +kernel
theorem dX1_init_87 : decode cX1_init 87 = .ok (.iload 8, 2) := by decide +kernel
theorem dX1_init_89 : decode cX1_init 89 = .ok (.laload, 1) := by decide +kernel
theorem dX1_init_90 : decode cX1_init 90 = .ok (.lor, 1) := by decide +kernel
theorem dX1_init_91 : decode cX1_init 91 = .ok (.lstore 6, 2) := by decide +kernel
theorem dX1_init_93 : decode cX1_init 93 = .ok (.iinc 8 1, 3) := by decide +kernel
theorem dX1_init_96 : decode cX1_init 96 = .ok (.goto (-21), 3) := by decide +kernel
theorem dX1_init_99 : decode cX1_init 99 = .ok (.aload_n 0, 1) := by decide +kernel
theorem dX1_init_100 : decode cX1_init 100 = .ok (.lload 6, 2) := by decide +kernel
theorem dX1_init_102 : decode cX1_init 102 = .ok (.putfield 42, 3) := by decide +kernel
theorem dX1_init_105 : decode cX1_init 105 = .ok (.return_, 1) := by decide +kernel
theorem dX2_init_0 : decode cX2_init 0 = .ok (.aload_n 0, 1) := by decide +kernel
theorem dX2_init_1 : decode cX2_init 1 = .ok (.invokespecial 3, 3) := by decide +kernel
theorem dX2_init_4 : decode cX2_init 4 = .ok (.aload_n 0, 1) := by decide +kernel
theorem dX2_init_5 : decode cX2_init 5 = .ok (.bipush 6, 2) := by decide +kernel
theorem dX2_init_7 : decode cX2_init 7 = .ok (.newarray .long, 2) := by decide +kernel
theorem dX2_init_9 : decode cX2_init 9 = .ok (.putfield 9, 3) := by decide +kernel
theorem dX2_init_12 : decode cX2_init 12 = .ok (.aload_n 0, 1) := by decide +kernel
theorem dX2_init_13 : decode cX2_init 13 = .ok (.iconst 0, 1) := by decide +kernel
theorem dX2_init_14 : decode cX2_init 14 = .ok (.putfield 15, 3) := by decide +kernel
theorem dX2_init_17 : decode cX2_init 17 = .ok (.aload_n 0, 1) := by decide +kernel
theorem dX2_init_18 : decode cX2_init 18 = .ok (.iconst 1, 1) := by decide +kernel
theorem dX2_init_19 : decode cX2_init 19 = .ok (.putfield 19, 3) := by decide +kernel
theorem dX2_init_22 : decode cX2_init 22 = .ok (.aload_n 0, 1) := by decide +kernel
theorem dX2_init_23 : decode cX2_init 23 = .ok (.iconst 1, 1) := by decide +kernel
theorem dX2_init_24 : decode cX2_init 24 = .ok (.putfield 23, 3) := by decide +kernel
theorem dX2_init_27 : decode cX2_init 27 = .ok (.aload_n 0, 1) := by decide +kernel
theorem dX2_init_28 : decode cX2_init 28 = .ok (.aload_n 1, 1) := by decide +kernel
theorem dX2_init_29 : decode cX2_init 29 = .ok (.iconst 0, 1) := by decide +kernel
theorem dX2_init_30 : decode cX2_init 30 = .ok (.iload_n 2, 1) := by decide +kernel
theorem dX2_init_31 : decode cX2_init 31 = .ok (.aload_n 1, 1) := by decide +kernel
theorem dX2_init_32 : decode cX2_init 32 = .ok (.arraylength, 1) := by decide +kernel
theorem dX2_init_33 : decode cX2_init 33 = .ok (.invokestatic 26, 3) := by decide +kernel
theorem dX2_init_36 : decode cX2_init 36 = .ok (.invokestatic 32, 3) := by decide +kernel
theorem dX2_init_39 : decode cX2_init 39 = .ok (.invokestatic 35, 3) := by decide +kernel
theorem dX2_init_42 : decode cX2_init 42 = .ok (.putfield 41, 3) := by decide +kernel
theorem dX2_init_45 : decode cX2_init 45 = .ok (.aload_n 0, 1) := by decide +kernel
theorem dX2_init_46 : decode cX2_init 46 = .ok (.aload_n 0, 1) := by decide +kernel
theorem dX2_init_47 : decode cX2_init 47 = .ok (.getfield 41, 3) := by decide +kernel
theorem dX2_init_50 : decode cX2_init 50 = .ok (.arraylength, 1) := by decide +kernel
theorem dX2_init_51 : decode cX2_init 51 = .ok (.newarray .long, 2) := by decide +kernel
theorem dX2_init_53 : decode cX2_init 53 = .ok (.putfield 45, 3) := by decide +kernel
theorem dX2_init_56 : decode cX2_init 56 = .ok (.return_, 1) := by decide +kernel
theorem dX2_read_0 : decode cX2_read 0 = .ok (.aload_n 0, 1) := by decide +kernel
theorem dX2_read_1 : decode cX2_read 1 = .ok (.iconst 0, 1) := by decide +kernel
theorem dX2_read_2 : decode cX2_read 2 = .ok (.invokevirtual 48, 3) := by decide +kernel
theorem dX2_read_5 : decode cX2_read 5 = .ok (.astore_n 1, 1) := by decide +kernel
theorem dX2_read_6 : decode cX2_read 6 = .ok (.aload_n 0, 1) := by decide +kernel
theorem dX2_read_7 : decode cX2_read 7 = .ok (.aload_n 1, 1) := by decide +kernel
theorem dX2_read_8 : decode cX2_read 8 = .ok (.getfield 52, 3) := by decide +kernel
theorem dX2_read_11 : decode cX2_read 11 = .ok (.lconst 1, 1) := by decide +kernel
theorem dX2_read_12 : decode cX2_read 12 = .ok (.aload_n 0, 1) := by decide +kernel
theorem dX2_read_13 : decode cX2_read 13 = .ok (.getfield 41, 3) := by decide +kernel
theorem dX2_read_16 : decode cX2_read 16 = .ok (.arraylength, 1) := by decide +kernel
theorem dX2_read_17 : decode cX2_read 17 = .ok (.lshl, 1) := by decide +kernel
theorem dX2_read_18 : decode cX2_read 18 = .ok (.invokevirtual 58, 3) := by decide +kernel
theorem dX2_read_21 : decode cX2_read 21 = .ok (.iconst 0, 1) := by decide +kernel
theorem dX2_read_22 : decode cX2_read 22 = .ok (.istore_n 2, 1) := by decide +kernel
theorem dX2_read_23 : decode cX2_read 23 = .ok (.aload_n 0, 1) := by decide +kernel
theorem dX2_read_24 : decode cX2_read 24 = .ok (.getfield 19, 3) := by decide +kernel
theorem dX2_read_27 : decode cX2_read 27 = .ok (.ifCond .eq 16, 3) := by decide +kernel
theorem dX2_read_30 : decode cX2_read 30 = .ok (.aload_n 0, 1) := by decide +kernel
theorem dX2_read_31 : decode cX2_read 31 = .ok (.getfield 23, 3) := by decide +kernel
theorem dX2_read_34 : decode cX2_read 34 = .ok (.ifCond .eq 7, 3) := by decide +kernel
theorem dX2_read_37 : decode cX2_read 37 = .ok (.iconst 2, 1) := by decide +kernel
theorem dX2_read_38 : decode cX2_read 38 = .ok (.goto 4, 3) := by decide +kernel
theorem dX2_read_42 : decode cX2_read 42 = .ok (.istore_n 2, 1) := by decide +kernel
theorem dX2_read_43 : decode cX2_read 43 = .ok (.new 62, 3) := by decide +kernel
theorem dX2_read_46 : decode cX2_read 46 = .ok (.dup, 1) := by decide +kernel
theorem dX2_read_47 : decode cX2_read 47 = .ok (.aload_n 0, 1) := by decide +kernel
theorem dX2_read_48 : decode cX2_read 48 = .ok (.getfield 41, 3) := by decide +kernel
theorem dX2_read_51 : decode cX2_read 51 = .ok (.aload_n 1, 1) := by decide +kernel
theorem dX2_read_52 : decode cX2_read 52 = .ok (.aload_n 0, 1) := by decide +kernel
theorem dX2_read_53 : decode cX2_read 53 = .ok (.getfield 45, 3) := by decide +kernel
theorem dX2_read_56 : decode cX2_read 56 = .ok (.aload_n 0, 1) := by decide +kernel
theorem dX2_read_57 : decode cX2_read 57 = .ok (.getfield 9, 3) := by decide +kernel
theorem dX2_read_60 : decode cX2_read 60 = .ok (.iload_n 2, 1) := by decide +kernel
theorem dX2_read_61 : decode cX2_read 61 = .ok (.invokespecial 64, 3) := by decide +kernel
theorem dX2_read_64 : decode cX2_read 64 = .ok (.areturn, 1) := by decide +kernel
theorem dX2_readFormula_0 : decode cX2_readFormula 0 = .ok (.iload_n 1, 1) := by decide +kernel
theorem dX2_readFormula_1 : decode cX2_readFormula 1 = .ok (.bipush 6, 2) := by decide +kernel
theorem dX2_readFormula_3 : decode cX2_readFormula 3 = .ok (.if_icmp .le 7, 3) := by decide +kernel
theorem dX2_readFormula_10 : decode cX2_readFormula 10 = .ok (.aload_n 0, 1) := by decide +kernel
theorem dX2_readFormula_11 : decode cX2_readFormula 11 = .ok (.iload_n 1, 1) := by decide +kernel
theorem dX2_readFormula_12 : decode cX2_readFormula 12 = .ok (.invokevirtual 71, 3) := by decide +kernel
theorem dX2_readFormula_15 : decode cX2_readFormula 15 = .ok (.astore_n 2, 1) := by decide +kernel
theorem dX2_readFormula_16 : decode cX2_readFormula 16 = .ok (.iconst 0, 1) := by decide +kernel
theorem dX2_readFormula_17 : decode cX2_readFormula 17 = .ok (.istore_n 3, 1) := by decide +kernel
theorem dX2_readFormula_18 : decode cX2_readFormula 18 = .ok (.iload_n 3, 1) := by decide +kernel
theorem dX2_readFormula_19 : decode cX2_readFormula 19 = .ok (.aload_n 0, 1) := by decide +kernel
theorem dX2_readFormula_20 : decode cX2_readFormula 20 = .ok (.getfield 41, 3) := by decide +kernel
theorem dX2_readFormula_23 : decode cX2_readFormula 23 = .ok (.arraylength, 1) := by decide +kernel
theorem dX2_readFormula_24 : decode cX2_readFormula 24 = .ok (.if_icmp .ge 59, 3) := by decide +kernel
theorem dX2_readFormula_83 : decode cX2_readFormula 83 = .ok (.aload_n 2, 1) := by decide +kernel
theorem dX2_readFormula_84 : decode cX2_readFormula 84 = .ok (.areturn, 1) := by decide +kernel
theorem dX2_readSequence_0 : decode cX2_readSequence 0 = .ok (.invokestatic 67, 3) := by decide +kernel
theorem dX2_readSequence_3 : decode cX2_readSequence 3 = .ok (.astore_n 2, 1) := by decide +kernel
theorem dX2_readSequence_4 : decode cX2_readSequence 4 = .ok (.iconst 0, 1) := by decide +kernel
theorem dX2_readSequence_5 : decode cX2_readSequence 5 = .ok (.istore_n 3, 1) := by decide +kernel
theorem dX2_readSequence_6 : decode cX2_readSequence 6 = .ok (.iload_n 3, 1) := by decide +kernel
theorem dX2_readSequence_7 : decode cX2_readSequence 7 = .ok (.aload_n 0, 1) := by decide +kernel
theorem dX2_readSequence_8 : decode cX2_readSequence 8 = .ok (.getfield 41, 3) := by decide +kernel
theorem dX2_readSequence_11 : decode cX2_readSequence 11 = .ok (.arraylength, 1) := by decide +kernel
theorem dX2_readSequence_12 : decode cX2_readSequence 12 = .ok (.if_icmp .ge 61, 3) := by decide +kernel
theorem dX2_readSequence_73 : decode cX2_readSequence 73 = .ok (.aload_n 2, 1) := by decide +kernel
theorem dX2_readSequence_74 : decode cX2_readSequence 74 = .ok (.areturn, 1) := by decide +kernel
theorem dX2_link_0 : decode cX2_link 0 = .ok (.iconst 0, 1) := by decide +kernel
theorem dX2_link_1 : decode cX2_link 1 = .ok (.istore 5, 2) := by decide +kernel
theorem dX2_link_3 : decode cX2_link 3 = .ok (.iload 5, 2) := by decide +kernel
theorem dX2_link_5 : decode cX2_link 5 = .ok (.aload_n 0, 1) := by decide +kernel
theorem dX2_link_6 : decode cX2_link 6 = .ok (.getfield 45, 3) := by decide +kernel
theorem dX2_link_9 : decode cX2_link 9 = .ok (.arraylength, 1) := by decide +kernel
theorem dX2_link_10 : decode cX2_link 10 = .ok (.if_icmp .ge 31, 3) := by decide +kernel
theorem dX2_link_41 : decode cX2_link 41 = .ok (.return_, 1) := by decide +kernel
theorem dX4_init_0 : decode cX4_init 0 = .ok (.aload_n 0, 1) := by decide +kernel
theorem dX4_init_1 : decode cX4_init 1 = .ok (.invokespecial 1, 3) := by decide +kernel
theorem dX4_init_4 : decode cX4_init 4 = .ok (.aload_n 0, 1) := by decide +kernel
theorem dX4_init_5 : decode cX4_init 5 = .ok (.sipush 2926, 3) := by decide +kernel
theorem dX4_init_8 : decode cX4_init 8 = .ok (.newarray .long, 2) := by decide +kernel
theorem dX4_init_10 : decode cX4_init 10 = .ok (.putfield 9, 3) := by decide +kernel
theorem dX4_init_13 : decode cX4_init 13 = .ok (.return_, 1) := by decide +kernel
theorem dX5_init_0 : decode cX5_init 0 = .ok (.aload_n 0, 1) := by decide +kernel
theorem dX5_init_1 : decode cX5_init 1 = .ok (.invokespecial 1, 3) := by decide +kernel
theorem dX5_init_4 : decode cX5_init 4 = .ok (.aload_n 0, 1) := by decide +kernel
theorem dX5_init_5 : decode cX5_init 5 = .ok (.iload_n 1, 1) := by decide +kernel
theorem dX5_init_6 : decode cX5_init 6 = .ok (.putfield 7, 3) := by decide +kernel
theorem dX5_init_9 : decode cX5_init 9 = .ok (.aload_n 0, 1) := by decide +kernel
theorem dX5_init_10 : decode cX5_init 10 = .ok (.lload_n 2, 1) := by decide +kernel
theorem dX5_init_11 : decode cX5_init 11 = .ok (.putfield 13, 3) := by decide +kernel
theorem dX5_init_14 : decode cX5_init 14 = .ok (.aload_n 0, 1) := by decide +kernel
theorem dX5_init_15 : decode cX5_init 15 = .ok (.lload 4, 2) := by decide +kernel
theorem dX5_init_17 : decode cX5_init 17 = .ok (.putfield 17, 3) := by decide +kernel
theorem dX5_init_20 : decode cX5_init 20 = .ok (.aload_n 0, 1) := by decide +kernel
theorem dX5_init_21 : decode cX5_init 21 = .ok (.iload 6, 2) := by decide +kernel
theorem dX5_init_23 : decode cX5_init 23 = .ok (.putfield 20, 3) := by decide +kernel
theorem dX5_init_26 : decode cX5_init 26 = .ok (.return_, 1) := by decide +kernel
theorem dX5_ofNothing_0 : decode cX5_ofNothing 0 = .ok (.new 8, 3) := by decide +kernel
theorem dX5_ofNothing_3 : decode cX5_ofNothing 3 = .ok (.dup, 1) := by decide +kernel
theorem dX5_ofNothing_4 : decode cX5_ofNothing 4 = .ok (.iconst 1, 1) := by decide +kernel
theorem dX5_ofNothing_5 : decode cX5_ofNothing 5 = .ok (.lconst 0, 1) := by decide +kernel
theorem dX5_ofNothing_6 : decode cX5_ofNothing 6 = .ok (.lconst 0, 1) := by decide +kernel
theorem dX5_ofNothing_7 : decode cX5_ofNothing 7 = .ok (.iconst 0, 1) := by decide +kernel
theorem dX5_ofNothing_8 : decode cX5_ofNothing 8 = .ok (.invokespecial 24, 3) := by decide +kernel
theorem dX5_ofNothing_11 : decode cX5_ofNothing 11 = .ok (.areturn, 1) := by decide +kernel
theorem dX6_init_0 : decode cX6_init 0 = .ok (.aload_n 0, 1) := by decide +kernel
theorem dX6_init_1 : decode cX6_init 1 = .ok (.invokespecial 3, 3) := by decide +kernel
theorem dX6_init_4 : decode cX6_init 4 = .ok (.aload_n 0, 1) := by decide +kernel
theorem dX6_init_5 : decode cX6_init 5 = .ok (.bipush 9, 2) := by decide +kernel
theorem dX6_init_7 : decode cX6_init 7 = .ok (.bipush 8, 2) := by decide +kernel
theorem dX6_init_9 : decode cX6_init 9 = .ok (.multianewarray 9 2, 4) := by decide +kernel
theorem dX6_init_13 : decode cX6_init 13 = .ok (.putfield 11, 3) := by decide +kernel
theorem dX6_init_16 : decode cX6_init 16 = .ok (.aload_n 0, 1) := by decide +kernel
theorem dX6_init_17 : decode cX6_init 17 = .ok (.bipush 9, 2) := by decide +kernel
theorem dX6_init_19 : decode cX6_init 19 = .ok (.bipush 64, 2) := by decide +kernel
theorem dX6_init_21 : decode cX6_init 21 = .ok (.multianewarray 9 2, 4) := by decide +kernel
theorem dX6_init_25 : decode cX6_init 25 = .ok (.putfield 16, 3) := by decide +kernel
theorem dX6_init_28 : decode cX6_init 28 = .ok (.aload_n 0, 1) := by decide +kernel
theorem dX6_init_29 : decode cX6_init 29 = .ok (.bipush 9, 2) := by decide +kernel
theorem dX6_init_31 : decode cX6_init 31 = .ok (.bipush 64, 2) := by decide +kernel
theorem dX6_init_33 : decode cX6_init 33 = .ok (.multianewarray 19 2, 4) := by decide +kernel
theorem dX6_init_37 : decode cX6_init 37 = .ok (.putfield 21, 3) := by decide +kernel
theorem dX6_init_40 : decode cX6_init 40 = .ok (.aload_n 0, 1) := by decide +kernel
theorem dX6_init_41 : decode cX6_init 41 = .ok (.bipush 8, 2) := by decide +kernel
theorem dX6_init_43 : decode cX6_init 43 = .ok (.newarray .long, 2) := by decide +kernel
theorem dX6_init_45 : decode cX6_init 45 = .ok (.putfield 24, 3) := by decide +kernel
theorem dX6_init_48 : decode cX6_init 48 = .ok (.aload_n 0, 1) := by decide +kernel
theorem dX6_init_49 : decode cX6_init 49 = .ok (.iconst 3, 1) := by decide +kernel
theorem dX6_init_50 : decode cX6_init 50 = .ok (.newarray .int, 2) := by decide +kernel
theorem dX6_init_52 : decode cX6_init 52 = .ok (.putfield 28, 3) := by decide +kernel
theorem dX6_init_55 : decode cX6_init 55 = .ok (.aload_n 0, 1) := by decide +kernel
theorem dX6_init_56 : decode cX6_init 56 = .ok (.aconst_null, 1) := by decide +kernel
theorem dX6_init_57 : decode cX6_init 57 = .ok (.putfield 32, 3) := by decide +kernel
theorem dX6_init_60 : decode cX6_init 60 = .ok (.aload_n 0, 1) := by decide +kernel
theorem dX6_init_61 : decode cX6_init 61 = .ok (.aconst_null, 1) := by decide +kernel
theorem dX6_init_62 : decode cX6_init 62 = .ok (.putfield 36, 3) := by decide +kernel
theorem dX6_init_65 : decode cX6_init 65 = .ok (.aload_n 0, 1) := by decide +kernel
theorem dX6_init_66 : decode cX6_init 66 = .ok (.iconst 0, 1) := by decide +kernel
theorem dX6_init_67 : decode cX6_init 67 = .ok (.putfield 40, 3) := by decide +kernel
theorem dX6_init_70 : decode cX6_init 70 = .ok (.return_, 1) := by decide +kernel
theorem dX7_init_0 : decode cX7_init 0 = .ok (.aload_n 0, 1) := by decide +kernel
theorem dX7_init_1 : decode cX7_init 1 = .ok (.invokespecial 3, 3) := by decide +kernel
theorem dX7_init_4 : decode cX7_init 4 = .ok (.aload_n 0, 1) := by decide +kernel
theorem dX7_init_5 : decode cX7_init 5 = .ok (.sipush 200, 3) := by decide +kernel
theorem dX7_init_8 : decode cX7_init 8 = .ok (.newarray .int, 2) := by decide +kernel
theorem dX7_init_10 : decode cX7_init 10 = .ok (.putfield 9, 3) := by decide +kernel
theorem dX7_init_13 : decode cX7_init 13 = .ok (.aload_n 0, 1) := by decide +kernel
theorem dX7_init_14 : decode cX7_init 14 = .ok (.iconst 0, 1) := by decide +kernel
theorem dX7_init_15 : decode cX7_init 15 = .ok (.putfield 15, 3) := by decide +kernel
theorem dX7_init_18 : decode cX7_init 18 = .ok (.aload_n 0, 1) := by decide +kernel
theorem dX7_init_19 : decode cX7_init 19 = .ok (.iconst 0, 1) := by decide +kernel
theorem dX7_init_20 : decode cX7_init 20 = .ok (.putfield 19, 3) := by decide +kernel
theorem dX7_init_23 : decode cX7_init 23 = .ok (.return_, 1) := by decide +kernel
theorem dX8_init_0 : decode cX8_init 0 = .ok (.aload_n 0, 1) := by decide +kernel
theorem dX8_init_1 : decode cX8_init 1 = .ok (.invokespecial 3, 3) := by decide +kernel
theorem dX8_init_4 : decode cX8_init 4 = .ok (.aload_n 0, 1) := by decide +kernel
theorem dX8_init_5 : decode cX8_init 5 = .ok (.bipush 8, 2) := by decide +kernel
theorem dX8_init_7 : decode cX8_init 7 = .ok (.newarray .int, 2) := by decide +kernel
theorem dX8_init_9 : decode cX8_init 9 = .ok (.putfield 9, 3) := by decide +kernel
theorem dX8_init_12 : decode cX8_init 12 = .ok (.aload_n 0, 1) := by decide +kernel
theorem dX8_init_13 : decode cX8_init 13 = .ok (.bipush 6, 2) := by decide +kernel
theorem dX8_init_15 : decode cX8_init 15 = .ok (.anewarray 15, 3) := by decide +kernel
theorem dX8_init_18 : decode cX8_init 18 = .ok (.putfield 17, 3) := by decide +kernel
theorem dX8_init_21 : decode cX8_init 21 = .ok (.aload_n 0, 1) := by decide +kernel
theorem dX8_init_22 : decode cX8_init 22 = .ok (.bipush 6, 2) := by decide +kernel
theorem dX8_init_24 : decode cX8_init 24 = .ok (.newarray .boolean, 2) := by decide +kernel
theorem dX8_init_26 : decode cX8_init 26 = .ok (.putfield 21, 3) := by decide +kernel
theorem dX8_init_29 : decode cX8_init 29 = .ok (.aload_n 0, 1) := by decide +kernel
theorem dX8_init_30 : decode cX8_init 30 = .ok (.iconst 3, 1) := by decide +kernel
theorem dX8_init_31 : decode cX8_init 31 = .ok (.newarray .int, 2) := by decide +kernel
theorem dX8_init_33 : decode cX8_init 33 = .ok (.putfield 25, 3) := by decide +kernel
theorem dX8_init_36 : decode cX8_init 36 = .ok (.aload_n 0, 1) := by decide +kernel
theorem dX8_init_37 : decode cX8_init 37 = .ok (.iconst 0, 1) := by decide +kernel
theorem dX8_init_38 : decode cX8_init 38 = .ok (.putfield 28, 3) := by decide +kernel
theorem dX8_init_41 : decode cX8_init 41 = .ok (.aload_n 0, 1) := by decide +kernel
theorem dX8_init_42 : decode cX8_init 42 = .ok (.aconst_null, 1) := by decide +kernel
theorem dX8_init_43 : decode cX8_init 43 = .ok (.putfield 32, 3) := by decide +kernel
theorem dX8_init_46 : decode cX8_init 46 = .ok (.iconst 0, 1) := by decide +kernel
theorem dX8_init_47 : decode cX8_init 47 = .ok (.istore_n 1, 1) := by decide +kernel
theorem dX8_init_48 : decode cX8_init 48 = .ok (.iload_n 1, 1) := by decide +kernel
theorem dX8_init_49 : decode cX8_init 49 = .ok (.bipush 6, 2) := by decide +kernel
theorem dX8_init_51 : decode cX8_init 51 = .ok (.if_icmp .ge 22, 3) := by decide +kernel
theorem dX8_init_54 : decode cX8_init 54 = .ok (.aload_n 0, 1) := by decide +kernel
theorem dX8_init_55 : decode cX8_init 55 = .ok (.getfield 17, 3) := by decide +kernel
theorem dX8_init_58 : decode cX8_init 58 = .ok (.iload_n 1, 1) := by decide +kernel
theorem dX8_init_59 : decode cX8_init 59 = .ok (.new 15, 3) := by decide +kernel
theorem dX8_init_62 : decode cX8_init 62 = .ok (.dup, 1) := by decide +kernel
theorem dX8_init_63 : decode cX8_init 63 = .ok (.invokespecial 36, 3) := by decide +kernel
theorem dX8_init_66 : decode cX8_init 66 = .ok (.aastore, 1) := by decide +kernel
theorem dX8_init_67 : decode cX8_init 67 = .ok (.iinc 1 1, 3) := by decide +kernel
theorem dX8_init_70 : decode cX8_init 70 = .ok (.goto (-22), 3) := by decide +kernel
theorem dX8_init_73 : decode cX8_init 73 = .ok (.iconst 0, 1) := by decide +kernel
theorem dX8_init_74 : decode cX8_init 74 = .ok (.istore_n 1, 1) := by decide +kernel
theorem dX8_init_75 : decode cX8_init 75 = .ok (.iload_n 1, 1) := by decide +kernel
theorem dX8_init_76 : decode cX8_init 76 = .ok (.iconst 3, 1) := by decide +kernel
theorem dX8_init_77 : decode cX8_init 77 = .ok (.if_icmp .ge 16, 3) := by decide +kernel
theorem dX8_init_80 : decode cX8_init 80 = .ok (.aload_n 0, 1) := by decide +kernel
theorem dX8_init_81 : decode cX8_init 81 = .ok (.getfield 25, 3) := by decide +kernel
theorem dX8_init_84 : decode cX8_init 84 = .ok (.iload_n 1, 1) := by decide +kernel
theorem dX8_init_85 : decode cX8_init 85 = .ok (.iconst 1, 1) := by decide +kernel
theorem dX8_init_86 : decode cX8_init 86 = .ok (.iastore, 1) := by decide +kernel
theorem dX8_init_87 : decode cX8_init 87 = .ok (.iinc 1 1, 3) := by decide +kernel
theorem dX8_init_90 : decode cX8_init 90 = .ok (.goto (-15), 3) := by decide +kernel
theorem dX8_init_93 : decode cX8_init 93 = .ok (.return_, 1) := by decide +kernel
theorem dX8_copyFrom_0 : decode cX8_copyFrom 0 = .ok (.aload_n 1, 1) := by decide +kernel
theorem dX8_copyFrom_1 : decode cX8_copyFrom 1 = .ok (.getfield 9, 3) := by decide +kernel
theorem dX8_copyFrom_4 : decode cX8_copyFrom 4 = .ok (.iconst 0, 1) := by decide +kernel
theorem dX8_copyFrom_5 : decode cX8_copyFrom 5 = .ok (.aload_n 0, 1) := by decide +kernel
theorem dX8_copyFrom_6 : decode cX8_copyFrom 6 = .ok (.getfield 9, 3) := by decide +kernel
theorem dX8_copyFrom_9 : decode cX8_copyFrom 9 = .ok (.iconst 0, 1) := by decide +kernel
theorem dX8_copyFrom_10 : decode cX8_copyFrom 10 = .ok (.bipush 8, 2) := by decide +kernel
theorem dX8_copyFrom_12 : decode cX8_copyFrom 12 = .ok (.invokestatic 37, 3) := by decide +kernel
theorem dX8_copyFrom_15 : decode cX8_copyFrom 15 = .ok (.aload_n 1, 1) := by decide +kernel
theorem dX8_copyFrom_16 : decode cX8_copyFrom 16 = .ok (.getfield 25, 3) := by decide +kernel
theorem dX8_copyFrom_19 : decode cX8_copyFrom 19 = .ok (.iconst 0, 1) := by decide +kernel
theorem dX8_copyFrom_20 : decode cX8_copyFrom 20 = .ok (.aload_n 0, 1) := by decide +kernel
theorem dX8_copyFrom_21 : decode cX8_copyFrom 21 = .ok (.getfield 25, 3) := by decide +kernel
theorem dX8_copyFrom_24 : decode cX8_copyFrom 24 = .ok (.iconst 0, 1) := by decide +kernel
theorem dX8_copyFrom_25 : decode cX8_copyFrom 25 = .ok (.iconst 3, 1) := by decide +kernel
theorem dX8_copyFrom_26 : decode cX8_copyFrom 26 = .ok (.invokestatic 37, 3) := by decide +kernel
theorem dX8_copyFrom_29 : decode cX8_copyFrom 29 = .ok (.aload_n 0, 1) := by decide +kernel
theorem dX8_copyFrom_30 : decode cX8_copyFrom 30 = .ok (.aload_n 1, 1) := by decide +kernel
theorem dX8_copyFrom_31 : decode cX8_copyFrom 31 = .ok (.getfield 28, 3) := by decide +kernel
theorem dX8_copyFrom_34 : decode cX8_copyFrom 34 = .ok (.putfield 28, 3) := by decide +kernel
theorem dX8_copyFrom_37 : decode cX8_copyFrom 37 = .ok (.aload_n 0, 1) := by decide +kernel
theorem dX8_copyFrom_38 : decode cX8_copyFrom 38 = .ok (.aload_n 1, 1) := by decide +kernel
theorem dX8_copyFrom_39 : decode cX8_copyFrom 39 = .ok (.getfield 32, 3) := by decide +kernel
theorem dX8_copyFrom_42 : decode cX8_copyFrom 42 = .ok (.putfield 32, 3) := by decide +kernel
theorem dX8_copyFrom_45 : decode cX8_copyFrom 45 = .ok (.iconst 0, 1) := by decide +kernel
theorem dX8_copyFrom_46 : decode cX8_copyFrom 46 = .ok (.istore_n 2, 1) := by decide +kernel
theorem dX8_copyFrom_47 : decode cX8_copyFrom 47 = .ok (.iload_n 2, 1) := by decide +kernel
theorem dX8_copyFrom_48 : decode cX8_copyFrom 48 = .ok (.bipush 6, 2) := by decide +kernel
theorem dX8_copyFrom_50 : decode cX8_copyFrom 50 = .ok (.if_icmp .ge 45, 3) := by decide +kernel
theorem dX8_copyFrom_53 : decode cX8_copyFrom 53 = .ok (.aload_n 0, 1) := by decide +kernel
theorem dX8_copyFrom_54 : decode cX8_copyFrom 54 = .ok (.getfield 21, 3) := by decide +kernel
theorem dX8_copyFrom_57 : decode cX8_copyFrom 57 = .ok (.iload_n 2, 1) := by decide +kernel
theorem dX8_copyFrom_58 : decode cX8_copyFrom 58 = .ok (.aload_n 1, 1) := by decide +kernel
theorem dX8_copyFrom_59 : decode cX8_copyFrom 59 = .ok (.getfield 21, 3) := by decide +kernel
theorem dX8_copyFrom_62 : decode cX8_copyFrom 62 = .ok (.iload_n 2, 1) := by decide +kernel
theorem dX8_copyFrom_63 : decode cX8_copyFrom 63 = .ok (.baload, 1) := by decide +kernel
theorem dX8_copyFrom_64 : decode cX8_copyFrom 64 = .ok (.bastore, 1) := by decide +kernel
theorem dX8_copyFrom_65 : decode cX8_copyFrom 65 = .ok (.aload_n 0, 1) := by decide +kernel
theorem dX8_copyFrom_66 : decode cX8_copyFrom 66 = .ok (.getfield 21, 3) := by decide +kernel
theorem dX8_copyFrom_69 : decode cX8_copyFrom 69 = .ok (.iload_n 2, 1) := by decide +kernel
theorem dX8_copyFrom_70 : decode cX8_copyFrom 70 = .ok (.baload, 1) := by decide +kernel
theorem dX8_copyFrom_71 : decode cX8_copyFrom 71 = .ok (.ifCond .eq 18, 3) := by decide +kernel
theorem dX8_copyFrom_89 : decode cX8_copyFrom 89 = .ok (.iinc 2 1, 3) := by decide +kernel
theorem dX8_copyFrom_92 : decode cX8_copyFrom 92 = .ok (.goto (-45), 3) := by decide +kernel
theorem dX8_copyFrom_95 : decode cX8_copyFrom 95 = .ok (.return_, 1) := by decide +kernel
theorem dX8_countTables_0 : decode cX8_countTables 0 = .ok (.iconst 0, 1) := by decide +kernel
theorem dX8_countTables_1 : decode cX8_countTables 1 = .ok (.istore_n 1, 1) := by decide +kernel
theorem dX8_countTables_2 : decode cX8_countTables 2 = .ok (.iconst 0, 1) := by decide +kernel
theorem dX8_countTables_3 : decode cX8_countTables 3 = .ok (.istore_n 2, 1) := by decide +kernel
theorem dX8_countTables_4 : decode cX8_countTables 4 = .ok (.iload_n 2, 1) := by decide +kernel
theorem dX8_countTables_5 : decode cX8_countTables 5 = .ok (.bipush 6, 2) := by decide +kernel
theorem dX8_countTables_7 : decode cX8_countTables 7 = .ok (.if_icmp .ge 21, 3) := by decide +kernel
theorem dX8_countTables_10 : decode cX8_countTables 10 = .ok (.aload_n 0, 1) := by decide +kernel
theorem dX8_countTables_11 : decode cX8_countTables 11 = .ok (.getfield 21, 3) := by decide +kernel
theorem dX8_countTables_14 : decode cX8_countTables 14 = .ok (.iload_n 2, 1) := by decide +kernel
theorem dX8_countTables_15 : decode cX8_countTables 15 = .ok (.baload, 1) := by decide +kernel
theorem dX8_countTables_16 : decode cX8_countTables 16 = .ok (.ifCond .eq 6, 3) := by decide +kernel
theorem dX8_countTables_22 : decode cX8_countTables 22 = .ok (.iinc 2 1, 3) := by decide +kernel
theorem dX8_countTables_25 : decode cX8_countTables 25 = .ok (.goto (-21), 3) := by decide +kernel
theorem dX8_countTables_28 : decode cX8_countTables 28 = .ok (.iload_n 1, 1) := by decide +kernel
theorem dX8_countTables_29 : decode cX8_countTables 29 = .ok (.ireturn, 1) := by decide +kernel
theorem dX9_isVariable_0 : decode cX9_isVariable 0 = .ok (.iload_n 0, 1) := by decide +kernel
theorem dX9_isVariable_1 : decode cX9_isVariable 1 = .ok (.bipush 88, 2) := by decide +kernel
theorem dX9_isVariable_3 : decode cX9_isVariable 3 = .ok (.if_icmp .lt 13, 3) := by decide +kernel
theorem dX9_isVariable_6 : decode cX9_isVariable 6 = .ok (.iload_n 0, 1) := by decide +kernel
theorem dX9_isVariable_7 : decode cX9_isVariable 7 = .ok (.bipush 90, 2) := by decide +kernel
theorem dX9_isVariable_9 : decode cX9_isVariable 9 = .ok (.if_icmp .gt 7, 3) := by decide +kernel
theorem dX9_isVariable_12 : decode cX9_isVariable 12 = .ok (.iconst 1, 1) := by decide +kernel
theorem dX9_isVariable_13 : decode cX9_isVariable 13 = .ok (.goto 4, 3) := by decide +kernel
theorem dX9_isVariable_16 : decode cX9_isVariable 16 = .ok (.iconst 0, 1) := by decide +kernel
theorem dX9_isVariable_17 : decode cX9_isVariable 17 = .ok (.ireturn, 1) := by decide +kernel
theorem dX9_firstFault_0 : decode cX9_firstFault 0 = .ok (.bipush 6, 2) := by decide +kernel
theorem dX9_firstFault_2 : decode cX9_firstFault 2 = .ok (.newarray .int, 2) := by decide +kernel
theorem dX9_firstFault_4 : decode cX9_firstFault 4 = .ok (.astore_n 2, 1) := by decide +kernel
theorem dX9_firstFault_5 : decode cX9_firstFault 5 = .ok (.iconst 0, 1) := by decide +kernel
theorem dX9_firstFault_6 : decode cX9_firstFault 6 = .ok (.istore_n 3, 1) := by decide +kernel
theorem dX9_firstFault_7 : decode cX9_firstFault 7 = .ok (.iconst (-1), 1) := by decide +kernel
theorem dX9_firstFault_8 : decode cX9_firstFault 8 = .ok (.istore 4, 2) := by decide +kernel
theorem dX9_firstFault_10 : decode cX9_firstFault 10 = .ok (.iconst 0, 1) := by decide +kernel
theorem dX9_firstFault_11 : decode cX9_firstFault 11 = .ok (.istore 5, 2) := by decide +kernel
theorem dX9_firstFault_13 : decode cX9_firstFault 13 = .ok (.iload 5, 2) := by decide +kernel
theorem dX9_firstFault_15 : decode cX9_firstFault 15 = .ok (.iload_n 1, 1) := by decide +kernel
theorem dX9_firstFault_16 : decode cX9_firstFault 16 = .ok (.if_icmp .ge 119, 3) := by decide +kernel
theorem dX9_firstFault_135 : decode cX9_firstFault 135 = .ok (.iload_n 3, 1) := by decide +kernel
theorem dX9_firstFault_136 : decode cX9_firstFault 136 = .ok (.ifCond .gt 11, 3) := by decide +kernel
theorem dX9_firstFault_139 : decode cX9_firstFault 139 = .ok (.iload 4, 2) := by decide +kernel
theorem dX9_firstFault_141 : decode cX9_firstFault 141 = .ok (.invokestatic 19, 3) := by decide +kernel
theorem dX9_firstFault_144 : decode cX9_firstFault 144 = .ok (.ifCond .eq 7, 3) := by decide +kernel
theorem dX9_firstFault_151 : decode cX9_firstFault 151 = .ok (.iconst (-1), 1) := by decide +kernel
theorem dX9_firstFault_152 : decode cX9_firstFault 152 = .ok (.ireturn, 1) := by decide +kernel
theorem dX10_init_0 : decode cX10_init 0 = .ok (.aload_n 0, 1) := by decide +kernel
theorem dX10_init_1 : decode cX10_init 1 = .ok (.invokespecial 3, 3) := by decide +kernel
theorem dX10_init_4 : decode cX10_init 4 = .ok (.aload_n 0, 1) := by decide +kernel
theorem dX10_init_5 : decode cX10_init 5 = .ok (.new 9, 3) := by decide +kernel
theorem dX10_init_8 : decode cX10_init 8 = .ok (.dup, 1) := by decide +kernel
theorem dX10_init_9 : decode cX10_init 9 = .ok (.invokespecial 11, 3) := by decide +kernel
theorem dX10_init_12 : decode cX10_init 12 = .ok (.putfield 12, 3) := by decide +kernel
theorem dX10_init_15 : decode cX10_init 15 = .ok (.aload_n 0, 1) := by decide +kernel
theorem dX10_init_16 : decode cX10_init 16 = .ok (.new 9, 3) := by decide +kernel
theorem dX10_init_19 : decode cX10_init 19 = .ok (.dup, 1) := by decide +kernel
theorem dX10_init_20 : decode cX10_init 20 = .ok (.invokespecial 11, 3) := by decide +kernel
theorem dX10_init_23 : decode cX10_init 23 = .ok (.putfield 16, 3) := by decide +kernel
theorem dX10_init_26 : decode cX10_init 26 = .ok (.aload_n 0, 1) := by decide +kernel
theorem dX10_init_27 : decode cX10_init 27 = .ok (.iconst 0, 1) := by decide +kernel
theorem dX10_init_28 : decode cX10_init 28 = .ok (.putfield 19, 3) := by decide +kernel
theorem dX10_init_31 : decode cX10_init 31 = .ok (.aload_n 0, 1) := by decide +kernel
theorem dX10_init_32 : decode cX10_init 32 = .ok (.bipush 40, 2) := by decide +kernel
theorem dX10_init_34 : decode cX10_init 34 = .ok (.newarray .int, 2) := by decide +kernel
theorem dX10_init_36 : decode cX10_init 36 = .ok (.putfield 23, 3) := by decide +kernel
theorem dX10_init_39 : decode cX10_init 39 = .ok (.aload_n 0, 1) := by decide +kernel
theorem dX10_init_40 : decode cX10_init 40 = .ok (.iconst 0, 1) := by decide +kernel
theorem dX10_init_41 : decode cX10_init 41 = .ok (.putfield 27, 3) := by decide +kernel
theorem dX10_init_44 : decode cX10_init 44 = .ok (.aload_n 0, 1) := by decide +kernel
theorem dX10_init_45 : decode cX10_init 45 = .ok (.iconst (-1), 1) := by decide +kernel
theorem dX10_init_46 : decode cX10_init 46 = .ok (.putfield 31, 3) := by decide +kernel
theorem dX10_init_49 : decode cX10_init 49 = .ok (.aload_n 0, 1) := by decide +kernel
theorem dX10_init_50 : decode cX10_init 50 = .ok (.iconst (-1), 1) := by decide +kernel
theorem dX10_init_51 : decode cX10_init 51 = .ok (.putfield 34, 3) := by decide +kernel
theorem dX10_init_54 : decode cX10_init 54 = .ok (.aload_n 0, 1) := by decide +kernel
theorem dX10_init_55 : decode cX10_init 55 = .ok (.iconst 0, 1) := by decide +kernel
theorem dX10_init_56 : decode cX10_init 56 = .ok (.putfield 37, 3) := by decide +kernel
theorem dX10_init_59 : decode cX10_init 59 = .ok (.aload_n 0, 1) := by decide +kernel
theorem dX10_init_60 : decode cX10_init 60 = .ok (.new 40, 3) := by decide +kernel
theorem dX10_init_63 : decode cX10_init 63 = .ok (.dup, 1) := by decide +kernel
theorem dX10_init_64 : decode cX10_init 64 = .ok (.invokespecial 42, 3) := by decide +kernel
theorem dX10_init_67 : decode cX10_init 67 = .ok (.putfield 43, 3) := by decide +kernel
theorem dX10_init_70 : decode cX10_init 70 = .ok (.aload_n 0, 1) := by decide +kernel
theorem dX10_init_71 : decode cX10_init 71 = .ok (.new 47, 3) := by decide +kernel
theorem dX10_init_74 : decode cX10_init 74 = .ok (.dup, 1) := by decide +kernel
theorem dX10_init_75 : decode cX10_init 75 = .ok (.invokespecial 49, 3) := by decide +kernel
theorem dX10_init_78 : decode cX10_init 78 = .ok (.putfield 50, 3) := by decide +kernel
theorem dX10_init_81 : decode cX10_init 81 = .ok (.aload_n 0, 1) := by decide +kernel
theorem dX10_init_82 : decode cX10_init 82 = .ok (.new 54, 3) := by decide +kernel
theorem dX10_init_85 : decode cX10_init 85 = .ok (.dup, 1) := by decide +kernel
theorem dX10_init_86 : decode cX10_init 86 = .ok (.invokespecial 56, 3) := by decide +kernel
theorem dX10_init_89 : decode cX10_init 89 = .ok (.putfield 57, 3) := by decide +kernel
theorem dX10_init_92 : decode cX10_init 92 = .ok (.aload_n 0, 1) := by decide +kernel
theorem dX10_init_93 : decode cX10_init 93 = .ok (.new 54, 3) := by decide +kernel
theorem dX10_init_96 : decode cX10_init 96 = .ok (.dup, 1) := by decide +kernel
theorem dX10_init_97 : decode cX10_init 97 = .ok (.invokespecial 56, 3) := by decide +kernel
theorem dX10_init_100 : decode cX10_init 100 = .ok (.putfield 61, 3) := by decide +kernel
theorem dX10_init_103 : decode cX10_init 103 = .ok (.aload_n 0, 1) := by decide +kernel
theorem dX10_init_104 : decode cX10_init 104 = .ok (.sipush 200, 3) := by decide +kernel
theorem dX10_init_107 : decode cX10_init 107 = .ok (.newarray .int, 2) := by decide +kernel
theorem dX10_init_109 : decode cX10_init 109 = .ok (.putfield 64, 3) := by decide +kernel
theorem dX10_init_112 : decode cX10_init 112 = .ok (.aload_n 0, 1) := by decide +kernel
theorem dX10_init_113 : decode cX10_init 113 = .ok (.new 47, 3) := by decide +kernel
theorem dX10_init_116 : decode cX10_init 116 = .ok (.dup, 1) := by decide +kernel
theorem dX10_init_117 : decode cX10_init 117 = .ok (.invokespecial 49, 3) := by decide +kernel
theorem dX10_init_120 : decode cX10_init 120 = .ok (.putfield 67, 3) := by decide +kernel
theorem dX10_init_123 : decode cX10_init 123 = .ok (.return_, 1) := by decide +kernel
theorem dX10_appendLetter_0 : decode cX10_appendLetter 0 = .ok (.iload_n 1, 1) := by decide +kernel
theorem dX10_appendLetter_1 : decode cX10_appendLetter 1 = .ok (.bipush 97, 2) := by decide +kernel
theorem dX10_appendLetter_3 : decode cX10_appendLetter 3 = .ok (.if_icmp .lt 9, 3) := by decide +kernel
theorem dX10_appendLetter_6 : decode cX10_appendLetter 6 = .ok (.iload_n 1, 1) := by decide +kernel
theorem dX10_appendLetter_7 : decode cX10_appendLetter 7 = .ok (.bipush 122, 2) := by decide +kernel
theorem dX10_appendLetter_9 : decode cX10_appendLetter 9 = .ok (.if_icmp .le 13, 3) := by decide +kernel
theorem dX10_appendLetter_12 : decode cX10_appendLetter 12 = .ok (.new 70, 3) := by decide +kernel
theorem dX10_appendLetter_15 : decode cX10_appendLetter 15 = .ok (.dup, 1) := by decide +kernel
theorem dX10_appendLetter_16 : decode cX10_appendLetter 16 = .ok (.ldc 72, 2) := by decide +kernel
theorem dX10_appendLetter_18 : decode cX10_appendLetter 18 = .ok (.invokespecial 74, 3) := by decide +kernel
theorem dX10_appendLetter_21 : decode cX10_appendLetter 21 = .ok (.athrow, 1) := by decide +kernel
theorem dX10_appendLetter_22 : decode cX10_appendLetter 22 = .ok (.aload_n 0, 1) := by decide +kernel
theorem dX10_appendLetter_23 : decode cX10_appendLetter 23 = .ok (.getfield 12, 3) := by decide +kernel
theorem dX10_appendLetter_26 : decode cX10_appendLetter 26 = .ok (.getfield 77, 3) := by decide +kernel
theorem dX10_appendLetter_29 : decode cX10_appendLetter 29 = .ok (.bipush 8, 2) := by decide +kernel
theorem dX10_appendLetter_31 : decode cX10_appendLetter 31 = .ok (.if_icmp .lt 13, 3) := by decide +kernel
theorem dX10_appendLetter_44 : decode cX10_appendLetter 44 = .ok (.aload_n 0, 1) := by decide +kernel
theorem dX10_appendLetter_45 : decode cX10_appendLetter 45 = .ok (.getfield 12, 3) := by decide +kernel
theorem dX10_appendLetter_48 : decode cX10_appendLetter 48 = .ok (.getfield 85, 3) := by decide +kernel
theorem dX10_appendLetter_51 : decode cX10_appendLetter 51 = .ok (.aload_n 0, 1) := by decide +kernel
theorem dX10_appendLetter_52 : decode cX10_appendLetter 52 = .ok (.getfield 12, 3) := by decide +kernel
theorem dX10_appendLetter_55 : decode cX10_appendLetter 55 = .ok (.getfield 77, 3) := by decide +kernel
theorem dX10_appendLetter_58 : decode cX10_appendLetter 58 = .ok (.iload_n 1, 1) := by decide +kernel
theorem dX10_appendLetter_59 : decode cX10_appendLetter 59 = .ok (.iastore, 1) := by decide +kernel
theorem dX10_appendLetter_60 : decode cX10_appendLetter 60 = .ok (.aload_n 0, 1) := by decide +kernel
theorem dX10_appendLetter_61 : decode cX10_appendLetter 61 = .ok (.getfield 12, 3) := by decide +kernel
theorem dX10_appendLetter_64 : decode cX10_appendLetter 64 = .ok (.dup, 1) := by decide +kernel
theorem dX10_appendLetter_65 : decode cX10_appendLetter 65 = .ok (.getfield 77, 3) := by decide +kernel
theorem dX10_appendLetter_68 : decode cX10_appendLetter 68 = .ok (.iconst 1, 1) := by decide +kernel
theorem dX10_appendLetter_69 : decode cX10_appendLetter 69 = .ok (.iadd, 1) := by decide +kernel
theorem dX10_appendLetter_70 : decode cX10_appendLetter 70 = .ok (.putfield 77, 3) := by decide +kernel
theorem dX10_appendLetter_73 : decode cX10_appendLetter 73 = .ok (.aload_n 0, 1) := by decide +kernel
theorem dX10_appendLetter_74 : decode cX10_appendLetter 74 = .ok (.invokevirtual 88, 3) := by decide +kernel
theorem dX10_appendLetter_77 : decode cX10_appendLetter 77 = .ok (.aload_n 0, 1) := by decide +kernel
theorem dX10_appendLetter_78 : decode cX10_appendLetter 78 = .ok (.getfield 12, 3) := by decide +kernel
theorem dX10_appendLetter_81 : decode cX10_appendLetter 81 = .ok (.getfield 77, 3) := by decide +kernel
theorem dX10_appendLetter_84 : decode cX10_appendLetter 84 = .ok (.ireturn, 1) := by decide +kernel
theorem dX10_clearDocument_0 : decode cX10_clearDocument 0 = .ok (.aload_n 0, 1) := by decide +kernel
theorem dX10_clearDocument_1 : decode cX10_clearDocument 1 = .ok (.getfield 12, 3) := by decide +kernel
theorem dX10_clearDocument_4 : decode cX10_clearDocument 4 = .ok (.getfield 77, 3) := by decide +kernel
theorem dX10_clearDocument_7 : decode cX10_clearDocument 7 = .ok (.istore_n 1, 1) := by decide +kernel
theorem dX10_clearDocument_8 : decode cX10_clearDocument 8 = .ok (.aload_n 0, 1) := by decide +kernel
theorem dX10_clearDocument_9 : decode cX10_clearDocument 9 = .ok (.getfield 12, 3) := by decide +kernel
theorem dX10_clearDocument_12 : decode cX10_clearDocument 12 = .ok (.iconst 0, 1) := by decide +kernel
theorem dX10_clearDocument_13 : decode cX10_clearDocument 13 = .ok (.putfield 77, 3) := by decide +kernel
theorem dX10_clearDocument_16 : decode cX10_clearDocument 16 = .ok (.aload_n 0, 1) := by decide +kernel
theorem dX10_clearDocument_17 : decode cX10_clearDocument 17 = .ok (.invokevirtual 88, 3) := by decide +kernel
theorem dX10_clearDocument_20 : decode cX10_clearDocument 20 = .ok (.iload_n 1, 1) := by decide +kernel
theorem dX10_clearDocument_21 : decode cX10_clearDocument 21 = .ok (.ireturn, 1) := by decide +kernel
theorem dX10_letter_0 : decode cX10_letter 0 = .ok (.iload_n 1, 1) := by decide +kernel
theorem dX10_letter_1 : decode cX10_letter 1 = .ok (.ifCond .lt 14, 3) := by decide +kernel
theorem dX10_letter_4 : decode cX10_letter 4 = .ok (.iload_n 1, 1) := by decide +kernel
theorem dX10_letter_5 : decode cX10_letter 5 = .ok (.aload_n 0, 1) := by decide +kernel
theorem dX10_letter_6 : decode cX10_letter 6 = .ok (.getfield 12, 3) := by decide +kernel
theorem dX10_letter_9 : decode cX10_letter 9 = .ok (.getfield 77, 3) := by decide +kernel
theorem dX10_letter_12 : decode cX10_letter 12 = .ok (.if_icmp .lt 13, 3) := by decide +kernel
theorem dX10_letter_15 : decode cX10_letter 15 = .ok (.new 91, 3) := by decide +kernel
theorem dX10_letter_18 : decode cX10_letter 18 = .ok (.dup, 1) := by decide +kernel
theorem dX10_letter_19 : decode cX10_letter 19 = .ok (.ldc 93, 2) := by decide +kernel
theorem dX10_letter_21 : decode cX10_letter 21 = .ok (.invokespecial 95, 3) := by decide +kernel
theorem dX10_letter_24 : decode cX10_letter 24 = .ok (.athrow, 1) := by decide +kernel
theorem dX10_emptyAllSlots_0 : decode cX10_emptyAllSlots 0 = .ok (.iconst 0, 1) := by decide +kernel
theorem dX10_emptyAllSlots_1 : decode cX10_emptyAllSlots 1 = .ok (.istore_n 1, 1) := by decide +kernel
theorem dX10_emptyAllSlots_2 : decode cX10_emptyAllSlots 2 = .ok (.iload_n 1, 1) := by decide +kernel
theorem dX10_emptyAllSlots_3 : decode cX10_emptyAllSlots 3 = .ok (.bipush 6, 2) := by decide +kernel
theorem dX10_emptyAllSlots_5 : decode cX10_emptyAllSlots 5 = .ok (.if_icmp .ge 19, 3) := by decide +kernel
theorem dX10_emptyAllSlots_8 : decode cX10_emptyAllSlots 8 = .ok (.aload_n 0, 1) := by decide +kernel
theorem dX10_emptyAllSlots_9 : decode cX10_emptyAllSlots 9 = .ok (.getfield 12, 3) := by decide +kernel
theorem dX10_emptyAllSlots_12 : decode cX10_emptyAllSlots 12 = .ok (.getfield 96, 3) := by decide +kernel
theorem dX10_emptyAllSlots_15 : decode cX10_emptyAllSlots 15 = .ok (.iload_n 1, 1) := by decide +kernel
theorem dX10_emptyAllSlots_16 : decode cX10_emptyAllSlots 16 = .ok (.iconst 0, 1) := by decide +kernel
theorem dX10_emptyAllSlots_17 : decode cX10_emptyAllSlots 17 = .ok (.bastore, 1) := by decide +kernel
theorem dX10_emptyAllSlots_18 : decode cX10_emptyAllSlots 18 = .ok (.iinc 1 1, 3) := by decide +kernel
theorem dX10_emptyAllSlots_21 : decode cX10_emptyAllSlots 21 = .ok (.goto (-19), 3) := by decide +kernel
theorem dX10_emptyAllSlots_24 : decode cX10_emptyAllSlots 24 = .ok (.aload_n 0, 1) := by decide +kernel
theorem dX10_emptyAllSlots_25 : decode cX10_emptyAllSlots 25 = .ok (.iconst (-1), 1) := by decide +kernel
theorem dX10_emptyAllSlots_26 : decode cX10_emptyAllSlots 26 = .ok (.putfield 34, 3) := by decide +kernel
theorem dX10_emptyAllSlots_29 : decode cX10_emptyAllSlots 29 = .ok (.return_, 1) := by decide +kernel
theorem dX10_appendCharacter_0 : decode cX10_appendCharacter 0 = .ok (.iload_n 1, 1) := by decide +kernel
theorem dX10_appendCharacter_1 : decode cX10_appendCharacter 1 = .ok (.bipush 33, 2) := by decide +kernel
theorem dX10_appendCharacter_3 : decode cX10_appendCharacter 3 = .ok (.if_icmp .lt 9, 3) := by decide +kernel
theorem dX10_appendCharacter_6 : decode cX10_appendCharacter 6 = .ok (.iload_n 1, 1) := by decide +kernel
theorem dX10_appendCharacter_7 : decode cX10_appendCharacter 7 = .ok (.bipush 126, 2) := by decide +kernel
theorem dX10_appendCharacter_9 : decode cX10_appendCharacter 9 = .ok (.if_icmp .le 13, 3) := by decide +kernel
theorem dX10_appendCharacter_12 : decode cX10_appendCharacter 12 = .ok (.new 70, 3) := by decide +kernel
theorem dX10_appendCharacter_15 : decode cX10_appendCharacter 15 = .ok (.dup, 1) := by decide +kernel
theorem dX10_appendCharacter_16 : decode cX10_appendCharacter 16 = .ok (.ldc 100, 2) := by decide +kernel
theorem dX10_appendCharacter_18 : decode cX10_appendCharacter 18 = .ok (.invokespecial 74, 3) := by decide +kernel
theorem dX10_appendCharacter_21 : decode cX10_appendCharacter 21 = .ok (.athrow, 1) := by decide +kernel
theorem dX10_appendCharacter_22 : decode cX10_appendCharacter 22 = .ok (.aload_n 0, 1) := by decide +kernel
theorem dX10_appendCharacter_23 : decode cX10_appendCharacter 23 = .ok (.getfield 27, 3) := by decide +kernel
theorem dX10_appendCharacter_26 : decode cX10_appendCharacter 26 = .ok (.bipush 40, 2) := by decide +kernel
theorem dX10_appendCharacter_28 : decode cX10_appendCharacter 28 = .ok (.if_icmp .lt 13, 3) := by decide +kernel
theorem dX10_appendCharacter_41 : decode cX10_appendCharacter 41 = .ok (.aload_n 0, 1) := by decide +kernel
theorem dX10_appendCharacter_42 : decode cX10_appendCharacter 42 = .ok (.getfield 23, 3) := by decide +kernel
theorem dX10_appendCharacter_45 : decode cX10_appendCharacter 45 = .ok (.aload_n 0, 1) := by decide +kernel
theorem dX10_appendCharacter_46 : decode cX10_appendCharacter 46 = .ok (.getfield 27, 3) := by decide +kernel
theorem dX10_appendCharacter_49 : decode cX10_appendCharacter 49 = .ok (.iload_n 1, 1) := by decide +kernel
theorem dX10_appendCharacter_50 : decode cX10_appendCharacter 50 = .ok (.iastore, 1) := by decide +kernel
theorem dX10_appendCharacter_51 : decode cX10_appendCharacter 51 = .ok (.aload_n 0, 1) := by decide +kernel
theorem dX10_appendCharacter_52 : decode cX10_appendCharacter 52 = .ok (.dup, 1) := by decide +kernel
theorem dX10_appendCharacter_53 : decode cX10_appendCharacter 53 = .ok (.getfield 27, 3) := by decide +kernel
theorem dX10_appendCharacter_56 : decode cX10_appendCharacter 56 = .ok (.iconst 1, 1) := by decide +kernel
theorem dX10_appendCharacter_57 : decode cX10_appendCharacter 57 = .ok (.iadd, 1) := by decide +kernel
theorem dX10_appendCharacter_58 : decode cX10_appendCharacter 58 = .ok (.putfield 27, 3) := by decide +kernel
theorem dX10_appendCharacter_61 : decode cX10_appendCharacter 61 = .ok (.aload_n 0, 1) := by decide +kernel
theorem dX10_appendCharacter_62 : decode cX10_appendCharacter 62 = .ok (.getfield 27, 3) := by decide +kernel
theorem dX10_appendCharacter_65 : decode cX10_appendCharacter 65 = .ok (.ireturn, 1) := by decide +kernel
theorem dX10_parse_0 : decode cX10_parse 0 = .ok (.aload_n 0, 1) := by decide +kernel
theorem dX10_parse_1 : decode cX10_parse 1 = .ok (.getfield 27, 3) := by decide +kernel
theorem dX10_parse_4 : decode cX10_parse 4 = .ok (.istore_n 1, 1) := by decide +kernel
theorem dX10_parse_5 : decode cX10_parse 5 = .ok (.aload_n 0, 1) := by decide +kernel
theorem dX10_parse_6 : decode cX10_parse 6 = .ok (.iconst 0, 1) := by decide +kernel
theorem dX10_parse_7 : decode cX10_parse 7 = .ok (.putfield 27, 3) := by decide +kernel
theorem dX10_parse_10 : decode cX10_parse 10 = .ok (.aload_n 0, 1) := by decide +kernel
theorem dX10_parse_11 : decode cX10_parse 11 = .ok (.aload_n 0, 1) := by decide +kernel
theorem dX10_parse_12 : decode cX10_parse 12 = .ok (.getfield 23, 3) := by decide +kernel
theorem dX10_parse_15 : decode cX10_parse 15 = .ok (.iload_n 1, 1) := by decide +kernel
theorem dX10_parse_16 : decode cX10_parse 16 = .ok (.invokestatic 104, 3) := by decide +kernel
theorem dX10_parse_19 : decode cX10_parse 19 = .ok (.putfield 31, 3) := by decide +kernel
theorem dX10_parse_22 : decode cX10_parse 22 = .ok (.aload_n 0, 1) := by decide +kernel
theorem dX10_parse_23 : decode cX10_parse 23 = .ok (.getfield 31, 3) := by decide +kernel
theorem dX10_parse_26 : decode cX10_parse 26 = .ok (.iconst (-1), 1) := by decide +kernel
theorem dX10_parse_27 : decode cX10_parse 27 = .ok (.if_icmp .eq 13, 3) := by decide +kernel
theorem dX10_parse_40 : decode cX10_parse 40 = .ok (.aload_n 0, 1) := by decide +kernel
theorem dX10_parse_41 : decode cX10_parse 41 = .ok (.getfield 12, 3) := by decide +kernel
theorem dX10_parse_44 : decode cX10_parse 44 = .ok (.new 112, 3) := by decide +kernel
theorem dX10_parse_47 : decode cX10_parse 47 = .ok (.dup, 1) := by decide +kernel
theorem dX10_parse_48 : decode cX10_parse 48 = .ok (.aload_n 0, 1) := by decide +kernel
theorem dX10_parse_49 : decode cX10_parse 49 = .ok (.getfield 23, 3) := by decide +kernel
theorem dX10_parse_52 : decode cX10_parse 52 = .ok (.iload_n 1, 1) := by decide +kernel
theorem dX10_parse_53 : decode cX10_parse 53 = .ok (.invokespecial 114, 3) := by decide +kernel
theorem dX10_parse_56 : decode cX10_parse 56 = .ok (.invokevirtual 117, 3) := by decide +kernel
theorem dX10_parse_59 : decode cX10_parse 59 = .ok (.putfield 121, 3) := by decide +kernel
theorem dX10_parse_62 : decode cX10_parse 62 = .ok (.iload_n 1, 1) := by decide +kernel
theorem dX10_parse_63 : decode cX10_parse 63 = .ok (.ireturn, 1) := by decide +kernel
theorem dX10_errorPosition_0 : decode cX10_errorPosition 0 = .ok (.aload_n 0, 1) := by decide +kernel
theorem dX10_errorPosition_1 : decode cX10_errorPosition 1 = .ok (.getfield 31, 3) := by decide +kernel
theorem dX10_errorPosition_4 : decode cX10_errorPosition 4 = .ok (.ireturn, 1) := by decide +kernel
theorem dX10_formulaVariables_0 : decode cX10_formulaVariables 0 = .ok (.aload_n 0, 1) := by decide +kernel
theorem dX10_formulaVariables_1 : decode cX10_formulaVariables 1 = .ok (.invokevirtual 125, 3) := by decide +kernel
theorem dX10_formulaKind_0 : decode cX10_formulaKind 0 = .ok (.aload_n 0, 1) := by decide +kernel
theorem dX10_formulaKind_1 : decode cX10_formulaKind 1 = .ok (.invokevirtual 125, 3) := by decide +kernel
theorem dX10_currentFormula_0 : decode cX10_currentFormula 0 = .ok (.aload_n 0, 1) := by decide +kernel
theorem dX10_currentFormula_1 : decode cX10_currentFormula 1 = .ok (.getfield 12, 3) := by decide +kernel
theorem dX10_currentFormula_4 : decode cX10_currentFormula 4 = .ok (.getfield 121, 3) := by decide +kernel
theorem dX10_currentFormula_7 : decode cX10_currentFormula 7 = .ok (.astore_n 1, 1) := by decide +kernel
theorem dX10_currentFormula_8 : decode cX10_currentFormula 8 = .ok (.aload_n 1, 1) := by decide +kernel
theorem dX10_currentFormula_9 : decode cX10_currentFormula 9 = .ok (.ifnonnull 13, 3) := by decide +kernel
theorem dX10_currentFormula_12 : decode cX10_currentFormula 12 = .ok (.new 80, 3) := by decide +kernel
theorem dX10_currentFormula_15 : decode cX10_currentFormula 15 = .ok (.dup, 1) := by decide +kernel
theorem dX10_currentFormula_16 : decode cX10_currentFormula 16 = .ok (.ldc 136, 2) := by decide +kernel
theorem dX10_currentFormula_18 : decode cX10_currentFormula 18 = .ok (.invokespecial 84, 3) := by decide +kernel
theorem dX10_currentFormula_21 : decode cX10_currentFormula 21 = .ok (.athrow, 1) := by decide +kernel
theorem dX10_extract_0 : decode cX10_extract 0 = .ok (.iload_n 1, 1) := by decide +kernel
theorem dX10_extract_1 : decode cX10_extract 1 = .ok (.invokestatic 138, 3) := by decide +kernel
theorem dX10_extract_4 : decode cX10_extract 4 = .ok (.aload_n 0, 1) := by decide +kernel
theorem dX10_extract_5 : decode cX10_extract 5 = .ok (.invokevirtual 125, 3) := by decide +kernel
theorem dX10_size_0 : decode cX10_size 0 = .ok (.aload_n 0, 1) := by decide +kernel
theorem dX10_size_1 : decode cX10_size 1 = .ok (.iload_n 1, 1) := by decide +kernel
theorem dX10_size_2 : decode cX10_size 2 = .ok (.invokevirtual 153, 3) := by decide +kernel
theorem dX10_start_0 : decode cX10_start 0 = .ok (.aload_n 0, 1) := by decide +kernel
theorem dX10_start_1 : decode cX10_start 1 = .ok (.iload_n 1, 1) := by decide +kernel
theorem dX10_start_2 : decode cX10_start 2 = .ok (.iload_n 2, 1) := by decide +kernel
theorem dX10_start_3 : decode cX10_start 3 = .ok (.iload_n 3, 1) := by decide +kernel
theorem dX10_start_4 : decode cX10_start 4 = .ok (.invokevirtual 160, 3) := by decide +kernel
theorem dX10_end_0 : decode cX10_end 0 = .ok (.aload_n 0, 1) := by decide +kernel
theorem dX10_end_1 : decode cX10_end 1 = .ok (.iload_n 1, 1) := by decide +kernel
theorem dX10_end_2 : decode cX10_end 2 = .ok (.iload_n 2, 1) := by decide +kernel
theorem dX10_end_3 : decode cX10_end 3 = .ok (.iload_n 3, 1) := by decide +kernel
theorem dX10_end_4 : decode cX10_end 4 = .ok (.invokevirtual 160, 3) := by decide +kernel
theorem dX10_domain_0 : decode cX10_domain 0 = .ok (.aload_n 0, 1) := by decide +kernel
theorem dX10_domain_1 : decode cX10_domain 1 = .ok (.iload_n 1, 1) := by decide +kernel
theorem dX10_domain_2 : decode cX10_domain 2 = .ok (.invokevirtual 153, 3) := by decide +kernel
theorem dX10_clear_0 : decode cX10_clear 0 = .ok (.iload_n 1, 1) := by decide +kernel
theorem dX10_clear_1 : decode cX10_clear 1 = .ok (.invokestatic 138, 3) := by decide +kernel
theorem dX10_clear_4 : decode cX10_clear 4 = .ok (.aload_n 0, 1) := by decide +kernel
theorem dX10_clear_5 : decode cX10_clear 5 = .ok (.getfield 12, 3) := by decide +kernel
theorem dX10_clear_8 : decode cX10_clear 8 = .ok (.getfield 96, 3) := by decide +kernel
theorem dX10_clear_11 : decode cX10_clear 11 = .ok (.iload_n 1, 1) := by decide +kernel
theorem dX10_clear_12 : decode cX10_clear 12 = .ok (.baload, 1) := by decide +kernel
theorem dX10_clear_13 : decode cX10_clear 13 = .ok (.ifCond .eq 18, 3) := by decide +kernel
theorem dX10_clear_31 : decode cX10_clear 31 = .ok (.iconst (-1), 1) := by decide +kernel
theorem dX10_clear_32 : decode cX10_clear 32 = .ok (.istore_n 2, 1) := by decide +kernel
theorem dX10_clear_33 : decode cX10_clear 33 = .ok (.aload_n 0, 1) := by decide +kernel
theorem dX10_clear_34 : decode cX10_clear 34 = .ok (.getfield 12, 3) := by decide +kernel
theorem dX10_clear_37 : decode cX10_clear 37 = .ok (.getfield 96, 3) := by decide +kernel
theorem dX10_clear_40 : decode cX10_clear 40 = .ok (.iload_n 1, 1) := by decide +kernel
theorem dX10_clear_41 : decode cX10_clear 41 = .ok (.iconst 0, 1) := by decide +kernel
theorem dX10_clear_42 : decode cX10_clear 42 = .ok (.bastore, 1) := by decide +kernel
theorem dX10_clear_43 : decode cX10_clear 43 = .ok (.aload_n 0, 1) := by decide +kernel
theorem dX10_clear_44 : decode cX10_clear 44 = .ok (.iload_n 1, 1) := by decide +kernel
theorem dX10_clear_45 : decode cX10_clear 45 = .ok (.invokevirtual 182, 3) := by decide +kernel
theorem dX10_clear_48 : decode cX10_clear 48 = .ok (.iload_n 2, 1) := by decide +kernel
theorem dX10_clear_49 : decode cX10_clear 49 = .ok (.ireturn, 1) := by decide +kernel
theorem dX10_spanAt_0 : decode cX10_spanAt 0 = .ok (.aload_n 0, 1) := by decide +kernel
theorem dX10_spanAt_1 : decode cX10_spanAt 1 = .ok (.iload_n 1, 1) := by decide +kernel
theorem dX10_spanAt_2 : decode cX10_spanAt 2 = .ok (.invokevirtual 153, 3) := by decide +kernel
theorem dX10_checkSlot_0 : decode cX10_checkSlot 0 = .ok (.iload_n 0, 1) := by decide +kernel
theorem dX10_checkSlot_1 : decode cX10_checkSlot 1 = .ok (.ifCond .lt 9, 3) := by decide +kernel
theorem dX10_checkSlot_4 : decode cX10_checkSlot 4 = .ok (.iload_n 0, 1) := by decide +kernel
theorem dX10_checkSlot_5 : decode cX10_checkSlot 5 = .ok (.bipush 6, 2) := by decide +kernel
theorem dX10_checkSlot_7 : decode cX10_checkSlot 7 = .ok (.if_icmp .lt 13, 3) := by decide +kernel
theorem dX10_checkSlot_10 : decode cX10_checkSlot 10 = .ok (.new 91, 3) := by decide +kernel
theorem dX10_checkSlot_13 : decode cX10_checkSlot 13 = .ok (.dup, 1) := by decide +kernel
theorem dX10_checkSlot_14 : decode cX10_checkSlot 14 = .ok (.ldc 196, 2) := by decide +kernel
theorem dX10_checkSlot_16 : decode cX10_checkSlot 16 = .ok (.invokespecial 95, 3) := by decide +kernel
theorem dX10_checkSlot_19 : decode cX10_checkSlot 19 = .ok (.athrow, 1) := by decide +kernel
theorem dX10_checkSlot_20 : decode cX10_checkSlot 20 = .ok (.return_, 1) := by decide +kernel
theorem dX10_checkVariable_0 : decode cX10_checkVariable 0 = .ok (.iload_n 0, 1) := by decide +kernel
theorem dX10_checkVariable_1 : decode cX10_checkVariable 1 = .ok (.ifCond .lt 8, 3) := by decide +kernel
theorem dX10_checkVariable_4 : decode cX10_checkVariable 4 = .ok (.iload_n 0, 1) := by decide +kernel
theorem dX10_checkVariable_5 : decode cX10_checkVariable 5 = .ok (.iconst 3, 1) := by decide +kernel
theorem dX10_checkVariable_6 : decode cX10_checkVariable 6 = .ok (.if_icmp .lt 13, 3) := by decide +kernel
theorem dX10_checkVariable_9 : decode cX10_checkVariable 9 = .ok (.new 91, 3) := by decide +kernel
theorem dX10_checkVariable_12 : decode cX10_checkVariable 12 = .ok (.dup, 1) := by decide +kernel
theorem dX10_checkVariable_13 : decode cX10_checkVariable 13 = .ok (.ldc 198, 2) := by decide +kernel
theorem dX10_checkVariable_15 : decode cX10_checkVariable 15 = .ok (.invokespecial 95, 3) := by decide +kernel
theorem dX10_checkVariable_18 : decode cX10_checkVariable 18 = .ok (.athrow, 1) := by decide +kernel
theorem dX10_checkVariable_19 : decode cX10_checkVariable 19 = .ok (.return_, 1) := by decide +kernel
theorem dX10_tableIn_0 : decode cX10_tableIn 0 = .ok (.iload_n 1, 1) := by decide +kernel
theorem dX10_tableIn_1 : decode cX10_tableIn 1 = .ok (.invokestatic 138, 3) := by decide +kernel
theorem dX10_tableIn_4 : decode cX10_tableIn 4 = .ok (.aload_n 0, 1) := by decide +kernel
theorem dX10_tableIn_5 : decode cX10_tableIn 5 = .ok (.getfield 12, 3) := by decide +kernel
theorem dX10_tableIn_8 : decode cX10_tableIn 8 = .ok (.getfield 96, 3) := by decide +kernel
theorem dX10_tableIn_11 : decode cX10_tableIn 11 = .ok (.iload_n 1, 1) := by decide +kernel
theorem dX10_tableIn_12 : decode cX10_tableIn 12 = .ok (.baload, 1) := by decide +kernel
theorem dX10_tableIn_13 : decode cX10_tableIn 13 = .ok (.ifCond .ne 13, 3) := by decide +kernel
theorem dX10_tableIn_16 : decode cX10_tableIn 16 = .ok (.new 80, 3) := by decide +kernel
theorem dX10_tableIn_19 : decode cX10_tableIn 19 = .ok (.dup, 1) := by decide +kernel
theorem dX10_tableIn_20 : decode cX10_tableIn 20 = .ok (.ldc 202, 2) := by decide +kernel
theorem dX10_tableIn_22 : decode cX10_tableIn 22 = .ok (.invokespecial 84, 3) := by decide +kernel
theorem dX10_tableIn_25 : decode cX10_tableIn 25 = .ok (.athrow, 1) := by decide +kernel
theorem dX10_leaveSlot_0 : decode cX10_leaveSlot 0 = .ok (.aload_n 0, 1) := by decide +kernel
theorem dX10_leaveSlot_1 : decode cX10_leaveSlot 1 = .ok (.getfield 34, 3) := by decide +kernel
theorem dX10_leaveSlot_4 : decode cX10_leaveSlot 4 = .ok (.iload_n 1, 1) := by decide +kernel
theorem dX10_leaveSlot_5 : decode cX10_leaveSlot 5 = .ok (.if_icmp .ne 8, 3) := by decide +kernel
theorem dX10_leaveSlot_8 : decode cX10_leaveSlot 8 = .ok (.aload_n 0, 1) := by decide +kernel
theorem dX10_leaveSlot_9 : decode cX10_leaveSlot 9 = .ok (.iconst (-1), 1) := by decide +kernel
theorem dX10_leaveSlot_10 : decode cX10_leaveSlot 10 = .ok (.putfield 34, 3) := by decide +kernel
theorem dX10_leaveSlot_13 : decode cX10_leaveSlot 13 = .ok (.return_, 1) := by decide +kernel
theorem dX10_union_0 : decode cX10_union 0 = .ok (.iload_n 1, 1) := by decide +kernel
theorem dX10_union_1 : decode cX10_union 1 = .ok (.iload_n 2, 1) := by decide +kernel
theorem dX10_union_2 : decode cX10_union 2 = .ok (.iload_n 3, 1) := by decide +kernel
theorem dX10_union_3 : decode cX10_union 3 = .ok (.invokestatic 213, 3) := by decide +kernel
theorem dX10_union_6 : decode cX10_union 6 = .ok (.aload_n 0, 1) := by decide +kernel
theorem dX10_union_7 : decode cX10_union 7 = .ok (.iload_n 1, 1) := by decide +kernel
theorem dX10_union_8 : decode cX10_union 8 = .ok (.invokevirtual 153, 3) := by decide +kernel
theorem dX10_join_0 : decode cX10_join 0 = .ok (.iload_n 1, 1) := by decide +kernel
theorem dX10_join_1 : decode cX10_join 1 = .ok (.iload_n 2, 1) := by decide +kernel
theorem dX10_join_2 : decode cX10_join 2 = .ok (.iload_n 3, 1) := by decide +kernel
theorem dX10_join_3 : decode cX10_join 3 = .ok (.invokestatic 213, 3) := by decide +kernel
theorem dX10_join_6 : decode cX10_join 6 = .ok (.aload_n 0, 1) := by decide +kernel
theorem dX10_join_7 : decode cX10_join 7 = .ok (.iload_n 1, 1) := by decide +kernel
theorem dX10_join_8 : decode cX10_join 8 = .ok (.invokevirtual 153, 3) := by decide +kernel
theorem dX10_minus_0 : decode cX10_minus 0 = .ok (.iload_n 1, 1) := by decide +kernel
theorem dX10_minus_1 : decode cX10_minus 1 = .ok (.iload_n 2, 1) := by decide +kernel
theorem dX10_minus_2 : decode cX10_minus 2 = .ok (.iload_n 3, 1) := by decide +kernel
theorem dX10_minus_3 : decode cX10_minus 3 = .ok (.invokestatic 213, 3) := by decide +kernel
theorem dX10_minus_6 : decode cX10_minus 6 = .ok (.aload_n 0, 1) := by decide +kernel
theorem dX10_minus_7 : decode cX10_minus 7 = .ok (.iload_n 1, 1) := by decide +kernel
theorem dX10_minus_8 : decode cX10_minus 8 = .ok (.invokevirtual 153, 3) := by decide +kernel
theorem dX10_antijoin_0 : decode cX10_antijoin 0 = .ok (.iload_n 1, 1) := by decide +kernel
theorem dX10_antijoin_1 : decode cX10_antijoin 1 = .ok (.iload_n 2, 1) := by decide +kernel
theorem dX10_antijoin_2 : decode cX10_antijoin 2 = .ok (.iload_n 3, 1) := by decide +kernel
theorem dX10_antijoin_3 : decode cX10_antijoin 3 = .ok (.invokestatic 213, 3) := by decide +kernel
theorem dX10_antijoin_6 : decode cX10_antijoin 6 = .ok (.aload_n 0, 1) := by decide +kernel
theorem dX10_antijoin_7 : decode cX10_antijoin 7 = .ok (.iload_n 1, 1) := by decide +kernel
theorem dX10_antijoin_8 : decode cX10_antijoin 8 = .ok (.invokevirtual 153, 3) := by decide +kernel
theorem dX10_checkSlots_0 : decode cX10_checkSlots 0 = .ok (.iload_n 0, 1) := by decide +kernel
theorem dX10_checkSlots_1 : decode cX10_checkSlots 1 = .ok (.invokestatic 138, 3) := by decide +kernel
theorem dX10_checkSlots_4 : decode cX10_checkSlots 4 = .ok (.iload_n 1, 1) := by decide +kernel
theorem dX10_checkSlots_5 : decode cX10_checkSlots 5 = .ok (.invokestatic 138, 3) := by decide +kernel
theorem dX10_checkSlots_8 : decode cX10_checkSlots 8 = .ok (.iload_n 2, 1) := by decide +kernel
theorem dX10_checkSlots_9 : decode cX10_checkSlots 9 = .ok (.invokestatic 138, 3) := by decide +kernel
theorem dX10_checkSlots_12 : decode cX10_checkSlots 12 = .ok (.return_, 1) := by decide +kernel
theorem dX10_project_0 : decode cX10_project 0 = .ok (.iload_n 1, 1) := by decide +kernel
theorem dX10_project_1 : decode cX10_project 1 = .ok (.invokestatic 138, 3) := by decide +kernel
theorem dX10_project_4 : decode cX10_project 4 = .ok (.iload_n 3, 1) := by decide +kernel
theorem dX10_project_5 : decode cX10_project 5 = .ok (.invokestatic 138, 3) := by decide +kernel
theorem dX10_project_8 : decode cX10_project 8 = .ok (.iload_n 2, 1) := by decide +kernel
theorem dX10_project_9 : decode cX10_project 9 = .ok (.ifCond .lt 9, 3) := by decide +kernel
theorem dX10_project_12 : decode cX10_project 12 = .ok (.iload_n 2, 1) := by decide +kernel
theorem dX10_project_13 : decode cX10_project 13 = .ok (.bipush 8, 2) := by decide +kernel
theorem dX10_project_15 : decode cX10_project 15 = .ok (.if_icmp .lt 13, 3) := by decide +kernel
theorem dX10_project_18 : decode cX10_project 18 = .ok (.new 70, 3) := by decide +kernel
theorem dX10_project_21 : decode cX10_project 21 = .ok (.dup, 1) := by decide +kernel
theorem dX10_project_22 : decode cX10_project 22 = .ok (.ldc 236, 2) := by decide +kernel
theorem dX10_project_24 : decode cX10_project 24 = .ok (.invokespecial 74, 3) := by decide +kernel
theorem dX10_project_27 : decode cX10_project 27 = .ok (.athrow, 1) := by decide +kernel
theorem dX10_project_28 : decode cX10_project 28 = .ok (.aload_n 0, 1) := by decide +kernel
theorem dX10_project_29 : decode cX10_project 29 = .ok (.iload_n 1, 1) := by decide +kernel
theorem dX10_project_30 : decode cX10_project 30 = .ok (.invokevirtual 153, 3) := by decide +kernel
theorem dX10_exchange_0 : decode cX10_exchange 0 = .ok (.iload_n 1, 1) := by decide +kernel
theorem dX10_exchange_1 : decode cX10_exchange 1 = .ok (.iload_n 2, 1) := by decide +kernel
theorem dX10_exchange_2 : decode cX10_exchange 2 = .ok (.iload_n 3, 1) := by decide +kernel
theorem dX10_exchange_3 : decode cX10_exchange 3 = .ok (.iload 4, 2) := by decide +kernel
theorem dX10_exchange_5 : decode cX10_exchange 5 = .ok (.invokestatic 241, 3) := by decide +kernel
theorem dX10_exchange_8 : decode cX10_exchange 8 = .ok (.aload_n 0, 1) := by decide +kernel
theorem dX10_exchange_9 : decode cX10_exchange 9 = .ok (.iload_n 1, 1) := by decide +kernel
theorem dX10_exchange_10 : decode cX10_exchange 10 = .ok (.invokevirtual 153, 3) := by decide +kernel
theorem dX10_selectEqual_0 : decode cX10_selectEqual 0 = .ok (.iload_n 1, 1) := by decide +kernel
theorem dX10_selectEqual_1 : decode cX10_selectEqual 1 = .ok (.iload_n 2, 1) := by decide +kernel
theorem dX10_selectEqual_2 : decode cX10_selectEqual 2 = .ok (.iload_n 3, 1) := by decide +kernel
theorem dX10_selectEqual_3 : decode cX10_selectEqual 3 = .ok (.iload 4, 2) := by decide +kernel
theorem dX10_selectEqual_5 : decode cX10_selectEqual 5 = .ok (.invokestatic 241, 3) := by decide +kernel
theorem dX10_selectEqual_8 : decode cX10_selectEqual 8 = .ok (.aload_n 0, 1) := by decide +kernel
theorem dX10_selectEqual_9 : decode cX10_selectEqual 9 = .ok (.iload_n 1, 1) := by decide +kernel
theorem dX10_selectEqual_10 : decode cX10_selectEqual 10 = .ok (.invokevirtual 153, 3) := by decide +kernel
theorem dX10_selectLength_0 : decode cX10_selectLength 0 = .ok (.iload_n 1, 1) := by decide +kernel
theorem dX10_selectLength_1 : decode cX10_selectLength 1 = .ok (.iload_n 2, 1) := by decide +kernel
theorem dX10_selectLength_2 : decode cX10_selectLength 2 = .ok (.iload_n 2, 1) := by decide +kernel
theorem dX10_selectLength_3 : decode cX10_selectLength 3 = .ok (.iload 5, 2) := by decide +kernel
theorem dX10_selectLength_5 : decode cX10_selectLength 5 = .ok (.invokestatic 241, 3) := by decide +kernel
theorem dX10_selectLength_8 : decode cX10_selectLength 8 = .ok (.aload_n 0, 1) := by decide +kernel
theorem dX10_selectLength_9 : decode cX10_selectLength 9 = .ok (.iload_n 1, 1) := by decide +kernel
theorem dX10_selectLength_10 : decode cX10_selectLength 10 = .ok (.invokevirtual 153, 3) := by decide +kernel
theorem dX10_selectRelation_0 : decode cX10_selectRelation 0 = .ok (.iload_n 1, 1) := by decide +kernel
theorem dX10_selectRelation_1 : decode cX10_selectRelation 1 = .ok (.iload_n 2, 1) := by decide +kernel
theorem dX10_selectRelation_2 : decode cX10_selectRelation 2 = .ok (.iload_n 3, 1) := by decide +kernel
theorem dX10_selectRelation_3 : decode cX10_selectRelation 3 = .ok (.iload 5, 2) := by decide +kernel
theorem dX10_selectRelation_5 : decode cX10_selectRelation 5 = .ok (.invokestatic 241, 3) := by decide +kernel
theorem dX10_selectRelation_8 : decode cX10_selectRelation 8 = .ok (.iload 4, 2) := by decide +kernel
theorem dX10_selectRelation_10 : decode cX10_selectRelation 10 = .ok (.ifCond .lt 9, 3) := by decide +kernel
theorem dX10_selectRelation_13 : decode cX10_selectRelation 13 = .ok (.iload 4, 2) := by decide +kernel
theorem dX10_selectRelation_15 : decode cX10_selectRelation 15 = .ok (.iconst 4, 1) := by decide +kernel
theorem dX10_selectRelation_16 : decode cX10_selectRelation 16 = .ok (.if_icmp .lt 14, 3) := by decide +kernel
theorem dX10_selectRelation_19 : decode cX10_selectRelation 19 = .ok (.new 70, 3) := by decide +kernel
theorem dX10_selectRelation_22 : decode cX10_selectRelation 22 = .ok (.dup, 1) := by decide +kernel
theorem dX10_selectRelation_23 : decode cX10_selectRelation 23 = .ok (.ldc_w 258, 3) := by decide +kernel
theorem dX10_selectRelation_26 : decode cX10_selectRelation 26 = .ok (.invokespecial 74, 3) := by decide +kernel
theorem dX10_selectRelation_29 : decode cX10_selectRelation 29 = .ok (.athrow, 1) := by decide +kernel
theorem dX10_selectRelation_30 : decode cX10_selectRelation 30 = .ok (.aload_n 0, 1) := by decide +kernel
theorem dX10_selectRelation_31 : decode cX10_selectRelation 31 = .ok (.iload_n 1, 1) := by decide +kernel
theorem dX10_selectRelation_32 : decode cX10_selectRelation 32 = .ok (.invokevirtual 153, 3) := by decide +kernel
theorem dX10_checkSelection_0 : decode cX10_checkSelection 0 = .ok (.iload_n 0, 1) := by decide +kernel
theorem dX10_checkSelection_1 : decode cX10_checkSelection 1 = .ok (.invokestatic 138, 3) := by decide +kernel
theorem dX10_checkSelection_4 : decode cX10_checkSelection 4 = .ok (.iload_n 3, 1) := by decide +kernel
theorem dX10_checkSelection_5 : decode cX10_checkSelection 5 = .ok (.invokestatic 138, 3) := by decide +kernel
theorem dX10_checkSelection_8 : decode cX10_checkSelection 8 = .ok (.iload_n 1, 1) := by decide +kernel
theorem dX10_checkSelection_9 : decode cX10_checkSelection 9 = .ok (.invokestatic 189, 3) := by decide +kernel
theorem dX10_checkSelection_12 : decode cX10_checkSelection 12 = .ok (.iload_n 2, 1) := by decide +kernel
theorem dX10_checkSelection_13 : decode cX10_checkSelection 13 = .ok (.invokestatic 189, 3) := by decide +kernel
theorem dX10_checkSelection_16 : decode cX10_checkSelection 16 = .ok (.return_, 1) := by decide +kernel
theorem dX10_contained_0 : decode cX10_contained 0 = .ok (.iload_n 1, 1) := by decide +kernel
theorem dX10_contained_1 : decode cX10_contained 1 = .ok (.invokestatic 138, 3) := by decide +kernel
theorem dX10_contained_4 : decode cX10_contained 4 = .ok (.iload_n 2, 1) := by decide +kernel
theorem dX10_contained_5 : decode cX10_contained 5 = .ok (.invokestatic 138, 3) := by decide +kernel
theorem dX10_contained_8 : decode cX10_contained 8 = .ok (.aload_n 0, 1) := by decide +kernel
theorem dX10_contained_9 : decode cX10_contained 9 = .ok (.iload_n 1, 1) := by decide +kernel
theorem dX10_contained_10 : decode cX10_contained 10 = .ok (.invokevirtual 153, 3) := by decide +kernel
theorem dX10_disjoint_0 : decode cX10_disjoint 0 = .ok (.aload_n 0, 1) := by decide +kernel
theorem dX10_disjoint_1 : decode cX10_disjoint 1 = .ok (.iload_n 1, 1) := by decide +kernel
theorem dX10_disjoint_2 : decode cX10_disjoint 2 = .ok (.invokevirtual 153, 3) := by decide +kernel
theorem dX10_extractSplit_0 : decode cX10_extractSplit 0 = .ok (.iload_n 1, 1) := by decide +kernel
theorem dX10_extractSplit_1 : decode cX10_extractSplit 1 = .ok (.invokestatic 138, 3) := by decide +kernel
theorem dX10_extractSplit_4 : decode cX10_extractSplit 4 = .ok (.iload_n 2, 1) := by decide +kernel
theorem dX10_extractSplit_5 : decode cX10_extractSplit 5 = .ok (.invokestatic 138, 3) := by decide +kernel
theorem dX10_extractSplit_8 : decode cX10_extractSplit 8 = .ok (.aload_n 0, 1) := by decide +kernel
theorem dX10_extractSplit_9 : decode cX10_extractSplit 9 = .ok (.iload_n 1, 1) := by decide +kernel
theorem dX10_extractSplit_10 : decode cX10_extractSplit 10 = .ok (.invokevirtual 153, 3) := by decide +kernel
theorem dX10_splitCorrect_0 : decode cX10_splitCorrect 0 = .ok (.aload_n 0, 1) := by decide +kernel
theorem dX10_splitCorrect_1 : decode cX10_splitCorrect 1 = .ok (.iload_n 1, 1) := by decide +kernel
theorem dX10_splitCorrect_2 : decode cX10_splitCorrect 2 = .ok (.invokevirtual 153, 3) := by decide +kernel
theorem dX10_openCursor_0 : decode cX10_openCursor 0 = .ok (.aload_n 0, 1) := by decide +kernel
theorem dX10_openCursor_1 : decode cX10_openCursor 1 = .ok (.iload_n 1, 1) := by decide +kernel
theorem dX10_openCursor_2 : decode cX10_openCursor 2 = .ok (.invokevirtual 153, 3) := by decide +kernel
theorem dX10_cursorRow_0 : decode cX10_cursorRow 0 = .ok (.aload_n 0, 1) := by decide +kernel
theorem dX10_cursorRow_1 : decode cX10_cursorRow 1 = .ok (.aload_n 0, 1) := by decide +kernel
theorem dX10_cursorRow_2 : decode cX10_cursorRow 2 = .ok (.invokevirtual 278, 3) := by decide +kernel
theorem dX10_advance_0 : decode cX10_advance 0 = .ok (.iload_n 1, 1) := by decide +kernel
theorem dX10_advance_1 : decode cX10_advance 1 = .ok (.ifCond .ge 14, 3) := by decide +kernel
theorem dX10_advance_4 : decode cX10_advance 4 = .ok (.new 70, 3) := by decide +kernel
theorem dX10_advance_7 : decode cX10_advance 7 = .ok (.dup, 1) := by decide +kernel
theorem dX10_advance_8 : decode cX10_advance 8 = .ok (.ldc_w 286, 3) := by decide +kernel
theorem dX10_advance_11 : decode cX10_advance 11 = .ok (.invokespecial 74, 3) := by decide +kernel
theorem dX10_advance_14 : decode cX10_advance 14 = .ok (.athrow, 1) := by decide +kernel
theorem dX10_advance_15 : decode cX10_advance 15 = .ok (.aload_n 0, 1) := by decide +kernel
theorem dX10_advance_16 : decode cX10_advance 16 = .ok (.invokevirtual 278, 3) := by decide +kernel
theorem dX10_skipTo_0 : decode cX10_skipTo 0 = .ok (.aload_n 0, 1) := by decide +kernel
theorem dX10_skipTo_1 : decode cX10_skipTo 1 = .ok (.invokevirtual 278, 3) := by decide +kernel
theorem dX10_cursorTable_0 : decode cX10_cursorTable 0 = .ok (.aload_n 0, 1) := by decide +kernel
theorem dX10_cursorTable_1 : decode cX10_cursorTable 1 = .ok (.getfield 34, 3) := by decide +kernel
theorem dX10_cursorTable_4 : decode cX10_cursorTable 4 = .ok (.iconst (-1), 1) := by decide +kernel
theorem dX10_cursorTable_5 : decode cX10_cursorTable 5 = .ok (.if_icmp .ne 14, 3) := by decide +kernel
theorem dX10_cursorTable_8 : decode cX10_cursorTable 8 = .ok (.new 80, 3) := by decide +kernel
theorem dX10_cursorTable_11 : decode cX10_cursorTable 11 = .ok (.dup, 1) := by decide +kernel
theorem dX10_cursorTable_12 : decode cX10_cursorTable 12 = .ok (.ldc_w 291, 3) := by decide +kernel
theorem dX10_cursorTable_15 : decode cX10_cursorTable 15 = .ok (.invokespecial 84, 3) := by decide +kernel
theorem dX10_cursorTable_18 : decode cX10_cursorTable 18 = .ok (.athrow, 1) := by decide +kernel
theorem dX10_setWeight_0 : decode cX10_setWeight 0 = .ok (.iload_n 1, 1) := by decide +kernel
theorem dX10_setWeight_1 : decode cX10_setWeight 1 = .ok (.invokestatic 189, 3) := by decide +kernel
theorem dX10_setWeight_4 : decode cX10_setWeight 4 = .ok (.aload_n 0, 1) := by decide +kernel
theorem dX10_setWeight_5 : decode cX10_setWeight 5 = .ok (.getfield 12, 3) := by decide +kernel
theorem dX10_setWeight_8 : decode cX10_setWeight 8 = .ok (.getfield 293, 3) := by decide +kernel
theorem dX10_setWeight_11 : decode cX10_setWeight 11 = .ok (.iload_n 1, 1) := by decide +kernel
theorem dX10_setWeight_12 : decode cX10_setWeight 12 = .ok (.iaload, 1) := by decide +kernel
theorem dX10_setWeight_13 : decode cX10_setWeight 13 = .ok (.istore_n 3, 1) := by decide +kernel
theorem dX10_setWeight_14 : decode cX10_setWeight 14 = .ok (.aload_n 0, 1) := by decide +kernel
theorem dX10_setWeight_15 : decode cX10_setWeight 15 = .ok (.getfield 12, 3) := by decide +kernel
theorem dX10_setWeight_18 : decode cX10_setWeight 18 = .ok (.getfield 293, 3) := by decide +kernel
theorem dX10_setWeight_21 : decode cX10_setWeight 21 = .ok (.iload_n 1, 1) := by decide +kernel
theorem dX10_setWeight_22 : decode cX10_setWeight 22 = .ok (.iload_n 2, 1) := by decide +kernel
theorem dX10_setWeight_23 : decode cX10_setWeight 23 = .ok (.iastore, 1) := by decide +kernel
theorem dX10_setWeight_24 : decode cX10_setWeight 24 = .ok (.iload_n 3, 1) := by decide +kernel
theorem dX10_setWeight_25 : decode cX10_setWeight 25 = .ok (.ireturn, 1) := by decide +kernel
theorem dX10_score_0 : decode cX10_score 0 = .ok (.aload_n 0, 1) := by decide +kernel
theorem dX10_score_1 : decode cX10_score 1 = .ok (.iload_n 1, 1) := by decide +kernel
theorem dX10_score_2 : decode cX10_score 2 = .ok (.invokevirtual 153, 3) := by decide +kernel
theorem dX10_classes_0 : decode cX10_classes 0 = .ok (.aload_n 0, 1) := by decide +kernel
theorem dX10_classes_1 : decode cX10_classes 1 = .ok (.aload_n 0, 1) := by decide +kernel
theorem dX10_classes_2 : decode cX10_classes 2 = .ok (.iload_n 1, 1) := by decide +kernel
theorem dX10_classes_3 : decode cX10_classes 3 = .ok (.invokevirtual 153, 3) := by decide +kernel
theorem dX10_rank_0 : decode cX10_rank 0 = .ok (.aload_n 0, 1) := by decide +kernel
theorem dX10_rank_1 : decode cX10_rank 1 = .ok (.iload_n 1, 1) := by decide +kernel
theorem dX10_rank_2 : decode cX10_rank 2 = .ok (.invokevirtual 153, 3) := by decide +kernel
theorem dX10_best_0 : decode cX10_best 0 = .ok (.aload_n 0, 1) := by decide +kernel
theorem dX10_best_1 : decode cX10_best 1 = .ok (.iload_n 1, 1) := by decide +kernel
theorem dX10_best_2 : decode cX10_best 2 = .ok (.invokevirtual 153, 3) := by decide +kernel
theorem dX10_total_0 : decode cX10_total 0 = .ok (.aload_n 0, 1) := by decide +kernel
theorem dX10_total_1 : decode cX10_total 1 = .ok (.iload_n 1, 1) := by decide +kernel
theorem dX10_total_2 : decode cX10_total 2 = .ok (.invokevirtual 153, 3) := by decide +kernel
theorem dX10_save_0 : decode cX10_save 0 = .ok (.aload_n 0, 1) := by decide +kernel
theorem dX10_save_1 : decode cX10_save 1 = .ok (.getfield 16, 3) := by decide +kernel
theorem dX10_save_4 : decode cX10_save 4 = .ok (.aload_n 0, 1) := by decide +kernel
theorem dX10_save_5 : decode cX10_save 5 = .ok (.getfield 12, 3) := by decide +kernel
theorem dX10_save_8 : decode cX10_save 8 = .ok (.invokevirtual 314, 3) := by decide +kernel
theorem dX10_save_11 : decode cX10_save 11 = .ok (.aload_n 0, 1) := by decide +kernel
theorem dX10_save_12 : decode cX10_save 12 = .ok (.iconst 1, 1) := by decide +kernel
theorem dX10_save_13 : decode cX10_save 13 = .ok (.putfield 19, 3) := by decide +kernel
theorem dX10_save_16 : decode cX10_save 16 = .ok (.aload_n 0, 1) := by decide +kernel
theorem dX10_save_17 : decode cX10_save 17 = .ok (.getfield 12, 3) := by decide +kernel
theorem dX10_save_20 : decode cX10_save 20 = .ok (.invokevirtual 317, 3) := by decide +kernel
theorem dX10_save_23 : decode cX10_save 23 = .ok (.ireturn, 1) := by decide +kernel
theorem dX10_restore_0 : decode cX10_restore 0 = .ok (.aload_n 0, 1) := by decide +kernel
theorem dX10_restore_1 : decode cX10_restore 1 = .ok (.getfield 19, 3) := by decide +kernel
theorem dX10_restore_4 : decode cX10_restore 4 = .ok (.ifCond .ne 14, 3) := by decide +kernel
theorem dX10_restore_7 : decode cX10_restore 7 = .ok (.new 80, 3) := by decide +kernel
theorem dX10_restore_10 : decode cX10_restore 10 = .ok (.dup, 1) := by decide +kernel
theorem dX10_restore_11 : decode cX10_restore 11 = .ok (.ldc_w 321, 3) := by decide +kernel
theorem dX10_restore_14 : decode cX10_restore 14 = .ok (.invokespecial 84, 3) := by decide +kernel
theorem dX10_restore_17 : decode cX10_restore 17 = .ok (.athrow, 1) := by decide +kernel
theorem dX11_thrown_0 : decode cX11_thrown 0 = .ok (.aload_n 0, 1) := by decide +kernel
theorem dX11_thrown_1 : decode cX11_thrown 1 = .ok (.getfield 115, 3) := by decide +kernel
theorem dX11_thrown_4 : decode cX11_thrown 4 = .ok (.ireturn, 1) := by decide +kernel
theorem dX11_in_0 : decode cX11_in 0 = .ok (.iload_n 0, 1) := by decide +kernel
theorem dX11_in_1 : decode cX11_in 1 = .ok (.iload_n 1, 1) := by decide +kernel
theorem dX11_in_2 : decode cX11_in 2 = .ok (.if_icmp .lt 12, 3) := by decide +kernel
theorem dX11_in_5 : decode cX11_in 5 = .ok (.iload_n 0, 1) := by decide +kernel
theorem dX11_in_6 : decode cX11_in 6 = .ok (.iload_n 2, 1) := by decide +kernel
theorem dX11_in_7 : decode cX11_in 7 = .ok (.if_icmp .gt 7, 3) := by decide +kernel
theorem dX11_in_10 : decode cX11_in 10 = .ok (.iconst 1, 1) := by decide +kernel
theorem dX11_in_11 : decode cX11_in 11 = .ok (.goto 4, 3) := by decide +kernel
theorem dX11_in_14 : decode cX11_in 14 = .ok (.iconst 0, 1) := by decide +kernel
theorem dX11_in_15 : decode cX11_in 15 = .ok (.ireturn, 1) := by decide +kernel
theorem dX11_isSlot_0 : decode cX11_isSlot 0 = .ok (.iload_n 0, 1) := by decide +kernel
theorem dX11_isSlot_1 : decode cX11_isSlot 1 = .ok (.iconst 0, 1) := by decide +kernel
theorem dX11_isSlot_2 : decode cX11_isSlot 2 = .ok (.iconst 5, 1) := by decide +kernel
theorem dX11_isSlot_3 : decode cX11_isSlot 3 = .ok (.invokestatic 118, 3) := by decide +kernel
theorem dX11_isSlot_6 : decode cX11_isSlot 6 = .ok (.ireturn, 1) := by decide +kernel
theorem dX11_isVariable_0 : decode cX11_isVariable 0 = .ok (.iload_n 0, 1) := by decide +kernel
theorem dX11_isVariable_1 : decode cX11_isVariable 1 = .ok (.iconst 0, 1) := by decide +kernel
theorem dX11_isVariable_2 : decode cX11_isVariable 2 = .ok (.iconst 2, 1) := by decide +kernel
theorem dX11_isVariable_3 : decode cX11_isVariable 3 = .ok (.invokestatic 118, 3) := by decide +kernel
theorem dX11_isVariable_6 : decode cX11_isVariable 6 = .ok (.ireturn, 1) := by decide +kernel
theorem dX11_emptySlots_0 : decode cX11_emptySlots 0 = .ok (.iconst 0, 1) := by decide +kernel
theorem dX11_emptySlots_1 : decode cX11_emptySlots 1 = .ok (.istore_n 1, 1) := by decide +kernel
theorem dX11_emptySlots_2 : decode cX11_emptySlots 2 = .ok (.iload_n 1, 1) := by decide +kernel
theorem dX11_emptySlots_3 : decode cX11_emptySlots 3 = .ok (.bipush 6, 2) := by decide +kernel
theorem dX11_emptySlots_5 : decode cX11_emptySlots 5 = .ok (.if_icmp .ge 16, 3) := by decide +kernel
theorem dX11_emptySlots_8 : decode cX11_emptySlots 8 = .ok (.aload_n 0, 1) := by decide +kernel
theorem dX11_emptySlots_9 : decode cX11_emptySlots 9 = .ok (.getfield 37, 3) := by decide +kernel
theorem dX11_emptySlots_12 : decode cX11_emptySlots 12 = .ok (.iload_n 1, 1) := by decide +kernel
theorem dX11_emptySlots_13 : decode cX11_emptySlots 13 = .ok (.iconst (-1), 1) := by decide +kernel
theorem dX11_emptySlots_14 : decode cX11_emptySlots 14 = .ok (.iastore, 1) := by decide +kernel
theorem dX11_emptySlots_15 : decode cX11_emptySlots 15 = .ok (.iinc 1 1, 3) := by decide +kernel
theorem dX11_emptySlots_18 : decode cX11_emptySlots 18 = .ok (.goto (-16), 3) := by decide +kernel
theorem dX11_emptySlots_21 : decode cX11_emptySlots 21 = .ok (.aload_n 0, 1) := by decide +kernel
theorem dX11_emptySlots_22 : decode cX11_emptySlots 22 = .ok (.iconst (-1), 1) := by decide +kernel
theorem dX11_emptySlots_23 : decode cX11_emptySlots 23 = .ok (.putfield 43, 3) := by decide +kernel
theorem dX11_emptySlots_26 : decode cX11_emptySlots 26 = .ok (.return_, 1) := by decide +kernel
theorem dX11_appendLetter_0 : decode cX11_appendLetter 0 = .ok (.aload_n 0, 1) := by decide +kernel
theorem dX11_appendLetter_1 : decode cX11_appendLetter 1 = .ok (.iload_n 1, 1) := by decide +kernel
theorem dX11_appendLetter_2 : decode cX11_appendLetter 2 = .ok (.bipush 97, 2) := by decide +kernel
theorem dX11_appendLetter_4 : decode cX11_appendLetter 4 = .ok (.bipush 122, 2) := by decide +kernel
theorem dX11_appendLetter_6 : decode cX11_appendLetter 6 = .ok (.invokestatic 118, 3) := by decide +kernel
theorem dX11_appendLetter_9 : decode cX11_appendLetter 9 = .ok (.ifCond .ne 7, 3) := by decide +kernel
theorem dX11_appendLetter_12 : decode cX11_appendLetter 12 = .ok (.iconst 1, 1) := by decide +kernel
theorem dX11_appendLetter_13 : decode cX11_appendLetter 13 = .ok (.goto 17, 3) := by decide +kernel
theorem dX11_appendLetter_16 : decode cX11_appendLetter 16 = .ok (.aload_n 0, 1) := by decide +kernel
theorem dX11_appendLetter_17 : decode cX11_appendLetter 17 = .ok (.getfield 122, 3) := by decide +kernel
theorem dX11_appendLetter_20 : decode cX11_appendLetter 20 = .ok (.bipush 8, 2) := by decide +kernel
theorem dX11_appendLetter_22 : decode cX11_appendLetter 22 = .ok (.if_icmp .ne 7, 3) := by decide +kernel
theorem dX11_appendLetter_29 : decode cX11_appendLetter 29 = .ok (.iconst 0, 1) := by decide +kernel
theorem dX11_appendLetter_30 : decode cX11_appendLetter 30 = .ok (.putfield 115, 3) := by decide +kernel
theorem dX11_appendLetter_33 : decode cX11_appendLetter 33 = .ok (.aload_n 0, 1) := by decide +kernel
theorem dX11_appendLetter_34 : decode cX11_appendLetter 34 = .ok (.getfield 115, 3) := by decide +kernel
theorem dX11_appendLetter_37 : decode cX11_appendLetter 37 = .ok (.ifCond .le 5, 3) := by decide +kernel
theorem dX11_appendLetter_40 : decode cX11_appendLetter 40 = .ok (.iconst 0, 1) := by decide +kernel
theorem dX11_appendLetter_41 : decode cX11_appendLetter 41 = .ok (.ireturn, 1) := by decide +kernel
theorem dX11_appendLetter_42 : decode cX11_appendLetter 42 = .ok (.aload_n 0, 1) := by decide +kernel
theorem dX11_appendLetter_43 : decode cX11_appendLetter 43 = .ok (.getfield 21, 3) := by decide +kernel
theorem dX11_appendLetter_46 : decode cX11_appendLetter 46 = .ok (.aload_n 0, 1) := by decide +kernel
theorem dX11_appendLetter_47 : decode cX11_appendLetter 47 = .ok (.getfield 122, 3) := by decide +kernel
theorem dX11_appendLetter_50 : decode cX11_appendLetter 50 = .ok (.iload_n 1, 1) := by decide +kernel
theorem dX11_appendLetter_51 : decode cX11_appendLetter 51 = .ok (.iastore, 1) := by decide +kernel
theorem dX11_appendLetter_52 : decode cX11_appendLetter 52 = .ok (.aload_n 0, 1) := by decide +kernel
theorem dX11_appendLetter_53 : decode cX11_appendLetter 53 = .ok (.dup, 1) := by decide +kernel
theorem dX11_appendLetter_54 : decode cX11_appendLetter 54 = .ok (.getfield 122, 3) := by decide +kernel
theorem dX11_appendLetter_57 : decode cX11_appendLetter 57 = .ok (.iconst 1, 1) := by decide +kernel
theorem dX11_appendLetter_58 : decode cX11_appendLetter 58 = .ok (.iadd, 1) := by decide +kernel
theorem dX11_appendLetter_59 : decode cX11_appendLetter 59 = .ok (.putfield 122, 3) := by decide +kernel
theorem dX11_appendLetter_62 : decode cX11_appendLetter 62 = .ok (.aload_n 0, 1) := by decide +kernel
theorem dX11_appendLetter_63 : decode cX11_appendLetter 63 = .ok (.invokevirtual 125, 3) := by decide +kernel
theorem dX11_appendLetter_66 : decode cX11_appendLetter 66 = .ok (.aload_n 0, 1) := by decide +kernel
theorem dX11_appendLetter_67 : decode cX11_appendLetter 67 = .ok (.getfield 122, 3) := by decide +kernel
theorem dX11_appendLetter_70 : decode cX11_appendLetter 70 = .ok (.ireturn, 1) := by decide +kernel
theorem dX11_clearDocument_0 : decode cX11_clearDocument 0 = .ok (.aload_n 0, 1) := by decide +kernel
theorem dX11_clearDocument_1 : decode cX11_clearDocument 1 = .ok (.iconst 0, 1) := by decide +kernel
theorem dX11_clearDocument_2 : decode cX11_clearDocument 2 = .ok (.putfield 115, 3) := by decide +kernel
theorem dX11_clearDocument_5 : decode cX11_clearDocument 5 = .ok (.aload_n 0, 1) := by decide +kernel
theorem dX11_clearDocument_6 : decode cX11_clearDocument 6 = .ok (.getfield 122, 3) := by decide +kernel
theorem dX11_clearDocument_9 : decode cX11_clearDocument 9 = .ok (.istore_n 1, 1) := by decide +kernel
theorem dX11_clearDocument_10 : decode cX11_clearDocument 10 = .ok (.aload_n 0, 1) := by decide +kernel
theorem dX11_clearDocument_11 : decode cX11_clearDocument 11 = .ok (.iconst 0, 1) := by decide +kernel
theorem dX11_clearDocument_12 : decode cX11_clearDocument 12 = .ok (.putfield 122, 3) := by decide +kernel
theorem dX11_clearDocument_15 : decode cX11_clearDocument 15 = .ok (.aload_n 0, 1) := by decide +kernel
theorem dX11_clearDocument_16 : decode cX11_clearDocument 16 = .ok (.invokevirtual 125, 3) := by decide +kernel
theorem dX11_clearDocument_19 : decode cX11_clearDocument 19 = .ok (.iload_n 1, 1) := by decide +kernel
theorem dX11_clearDocument_20 : decode cX11_clearDocument 20 = .ok (.ireturn, 1) := by decide +kernel
theorem dX11_letter_0 : decode cX11_letter 0 = .ok (.aload_n 0, 1) := by decide +kernel
theorem dX11_letter_1 : decode cX11_letter 1 = .ok (.iload_n 1, 1) := by decide +kernel
theorem dX11_letter_2 : decode cX11_letter 2 = .ok (.iconst 0, 1) := by decide +kernel
theorem dX11_letter_3 : decode cX11_letter 3 = .ok (.aload_n 0, 1) := by decide +kernel
theorem dX11_letter_4 : decode cX11_letter 4 = .ok (.getfield 122, 3) := by decide +kernel
theorem dX11_letter_7 : decode cX11_letter 7 = .ok (.iconst 1, 1) := by decide +kernel
theorem dX11_letter_8 : decode cX11_letter 8 = .ok (.isub, 1) := by decide +kernel
theorem dX11_letter_9 : decode cX11_letter 9 = .ok (.invokestatic 118, 3) := by decide +kernel
theorem dX11_letter_12 : decode cX11_letter 12 = .ok (.ifCond .eq 7, 3) := by decide +kernel
theorem dX11_letter_19 : decode cX11_letter 19 = .ok (.iconst 1, 1) := by decide +kernel
theorem dX11_letter_20 : decode cX11_letter 20 = .ok (.putfield 115, 3) := by decide +kernel
theorem dX11_letter_23 : decode cX11_letter 23 = .ok (.aload_n 0, 1) := by decide +kernel
theorem dX11_letter_24 : decode cX11_letter 24 = .ok (.getfield 115, 3) := by decide +kernel
theorem dX11_letter_27 : decode cX11_letter 27 = .ok (.ifCond .le 7, 3) := by decide +kernel
theorem dX11_letter_30 : decode cX11_letter 30 = .ok (.iconst 0, 1) := by decide +kernel
theorem dX11_letter_31 : decode cX11_letter 31 = .ok (.goto 9, 3) := by decide +kernel
theorem dX11_letter_40 : decode cX11_letter 40 = .ok (.ireturn, 1) := by decide +kernel
theorem dX11_appendCharacter_0 : decode cX11_appendCharacter 0 = .ok (.aload_n 0, 1) := by decide +kernel
theorem dX11_appendCharacter_1 : decode cX11_appendCharacter 1 = .ok (.iload_n 1, 1) := by decide +kernel
theorem dX11_appendCharacter_2 : decode cX11_appendCharacter 2 = .ok (.bipush 33, 2) := by decide +kernel
theorem dX11_appendCharacter_4 : decode cX11_appendCharacter 4 = .ok (.bipush 126, 2) := by decide +kernel
theorem dX11_appendCharacter_6 : decode cX11_appendCharacter 6 = .ok (.invokestatic 118, 3) := by decide +kernel
theorem dX11_appendCharacter_9 : decode cX11_appendCharacter 9 = .ok (.ifCond .ne 7, 3) := by decide +kernel
theorem dX11_appendCharacter_12 : decode cX11_appendCharacter 12 = .ok (.iconst 1, 1) := by decide +kernel
theorem dX11_appendCharacter_13 : decode cX11_appendCharacter 13 = .ok (.goto 17, 3) := by decide +kernel
theorem dX11_appendCharacter_16 : decode cX11_appendCharacter 16 = .ok (.aload_n 0, 1) := by decide +kernel
theorem dX11_appendCharacter_17 : decode cX11_appendCharacter 17 = .ok (.getfield 128, 3) := by decide +kernel
theorem dX11_appendCharacter_20 : decode cX11_appendCharacter 20 = .ok (.bipush 40, 2) := by decide +kernel
theorem dX11_appendCharacter_22 : decode cX11_appendCharacter 22 = .ok (.if_icmp .ne 7, 3) := by decide +kernel
theorem dX11_appendCharacter_29 : decode cX11_appendCharacter 29 = .ok (.iconst 0, 1) := by decide +kernel
theorem dX11_appendCharacter_30 : decode cX11_appendCharacter 30 = .ok (.putfield 115, 3) := by decide +kernel
theorem dX11_appendCharacter_33 : decode cX11_appendCharacter 33 = .ok (.aload_n 0, 1) := by decide +kernel
theorem dX11_appendCharacter_34 : decode cX11_appendCharacter 34 = .ok (.getfield 115, 3) := by decide +kernel
theorem dX11_appendCharacter_37 : decode cX11_appendCharacter 37 = .ok (.ifCond .le 5, 3) := by decide +kernel
theorem dX11_appendCharacter_40 : decode cX11_appendCharacter 40 = .ok (.iconst 0, 1) := by decide +kernel
theorem dX11_appendCharacter_41 : decode cX11_appendCharacter 41 = .ok (.ireturn, 1) := by decide +kernel
theorem dX11_appendCharacter_42 : decode cX11_appendCharacter 42 = .ok (.aload_n 0, 1) := by decide +kernel
theorem dX11_appendCharacter_43 : decode cX11_appendCharacter 43 = .ok (.getfield 24, 3) := by decide +kernel
theorem dX11_appendCharacter_46 : decode cX11_appendCharacter 46 = .ok (.aload_n 0, 1) := by decide +kernel
theorem dX11_appendCharacter_47 : decode cX11_appendCharacter 47 = .ok (.getfield 128, 3) := by decide +kernel
theorem dX11_appendCharacter_50 : decode cX11_appendCharacter 50 = .ok (.iload_n 1, 1) := by decide +kernel
theorem dX11_appendCharacter_51 : decode cX11_appendCharacter 51 = .ok (.iastore, 1) := by decide +kernel
theorem dX11_appendCharacter_52 : decode cX11_appendCharacter 52 = .ok (.aload_n 0, 1) := by decide +kernel
theorem dX11_appendCharacter_53 : decode cX11_appendCharacter 53 = .ok (.dup, 1) := by decide +kernel
theorem dX11_appendCharacter_54 : decode cX11_appendCharacter 54 = .ok (.getfield 128, 3) := by decide +kernel
theorem dX11_appendCharacter_57 : decode cX11_appendCharacter 57 = .ok (.iconst 1, 1) := by decide +kernel
theorem dX11_appendCharacter_58 : decode cX11_appendCharacter 58 = .ok (.iadd, 1) := by decide +kernel
theorem dX11_appendCharacter_59 : decode cX11_appendCharacter 59 = .ok (.putfield 128, 3) := by decide +kernel
theorem dX11_appendCharacter_62 : decode cX11_appendCharacter 62 = .ok (.aload_n 0, 1) := by decide +kernel
theorem dX11_appendCharacter_63 : decode cX11_appendCharacter 63 = .ok (.getfield 128, 3) := by decide +kernel
theorem dX11_appendCharacter_66 : decode cX11_appendCharacter 66 = .ok (.ireturn, 1) := by decide +kernel
theorem dX11_faultOf_0 : decode cX11_faultOf 0 = .ok (.bipush 6, 2) := by decide +kernel
theorem dX11_faultOf_2 : decode cX11_faultOf 2 = .ok (.newarray .int, 2) := by decide +kernel
theorem dX11_faultOf_4 : decode cX11_faultOf 4 = .ok (.astore_n 1, 1) := by decide +kernel
theorem dX11_faultOf_5 : decode cX11_faultOf 5 = .ok (.iconst 0, 1) := by decide +kernel
theorem dX11_faultOf_6 : decode cX11_faultOf 6 = .ok (.istore_n 2, 1) := by decide +kernel
theorem dX11_faultOf_7 : decode cX11_faultOf 7 = .ok (.iconst 0, 1) := by decide +kernel
theorem dX11_faultOf_8 : decode cX11_faultOf 8 = .ok (.istore_n 3, 1) := by decide +kernel
theorem dX11_faultOf_9 : decode cX11_faultOf 9 = .ok (.iconst 0, 1) := by decide +kernel
theorem dX11_faultOf_10 : decode cX11_faultOf 10 = .ok (.istore 4, 2) := by decide +kernel
theorem dX11_faultOf_12 : decode cX11_faultOf 12 = .ok (.iload 4, 2) := by decide +kernel
theorem dX11_faultOf_14 : decode cX11_faultOf 14 = .ok (.aload_n 0, 1) := by decide +kernel
theorem dX11_faultOf_15 : decode cX11_faultOf 15 = .ok (.getfield 128, 3) := by decide +kernel
theorem dX11_faultOf_18 : decode cX11_faultOf 18 = .ok (.if_icmp .ge 202, 3) := by decide +kernel
theorem dX11_faultOf_220 : decode cX11_faultOf 220 = .ok (.iload_n 2, 1) := by decide +kernel
theorem dX11_faultOf_221 : decode cX11_faultOf 221 = .ok (.ifCond .gt 8, 3) := by decide +kernel
theorem dX11_faultOf_224 : decode cX11_faultOf 224 = .ok (.iload_n 3, 1) := by decide +kernel
theorem dX11_faultOf_225 : decode cX11_faultOf 225 = .ok (.iconst 2, 1) := by decide +kernel
theorem dX11_faultOf_226 : decode cX11_faultOf 226 = .ok (.if_icmp .ne 10, 3) := by decide +kernel
theorem dX11_faultOf_236 : decode cX11_faultOf 236 = .ok (.iconst (-1), 1) := by decide +kernel
theorem dX11_faultOf_237 : decode cX11_faultOf 237 = .ok (.ireturn, 1) := by decide +kernel
theorem dX11_parse_0 : decode cX11_parse 0 = .ok (.aload_n 0, 1) := by decide +kernel
theorem dX11_parse_1 : decode cX11_parse 1 = .ok (.iconst 0, 1) := by decide +kernel
theorem dX11_parse_2 : decode cX11_parse 2 = .ok (.putfield 115, 3) := by decide +kernel
theorem dX11_parse_5 : decode cX11_parse 5 = .ok (.aload_n 0, 1) := by decide +kernel
theorem dX11_parse_6 : decode cX11_parse 6 = .ok (.getfield 128, 3) := by decide +kernel
theorem dX11_parse_9 : decode cX11_parse 9 = .ok (.istore_n 1, 1) := by decide +kernel
theorem dX11_parse_10 : decode cX11_parse 10 = .ok (.aload_n 0, 1) := by decide +kernel
theorem dX11_parse_11 : decode cX11_parse 11 = .ok (.aload_n 0, 1) := by decide +kernel
theorem dX11_parse_12 : decode cX11_parse 12 = .ok (.invokevirtual 138, 3) := by decide +kernel
theorem dX11_parse_15 : decode cX11_parse 15 = .ok (.putfield 27, 3) := by decide +kernel
theorem dX11_parse_18 : decode cX11_parse 18 = .ok (.aload_n 0, 1) := by decide +kernel
theorem dX11_parse_19 : decode cX11_parse 19 = .ok (.getfield 27, 3) := by decide +kernel
theorem dX11_parse_22 : decode cX11_parse 22 = .ok (.ifCond .ge 22, 3) := by decide +kernel
theorem dX11_parse_25 : decode cX11_parse 25 = .ok (.aload_n 0, 1) := by decide +kernel
theorem dX11_parse_26 : decode cX11_parse 26 = .ok (.getfield 24, 3) := by decide +kernel
theorem dX11_parse_29 : decode cX11_parse 29 = .ok (.iconst 0, 1) := by decide +kernel
theorem dX11_parse_30 : decode cX11_parse 30 = .ok (.aload_n 0, 1) := by decide +kernel
theorem dX11_parse_31 : decode cX11_parse 31 = .ok (.getfield 31, 3) := by decide +kernel
theorem dX11_parse_34 : decode cX11_parse 34 = .ok (.iconst 0, 1) := by decide +kernel
theorem dX11_parse_35 : decode cX11_parse 35 = .ok (.iload_n 1, 1) := by decide +kernel
theorem dX11_parse_36 : decode cX11_parse 36 = .ok (.invokestatic 142, 3) := by decide +kernel
theorem dX11_parse_39 : decode cX11_parse 39 = .ok (.aload_n 0, 1) := by decide +kernel
theorem dX11_parse_40 : decode cX11_parse 40 = .ok (.iload_n 1, 1) := by decide +kernel
theorem dX11_parse_41 : decode cX11_parse 41 = .ok (.putfield 34, 3) := by decide +kernel
theorem dX11_parse_44 : decode cX11_parse 44 = .ok (.aload_n 0, 1) := by decide +kernel
theorem dX11_parse_45 : decode cX11_parse 45 = .ok (.iconst 0, 1) := by decide +kernel
theorem dX11_parse_46 : decode cX11_parse 46 = .ok (.putfield 128, 3) := by decide +kernel
theorem dX11_parse_49 : decode cX11_parse 49 = .ok (.aload_n 0, 1) := by decide +kernel
theorem dX11_parse_50 : decode cX11_parse 50 = .ok (.getfield 27, 3) := by decide +kernel
theorem dX11_parse_53 : decode cX11_parse 53 = .ok (.ifCond .ge 7, 3) := by decide +kernel
theorem dX11_parse_56 : decode cX11_parse 56 = .ok (.iload_n 1, 1) := by decide +kernel
theorem dX11_parse_57 : decode cX11_parse 57 = .ok (.goto 8, 3) := by decide +kernel
theorem dX11_parse_65 : decode cX11_parse 65 = .ok (.ireturn, 1) := by decide +kernel
theorem dX11_errorPosition_0 : decode cX11_errorPosition 0 = .ok (.aload_n 0, 1) := by decide +kernel
theorem dX11_errorPosition_1 : decode cX11_errorPosition 1 = .ok (.iconst 0, 1) := by decide +kernel
theorem dX11_errorPosition_2 : decode cX11_errorPosition 2 = .ok (.putfield 115, 3) := by decide +kernel
theorem dX11_errorPosition_5 : decode cX11_errorPosition 5 = .ok (.aload_n 0, 1) := by decide +kernel
theorem dX11_errorPosition_6 : decode cX11_errorPosition 6 = .ok (.getfield 27, 3) := by decide +kernel
theorem dX11_errorPosition_9 : decode cX11_errorPosition 9 = .ok (.ireturn, 1) := by decide +kernel
theorem dX11_formulaVariables_0 : decode cX11_formulaVariables 0 = .ok (.aload_n 0, 1) := by decide +kernel
theorem dX11_formulaVariables_1 : decode cX11_formulaVariables 1 = .ok (.aload_n 0, 1) := by decide +kernel
theorem dX11_formulaVariables_2 : decode cX11_formulaVariables 2 = .ok (.getfield 34, 3) := by decide +kernel
theorem dX11_formulaVariables_5 : decode cX11_formulaVariables 5 = .ok (.ifCond .ge 7, 3) := by decide +kernel
theorem dX11_formulaVariables_8 : decode cX11_formulaVariables 8 = .ok (.iconst 1, 1) := by decide +kernel
theorem dX11_formulaVariables_9 : decode cX11_formulaVariables 9 = .ok (.goto 4, 3) := by decide +kernel
theorem dX11_formulaVariables_13 : decode cX11_formulaVariables 13 = .ok (.putfield 115, 3) := by decide +kernel
theorem dX11_formulaVariables_16 : decode cX11_formulaVariables 16 = .ok (.aload_n 0, 1) := by decide +kernel
theorem dX11_formulaVariables_17 : decode cX11_formulaVariables 17 = .ok (.getfield 115, 3) := by decide +kernel
theorem dX11_formulaVariables_20 : decode cX11_formulaVariables 20 = .ok (.ifCond .le 7, 3) := by decide +kernel
theorem dX11_formulaVariables_23 : decode cX11_formulaVariables 23 = .ok (.iconst 0, 1) := by decide +kernel
theorem dX11_formulaVariables_24 : decode cX11_formulaVariables 24 = .ok (.goto 7, 3) := by decide +kernel
theorem dX11_formulaVariables_31 : decode cX11_formulaVariables 31 = .ok (.ireturn, 1) := by decide +kernel
theorem dX11_formulaKind_0 : decode cX11_formulaKind 0 = .ok (.aload_n 0, 1) := by decide +kernel
theorem dX11_formulaKind_1 : decode cX11_formulaKind 1 = .ok (.aload_n 0, 1) := by decide +kernel
theorem dX11_formulaKind_2 : decode cX11_formulaKind 2 = .ok (.getfield 34, 3) := by decide +kernel
theorem dX11_formulaKind_5 : decode cX11_formulaKind 5 = .ok (.ifCond .ge 7, 3) := by decide +kernel
theorem dX11_formulaKind_8 : decode cX11_formulaKind 8 = .ok (.iconst 1, 1) := by decide +kernel
theorem dX11_formulaKind_9 : decode cX11_formulaKind 9 = .ok (.goto 4, 3) := by decide +kernel
theorem dX11_formulaKind_13 : decode cX11_formulaKind 13 = .ok (.putfield 115, 3) := by decide +kernel
theorem dX11_formulaKind_16 : decode cX11_formulaKind 16 = .ok (.aload_n 0, 1) := by decide +kernel
theorem dX11_formulaKind_17 : decode cX11_formulaKind 17 = .ok (.getfield 115, 3) := by decide +kernel
theorem dX11_formulaKind_20 : decode cX11_formulaKind 20 = .ok (.ifCond .le 5, 3) := by decide +kernel
theorem dX11_formulaKind_23 : decode cX11_formulaKind 23 = .ok (.iconst 0, 1) := by decide +kernel
theorem dX11_formulaKind_24 : decode cX11_formulaKind 24 = .ok (.ireturn, 1) := by decide +kernel
theorem dX11_extract_0 : decode cX11_extract 0 = .ok (.aload_n 0, 1) := by decide +kernel
theorem dX11_extract_1 : decode cX11_extract 1 = .ok (.iload_n 1, 1) := by decide +kernel
theorem dX11_extract_2 : decode cX11_extract 2 = .ok (.invokestatic 258, 3) := by decide +kernel
theorem dX11_extract_5 : decode cX11_extract 5 = .ok (.ifCond .ne 7, 3) := by decide +kernel
theorem dX11_extract_8 : decode cX11_extract 8 = .ok (.iconst 1, 1) := by decide +kernel
theorem dX11_extract_9 : decode cX11_extract 9 = .ok (.goto 15, 3) := by decide +kernel
theorem dX11_extract_12 : decode cX11_extract 12 = .ok (.aload_n 0, 1) := by decide +kernel
theorem dX11_extract_13 : decode cX11_extract 13 = .ok (.getfield 34, 3) := by decide +kernel
theorem dX11_extract_16 : decode cX11_extract 16 = .ok (.ifCond .ge 7, 3) := by decide +kernel
theorem dX11_extract_19 : decode cX11_extract 19 = .ok (.iconst 2, 1) := by decide +kernel
theorem dX11_extract_20 : decode cX11_extract 20 = .ok (.goto 4, 3) := by decide +kernel
theorem dX11_extract_24 : decode cX11_extract 24 = .ok (.putfield 115, 3) := by decide +kernel
theorem dX11_extract_27 : decode cX11_extract 27 = .ok (.aload_n 0, 1) := by decide +kernel
theorem dX11_extract_28 : decode cX11_extract 28 = .ok (.getfield 115, 3) := by decide +kernel
theorem dX11_extract_31 : decode cX11_extract 31 = .ok (.ifCond .le 5, 3) := by decide +kernel
theorem dX11_extract_34 : decode cX11_extract 34 = .ok (.iconst 0, 1) := by decide +kernel
theorem dX11_extract_35 : decode cX11_extract 35 = .ok (.ireturn, 1) := by decide +kernel
theorem dX11_unreadable_0 : decode cX11_unreadable 0 = .ok (.iload_n 1, 1) := by decide +kernel
theorem dX11_unreadable_1 : decode cX11_unreadable 1 = .ok (.invokestatic 258, 3) := by decide +kernel
theorem dX11_unreadable_4 : decode cX11_unreadable 4 = .ok (.ifCond .ne 7, 3) := by decide +kernel
theorem dX11_unreadable_7 : decode cX11_unreadable 7 = .ok (.iconst 1, 1) := by decide +kernel
theorem dX11_unreadable_8 : decode cX11_unreadable 8 = .ok (.goto 17, 3) := by decide +kernel
theorem dX11_unreadable_11 : decode cX11_unreadable 11 = .ok (.aload_n 0, 1) := by decide +kernel
theorem dX11_unreadable_12 : decode cX11_unreadable 12 = .ok (.getfield 37, 3) := by decide +kernel
theorem dX11_unreadable_15 : decode cX11_unreadable 15 = .ok (.iload_n 1, 1) := by decide +kernel
theorem dX11_unreadable_16 : decode cX11_unreadable 16 = .ok (.iaload, 1) := by decide +kernel
theorem dX11_unreadable_17 : decode cX11_unreadable 17 = .ok (.ifCond .ge 7, 3) := by decide +kernel
theorem dX11_unreadable_20 : decode cX11_unreadable 20 = .ok (.iload_n 2, 1) := by decide +kernel
theorem dX11_unreadable_21 : decode cX11_unreadable 21 = .ok (.goto 4, 3) := by decide +kernel
theorem dX11_unreadable_25 : decode cX11_unreadable 25 = .ok (.ireturn, 1) := by decide +kernel
theorem dX11_size_0 : decode cX11_size 0 = .ok (.aload_n 0, 1) := by decide +kernel
theorem dX11_size_1 : decode cX11_size 1 = .ok (.aload_n 0, 1) := by decide +kernel
theorem dX11_size_2 : decode cX11_size 2 = .ok (.iload_n 1, 1) := by decide +kernel
theorem dX11_size_3 : decode cX11_size 3 = .ok (.iconst 2, 1) := by decide +kernel
theorem dX11_size_4 : decode cX11_size 4 = .ok (.invokevirtual 270, 3) := by decide +kernel
theorem dX11_size_7 : decode cX11_size 7 = .ok (.putfield 115, 3) := by decide +kernel
theorem dX11_size_10 : decode cX11_size 10 = .ok (.aload_n 0, 1) := by decide +kernel
theorem dX11_size_11 : decode cX11_size 11 = .ok (.getfield 115, 3) := by decide +kernel
theorem dX11_size_14 : decode cX11_size 14 = .ok (.ifCond .le 7, 3) := by decide +kernel
theorem dX11_size_17 : decode cX11_size 17 = .ok (.iconst 0, 1) := by decide +kernel
theorem dX11_size_18 : decode cX11_size 18 = .ok (.goto 9, 3) := by decide +kernel
theorem dX11_size_27 : decode cX11_size 27 = .ok (.ireturn, 1) := by decide +kernel
theorem dX11_spanAt_0 : decode cX11_spanAt 0 = .ok (.aload_n 0, 1) := by decide +kernel
theorem dX11_spanAt_1 : decode cX11_spanAt 1 = .ok (.aload_n 0, 1) := by decide +kernel
theorem dX11_spanAt_2 : decode cX11_spanAt 2 = .ok (.iload_n 1, 1) := by decide +kernel
theorem dX11_spanAt_3 : decode cX11_spanAt 3 = .ok (.iconst 2, 1) := by decide +kernel
theorem dX11_spanAt_4 : decode cX11_spanAt 4 = .ok (.invokevirtual 270, 3) := by decide +kernel
theorem dX11_spanAt_7 : decode cX11_spanAt 7 = .ok (.putfield 115, 3) := by decide +kernel
theorem dX11_spanAt_10 : decode cX11_spanAt 10 = .ok (.aload_n 0, 1) := by decide +kernel
theorem dX11_spanAt_11 : decode cX11_spanAt 11 = .ok (.getfield 115, 3) := by decide +kernel
theorem dX11_spanAt_14 : decode cX11_spanAt 14 = .ok (.ifCond .ne 31, 3) := by decide +kernel
theorem dX11_spanAt_45 : decode cX11_spanAt 45 = .ok (.aload_n 0, 1) := by decide +kernel
theorem dX11_spanAt_46 : decode cX11_spanAt 46 = .ok (.getfield 115, 3) := by decide +kernel
theorem dX11_spanAt_49 : decode cX11_spanAt 49 = .ok (.ifCond .le 7, 3) := by decide +kernel
theorem dX11_spanAt_52 : decode cX11_spanAt 52 = .ok (.iconst 0, 1) := by decide +kernel
theorem dX11_spanAt_53 : decode cX11_spanAt 53 = .ok (.goto 13, 3) := by decide +kernel
theorem dX11_spanAt_66 : decode cX11_spanAt 66 = .ok (.ireturn, 1) := by decide +kernel
theorem dX11_start_0 : decode cX11_start 0 = .ok (.aload_n 0, 1) := by decide +kernel
theorem dX11_start_1 : decode cX11_start 1 = .ok (.iload_n 1, 1) := by decide +kernel
theorem dX11_start_2 : decode cX11_start 2 = .ok (.iload_n 2, 1) := by decide +kernel
theorem dX11_start_3 : decode cX11_start 3 = .ok (.iload_n 3, 1) := by decide +kernel
theorem dX11_start_4 : decode cX11_start 4 = .ok (.invokevirtual 282, 3) := by decide +kernel
theorem dX11_start_7 : decode cX11_start 7 = .ok (.istore 4, 2) := by decide +kernel
theorem dX11_start_9 : decode cX11_start 9 = .ok (.aload_n 0, 1) := by decide +kernel
theorem dX11_start_10 : decode cX11_start 10 = .ok (.getfield 115, 3) := by decide +kernel
theorem dX11_start_13 : decode cX11_start 13 = .ok (.ifCond .le 7, 3) := by decide +kernel
theorem dX11_start_16 : decode cX11_start 16 = .ok (.iconst 0, 1) := by decide +kernel
theorem dX11_start_17 : decode cX11_start 17 = .ok (.goto 19, 3) := by decide +kernel
theorem dX11_start_36 : decode cX11_start 36 = .ok (.ireturn, 1) := by decide +kernel
theorem dX11_end_0 : decode cX11_end 0 = .ok (.aload_n 0, 1) := by decide +kernel
theorem dX11_end_1 : decode cX11_end 1 = .ok (.iload_n 1, 1) := by decide +kernel
theorem dX11_end_2 : decode cX11_end 2 = .ok (.iload_n 2, 1) := by decide +kernel
theorem dX11_end_3 : decode cX11_end 3 = .ok (.iload_n 3, 1) := by decide +kernel
theorem dX11_end_4 : decode cX11_end 4 = .ok (.invokevirtual 282, 3) := by decide +kernel
theorem dX11_end_7 : decode cX11_end 7 = .ok (.istore 4, 2) := by decide +kernel
theorem dX11_end_9 : decode cX11_end 9 = .ok (.aload_n 0, 1) := by decide +kernel
theorem dX11_end_10 : decode cX11_end 10 = .ok (.getfield 115, 3) := by decide +kernel
theorem dX11_end_13 : decode cX11_end 13 = .ok (.ifCond .le 7, 3) := by decide +kernel
theorem dX11_end_16 : decode cX11_end 16 = .ok (.iconst 0, 1) := by decide +kernel
theorem dX11_end_17 : decode cX11_end 17 = .ok (.goto 19, 3) := by decide +kernel
theorem dX11_end_36 : decode cX11_end 36 = .ok (.ireturn, 1) := by decide +kernel
theorem dX11_domain_0 : decode cX11_domain 0 = .ok (.aload_n 0, 1) := by decide +kernel
theorem dX11_domain_1 : decode cX11_domain 1 = .ok (.aload_n 0, 1) := by decide +kernel
theorem dX11_domain_2 : decode cX11_domain 2 = .ok (.iload_n 1, 1) := by decide +kernel
theorem dX11_domain_3 : decode cX11_domain 3 = .ok (.iconst 2, 1) := by decide +kernel
theorem dX11_domain_4 : decode cX11_domain 4 = .ok (.invokevirtual 270, 3) := by decide +kernel
theorem dX11_domain_7 : decode cX11_domain 7 = .ok (.putfield 115, 3) := by decide +kernel
theorem dX11_domain_10 : decode cX11_domain 10 = .ok (.iconst 0, 1) := by decide +kernel
theorem dX11_domain_11 : decode cX11_domain 11 = .ok (.istore_n 2, 1) := by decide +kernel
theorem dX11_domain_12 : decode cX11_domain 12 = .ok (.iconst 0, 1) := by decide +kernel
theorem dX11_domain_13 : decode cX11_domain 13 = .ok (.istore_n 3, 1) := by decide +kernel
theorem dX11_domain_14 : decode cX11_domain 14 = .ok (.aload_n 0, 1) := by decide +kernel
theorem dX11_domain_15 : decode cX11_domain 15 = .ok (.getfield 115, 3) := by decide +kernel
theorem dX11_domain_18 : decode cX11_domain 18 = .ok (.ifCond .ne 59, 3) := by decide +kernel
theorem dX11_domain_77 : decode cX11_domain 77 = .ok (.iload_n 2, 1) := by decide +kernel
theorem dX11_domain_78 : decode cX11_domain 78 = .ok (.ireturn, 1) := by decide +kernel
theorem dX11_clear_0 : decode cX11_clear 0 = .ok (.aload_n 0, 1) := by decide +kernel
theorem dX11_clear_1 : decode cX11_clear 1 = .ok (.iload_n 1, 1) := by decide +kernel
theorem dX11_clear_2 : decode cX11_clear 2 = .ok (.invokestatic 258, 3) := by decide +kernel
theorem dX11_clear_5 : decode cX11_clear 5 = .ok (.ifCond .eq 7, 3) := by decide +kernel
theorem dX11_clear_8 : decode cX11_clear 8 = .ok (.iconst 0, 1) := by decide +kernel
theorem dX11_clear_9 : decode cX11_clear 9 = .ok (.goto 4, 3) := by decide +kernel
theorem dX11_clear_12 : decode cX11_clear 12 = .ok (.iconst 1, 1) := by decide +kernel
theorem dX11_clear_13 : decode cX11_clear 13 = .ok (.putfield 115, 3) := by decide +kernel
theorem dX11_clear_16 : decode cX11_clear 16 = .ok (.aload_n 0, 1) := by decide +kernel
theorem dX11_clear_17 : decode cX11_clear 17 = .ok (.getfield 115, 3) := by decide +kernel
theorem dX11_clear_20 : decode cX11_clear 20 = .ok (.ifCond .le 5, 3) := by decide +kernel
theorem dX11_clear_23 : decode cX11_clear 23 = .ok (.iconst 0, 1) := by decide +kernel
theorem dX11_clear_24 : decode cX11_clear 24 = .ok (.ireturn, 1) := by decide +kernel
theorem dX11_clear_25 : decode cX11_clear 25 = .ok (.aload_n 0, 1) := by decide +kernel
theorem dX11_clear_26 : decode cX11_clear 26 = .ok (.getfield 37, 3) := by decide +kernel
theorem dX11_clear_29 : decode cX11_clear 29 = .ok (.iload_n 1, 1) := by decide +kernel
theorem dX11_clear_30 : decode cX11_clear 30 = .ok (.iaload, 1) := by decide +kernel
theorem dX11_clear_31 : decode cX11_clear 31 = .ok (.istore_n 2, 1) := by decide +kernel
theorem dX11_clear_32 : decode cX11_clear 32 = .ok (.aload_n 0, 1) := by decide +kernel
theorem dX11_clear_33 : decode cX11_clear 33 = .ok (.getfield 37, 3) := by decide +kernel
theorem dX11_clear_36 : decode cX11_clear 36 = .ok (.iload_n 1, 1) := by decide +kernel
theorem dX11_clear_37 : decode cX11_clear 37 = .ok (.iconst (-1), 1) := by decide +kernel
theorem dX11_clear_38 : decode cX11_clear 38 = .ok (.iastore, 1) := by decide +kernel
theorem dX11_clear_39 : decode cX11_clear 39 = .ok (.aload_n 0, 1) := by decide +kernel
theorem dX11_clear_40 : decode cX11_clear 40 = .ok (.aload_n 0, 1) := by decide +kernel
theorem dX11_clear_41 : decode cX11_clear 41 = .ok (.getfield 43, 3) := by decide +kernel
theorem dX11_clear_44 : decode cX11_clear 44 = .ok (.iload_n 1, 1) := by decide +kernel
theorem dX11_clear_45 : decode cX11_clear 45 = .ok (.if_icmp .ne 7, 3) := by decide +kernel
theorem dX11_clear_52 : decode cX11_clear 52 = .ok (.aload_n 0, 1) := by decide +kernel
theorem dX11_clear_53 : decode cX11_clear 53 = .ok (.getfield 43, 3) := by decide +kernel
theorem dX11_clear_56 : decode cX11_clear 56 = .ok (.putfield 43, 3) := by decide +kernel
theorem dX11_clear_59 : decode cX11_clear 59 = .ok (.iload_n 2, 1) := by decide +kernel
theorem dX11_clear_60 : decode cX11_clear 60 = .ok (.ireturn, 1) := by decide +kernel
theorem dX11_unfit_0 : decode cX11_unfit 0 = .ok (.iload_n 1, 1) := by decide +kernel
theorem dX11_unfit_1 : decode cX11_unfit 1 = .ok (.invokestatic 258, 3) := by decide +kernel
theorem dX11_unfit_4 : decode cX11_unfit 4 = .ok (.ifCond .eq 17, 3) := by decide +kernel
theorem dX11_unfit_7 : decode cX11_unfit 7 = .ok (.iload_n 2, 1) := by decide +kernel
theorem dX11_unfit_8 : decode cX11_unfit 8 = .ok (.invokestatic 258, 3) := by decide +kernel
theorem dX11_unfit_11 : decode cX11_unfit 11 = .ok (.ifCond .eq 10, 3) := by decide +kernel
theorem dX11_unfit_14 : decode cX11_unfit 14 = .ok (.iload_n 3, 1) := by decide +kernel
theorem dX11_unfit_15 : decode cX11_unfit 15 = .ok (.invokestatic 258, 3) := by decide +kernel
theorem dX11_unfit_18 : decode cX11_unfit 18 = .ok (.ifCond .ne 7, 3) := by decide +kernel
theorem dX11_unfit_21 : decode cX11_unfit 21 = .ok (.iconst 1, 1) := by decide +kernel
theorem dX11_unfit_22 : decode cX11_unfit 22 = .ok (.goto 27, 3) := by decide +kernel
theorem dX11_unfit_25 : decode cX11_unfit 25 = .ok (.aload_n 0, 1) := by decide +kernel
theorem dX11_unfit_26 : decode cX11_unfit 26 = .ok (.getfield 37, 3) := by decide +kernel
theorem dX11_unfit_29 : decode cX11_unfit 29 = .ok (.iload_n 1, 1) := by decide +kernel
theorem dX11_unfit_30 : decode cX11_unfit 30 = .ok (.iaload, 1) := by decide +kernel
theorem dX11_unfit_31 : decode cX11_unfit 31 = .ok (.ifCond .lt 12, 3) := by decide +kernel
theorem dX11_unfit_43 : decode cX11_unfit 43 = .ok (.iload 4, 2) := by decide +kernel
theorem dX11_unfit_45 : decode cX11_unfit 45 = .ok (.goto 4, 3) := by decide +kernel
theorem dX11_unfit_49 : decode cX11_unfit 49 = .ok (.ireturn, 1) := by decide +kernel
theorem dX11_union_0 : decode cX11_union 0 = .ok (.aload_n 0, 1) := by decide +kernel
theorem dX11_union_1 : decode cX11_union 1 = .ok (.aload_n 0, 1) := by decide +kernel
theorem dX11_union_2 : decode cX11_union 2 = .ok (.iload_n 1, 1) := by decide +kernel
theorem dX11_union_3 : decode cX11_union 3 = .ok (.iload_n 2, 1) := by decide +kernel
theorem dX11_union_4 : decode cX11_union 4 = .ok (.iload_n 3, 1) := by decide +kernel
theorem dX11_union_5 : decode cX11_union 5 = .ok (.iconst 2, 1) := by decide +kernel
theorem dX11_union_6 : decode cX11_union 6 = .ok (.invokevirtual 285, 3) := by decide +kernel
theorem dX11_union_9 : decode cX11_union 9 = .ok (.putfield 115, 3) := by decide +kernel
theorem dX11_union_12 : decode cX11_union 12 = .ok (.aload_n 0, 1) := by decide +kernel
theorem dX11_union_13 : decode cX11_union 13 = .ok (.getfield 115, 3) := by decide +kernel
theorem dX11_union_16 : decode cX11_union 16 = .ok (.ifCond .le 5, 3) := by decide +kernel
theorem dX11_union_19 : decode cX11_union 19 = .ok (.iconst 0, 1) := by decide +kernel
theorem dX11_union_20 : decode cX11_union 20 = .ok (.ireturn, 1) := by decide +kernel
theorem dX11_join_0 : decode cX11_join 0 = .ok (.aload_n 0, 1) := by decide +kernel
theorem dX11_join_1 : decode cX11_join 1 = .ok (.aload_n 0, 1) := by decide +kernel
theorem dX11_join_2 : decode cX11_join 2 = .ok (.iload_n 1, 1) := by decide +kernel
theorem dX11_join_3 : decode cX11_join 3 = .ok (.iload_n 2, 1) := by decide +kernel
theorem dX11_join_4 : decode cX11_join 4 = .ok (.iload_n 3, 1) := by decide +kernel
theorem dX11_join_5 : decode cX11_join 5 = .ok (.iconst 2, 1) := by decide +kernel
theorem dX11_join_6 : decode cX11_join 6 = .ok (.invokevirtual 285, 3) := by decide +kernel
theorem dX11_join_9 : decode cX11_join 9 = .ok (.putfield 115, 3) := by decide +kernel
theorem dX11_join_12 : decode cX11_join 12 = .ok (.aload_n 0, 1) := by decide +kernel
theorem dX11_join_13 : decode cX11_join 13 = .ok (.getfield 115, 3) := by decide +kernel
theorem dX11_join_16 : decode cX11_join 16 = .ok (.ifCond .le 5, 3) := by decide +kernel
theorem dX11_join_19 : decode cX11_join 19 = .ok (.iconst 0, 1) := by decide +kernel
theorem dX11_join_20 : decode cX11_join 20 = .ok (.ireturn, 1) := by decide +kernel
theorem dX11_minus_0 : decode cX11_minus 0 = .ok (.aload_n 0, 1) := by decide +kernel
theorem dX11_minus_1 : decode cX11_minus 1 = .ok (.aload_n 0, 1) := by decide +kernel
theorem dX11_minus_2 : decode cX11_minus 2 = .ok (.iload_n 1, 1) := by decide +kernel
theorem dX11_minus_3 : decode cX11_minus 3 = .ok (.iload_n 2, 1) := by decide +kernel
theorem dX11_minus_4 : decode cX11_minus 4 = .ok (.iload_n 3, 1) := by decide +kernel
theorem dX11_minus_5 : decode cX11_minus 5 = .ok (.iconst 2, 1) := by decide +kernel
theorem dX11_minus_6 : decode cX11_minus 6 = .ok (.invokevirtual 285, 3) := by decide +kernel
theorem dX11_minus_9 : decode cX11_minus 9 = .ok (.putfield 115, 3) := by decide +kernel
theorem dX11_minus_12 : decode cX11_minus 12 = .ok (.aload_n 0, 1) := by decide +kernel
theorem dX11_minus_13 : decode cX11_minus 13 = .ok (.getfield 115, 3) := by decide +kernel
theorem dX11_minus_16 : decode cX11_minus 16 = .ok (.ifCond .le 5, 3) := by decide +kernel
theorem dX11_minus_19 : decode cX11_minus 19 = .ok (.iconst 0, 1) := by decide +kernel
theorem dX11_minus_20 : decode cX11_minus 20 = .ok (.ireturn, 1) := by decide +kernel
theorem dX11_antijoin_0 : decode cX11_antijoin 0 = .ok (.aload_n 0, 1) := by decide +kernel
theorem dX11_antijoin_1 : decode cX11_antijoin 1 = .ok (.aload_n 0, 1) := by decide +kernel
theorem dX11_antijoin_2 : decode cX11_antijoin 2 = .ok (.iload_n 1, 1) := by decide +kernel
theorem dX11_antijoin_3 : decode cX11_antijoin 3 = .ok (.iload_n 2, 1) := by decide +kernel
theorem dX11_antijoin_4 : decode cX11_antijoin 4 = .ok (.iload_n 3, 1) := by decide +kernel
theorem dX11_antijoin_5 : decode cX11_antijoin 5 = .ok (.iconst 2, 1) := by decide +kernel
theorem dX11_antijoin_6 : decode cX11_antijoin 6 = .ok (.invokevirtual 285, 3) := by decide +kernel
theorem dX11_antijoin_9 : decode cX11_antijoin 9 = .ok (.putfield 115, 3) := by decide +kernel
theorem dX11_antijoin_12 : decode cX11_antijoin 12 = .ok (.aload_n 0, 1) := by decide +kernel
theorem dX11_antijoin_13 : decode cX11_antijoin 13 = .ok (.getfield 115, 3) := by decide +kernel
theorem dX11_antijoin_16 : decode cX11_antijoin 16 = .ok (.ifCond .le 5, 3) := by decide +kernel
theorem dX11_antijoin_19 : decode cX11_antijoin 19 = .ok (.iconst 0, 1) := by decide +kernel
theorem dX11_antijoin_20 : decode cX11_antijoin 20 = .ok (.ireturn, 1) := by decide +kernel
theorem dX11_project_0 : decode cX11_project 0 = .ok (.aload_n 0, 1) := by decide +kernel
theorem dX11_project_1 : decode cX11_project 1 = .ok (.iload_n 1, 1) := by decide +kernel
theorem dX11_project_2 : decode cX11_project 2 = .ok (.invokestatic 258, 3) := by decide +kernel
theorem dX11_project_5 : decode cX11_project 5 = .ok (.ifCond .eq 10, 3) := by decide +kernel
theorem dX11_project_8 : decode cX11_project 8 = .ok (.iload_n 3, 1) := by decide +kernel
theorem dX11_project_9 : decode cX11_project 9 = .ok (.invokestatic 258, 3) := by decide +kernel
theorem dX11_project_12 : decode cX11_project 12 = .ok (.ifCond .ne 7, 3) := by decide +kernel
theorem dX11_project_15 : decode cX11_project 15 = .ok (.iconst 1, 1) := by decide +kernel
theorem dX11_project_16 : decode cX11_project 16 = .ok (.goto 31, 3) := by decide +kernel
theorem dX11_project_19 : decode cX11_project 19 = .ok (.iload_n 2, 1) := by decide +kernel
theorem dX11_project_20 : decode cX11_project 20 = .ok (.iconst 0, 1) := by decide +kernel
theorem dX11_project_21 : decode cX11_project 21 = .ok (.bipush 7, 2) := by decide +kernel
theorem dX11_project_23 : decode cX11_project 23 = .ok (.invokestatic 118, 3) := by decide +kernel
theorem dX11_project_26 : decode cX11_project 26 = .ok (.ifCond .ne 7, 3) := by decide +kernel
theorem dX11_project_29 : decode cX11_project 29 = .ok (.iconst 2, 1) := by decide +kernel
theorem dX11_project_30 : decode cX11_project 30 = .ok (.goto 17, 3) := by decide +kernel
theorem dX11_project_33 : decode cX11_project 33 = .ok (.aload_n 0, 1) := by decide +kernel
theorem dX11_project_34 : decode cX11_project 34 = .ok (.getfield 37, 3) := by decide +kernel
theorem dX11_project_37 : decode cX11_project 37 = .ok (.iload_n 1, 1) := by decide +kernel
theorem dX11_project_38 : decode cX11_project 38 = .ok (.iaload, 1) := by decide +kernel
theorem dX11_project_39 : decode cX11_project 39 = .ok (.ifCond .ge 7, 3) := by decide +kernel
theorem dX11_project_42 : decode cX11_project 42 = .ok (.iconst 3, 1) := by decide +kernel
theorem dX11_project_43 : decode cX11_project 43 = .ok (.goto 4, 3) := by decide +kernel
theorem dX11_project_47 : decode cX11_project 47 = .ok (.putfield 115, 3) := by decide +kernel
theorem dX11_project_50 : decode cX11_project 50 = .ok (.aload_n 0, 1) := by decide +kernel
theorem dX11_project_51 : decode cX11_project 51 = .ok (.getfield 115, 3) := by decide +kernel
theorem dX11_project_54 : decode cX11_project 54 = .ok (.ifCond .le 5, 3) := by decide +kernel
theorem dX11_project_57 : decode cX11_project 57 = .ok (.iconst 0, 1) := by decide +kernel
theorem dX11_project_58 : decode cX11_project 58 = .ok (.ireturn, 1) := by decide +kernel
theorem dX11_unfitPair_0 : decode cX11_unfitPair 0 = .ok (.iload_n 1, 1) := by decide +kernel
theorem dX11_unfitPair_1 : decode cX11_unfitPair 1 = .ok (.invokestatic 258, 3) := by decide +kernel
theorem dX11_unfitPair_4 : decode cX11_unfitPair 4 = .ok (.ifCond .eq 25, 3) := by decide +kernel
theorem dX11_unfitPair_7 : decode cX11_unfitPair 7 = .ok (.iload 4, 2) := by decide +kernel
theorem dX11_unfitPair_9 : decode cX11_unfitPair 9 = .ok (.invokestatic 258, 3) := by decide +kernel
theorem dX11_unfitPair_12 : decode cX11_unfitPair 12 = .ok (.ifCond .eq 17, 3) := by decide +kernel
theorem dX11_unfitPair_15 : decode cX11_unfitPair 15 = .ok (.iload_n 2, 1) := by decide +kernel
theorem dX11_unfitPair_16 : decode cX11_unfitPair 16 = .ok (.invokestatic 273, 3) := by decide +kernel
theorem dX11_unfitPair_19 : decode cX11_unfitPair 19 = .ok (.ifCond .eq 10, 3) := by decide +kernel
theorem dX11_unfitPair_22 : decode cX11_unfitPair 22 = .ok (.iload_n 3, 1) := by decide +kernel
theorem dX11_unfitPair_23 : decode cX11_unfitPair 23 = .ok (.invokestatic 273, 3) := by decide +kernel
theorem dX11_unfitPair_26 : decode cX11_unfitPair 26 = .ok (.ifCond .ne 7, 3) := by decide +kernel
theorem dX11_unfitPair_29 : decode cX11_unfitPair 29 = .ok (.iconst 1, 1) := by decide +kernel
theorem dX11_unfitPair_30 : decode cX11_unfitPair 30 = .ok (.goto 17, 3) := by decide +kernel
theorem dX11_unfitPair_33 : decode cX11_unfitPair 33 = .ok (.aload_n 0, 1) := by decide +kernel
theorem dX11_unfitPair_34 : decode cX11_unfitPair 34 = .ok (.getfield 37, 3) := by decide +kernel
theorem dX11_unfitPair_37 : decode cX11_unfitPair 37 = .ok (.iload_n 1, 1) := by decide +kernel
theorem dX11_unfitPair_38 : decode cX11_unfitPair 38 = .ok (.iaload, 1) := by decide +kernel
theorem dX11_unfitPair_39 : decode cX11_unfitPair 39 = .ok (.ifCond .ge 7, 3) := by decide +kernel
theorem dX11_unfitPair_42 : decode cX11_unfitPair 42 = .ok (.iconst 2, 1) := by decide +kernel
theorem dX11_unfitPair_43 : decode cX11_unfitPair 43 = .ok (.goto 4, 3) := by decide +kernel
theorem dX11_unfitPair_47 : decode cX11_unfitPair 47 = .ok (.ireturn, 1) := by decide +kernel
theorem dX11_exchange_0 : decode cX11_exchange 0 = .ok (.aload_n 0, 1) := by decide +kernel
theorem dX11_exchange_1 : decode cX11_exchange 1 = .ok (.aload_n 0, 1) := by decide +kernel
theorem dX11_exchange_2 : decode cX11_exchange 2 = .ok (.iload_n 1, 1) := by decide +kernel
theorem dX11_exchange_3 : decode cX11_exchange 3 = .ok (.iload_n 2, 1) := by decide +kernel
theorem dX11_exchange_4 : decode cX11_exchange 4 = .ok (.iload_n 3, 1) := by decide +kernel
theorem dX11_exchange_5 : decode cX11_exchange 5 = .ok (.iload 4, 2) := by decide +kernel
theorem dX11_exchange_7 : decode cX11_exchange 7 = .ok (.invokevirtual 307, 3) := by decide +kernel
theorem dX11_exchange_10 : decode cX11_exchange 10 = .ok (.putfield 115, 3) := by decide +kernel
theorem dX11_exchange_13 : decode cX11_exchange 13 = .ok (.aload_n 0, 1) := by decide +kernel
theorem dX11_exchange_14 : decode cX11_exchange 14 = .ok (.getfield 115, 3) := by decide +kernel
theorem dX11_exchange_17 : decode cX11_exchange 17 = .ok (.ifCond .le 5, 3) := by decide +kernel
theorem dX11_exchange_20 : decode cX11_exchange 20 = .ok (.iconst 0, 1) := by decide +kernel
theorem dX11_exchange_21 : decode cX11_exchange 21 = .ok (.ireturn, 1) := by decide +kernel
theorem dX11_selectEqual_0 : decode cX11_selectEqual 0 = .ok (.aload_n 0, 1) := by decide +kernel
theorem dX11_selectEqual_1 : decode cX11_selectEqual 1 = .ok (.aload_n 0, 1) := by decide +kernel
theorem dX11_selectEqual_2 : decode cX11_selectEqual 2 = .ok (.iload_n 1, 1) := by decide +kernel
theorem dX11_selectEqual_3 : decode cX11_selectEqual 3 = .ok (.iload_n 2, 1) := by decide +kernel
theorem dX11_selectEqual_4 : decode cX11_selectEqual 4 = .ok (.iload_n 3, 1) := by decide +kernel
theorem dX11_selectEqual_5 : decode cX11_selectEqual 5 = .ok (.iload 4, 2) := by decide +kernel
theorem dX11_selectEqual_7 : decode cX11_selectEqual 7 = .ok (.invokevirtual 307, 3) := by decide +kernel
theorem dX11_selectEqual_10 : decode cX11_selectEqual 10 = .ok (.putfield 115, 3) := by decide +kernel
theorem dX11_selectEqual_13 : decode cX11_selectEqual 13 = .ok (.aload_n 0, 1) := by decide +kernel
theorem dX11_selectEqual_14 : decode cX11_selectEqual 14 = .ok (.getfield 115, 3) := by decide +kernel
theorem dX11_selectEqual_17 : decode cX11_selectEqual 17 = .ok (.ifCond .le 5, 3) := by decide +kernel
theorem dX11_selectEqual_20 : decode cX11_selectEqual 20 = .ok (.iconst 0, 1) := by decide +kernel
theorem dX11_selectEqual_21 : decode cX11_selectEqual 21 = .ok (.ireturn, 1) := by decide +kernel
theorem dX11_selectLength_0 : decode cX11_selectLength 0 = .ok (.aload_n 0, 1) := by decide +kernel
theorem dX11_selectLength_1 : decode cX11_selectLength 1 = .ok (.aload_n 0, 1) := by decide +kernel
theorem dX11_selectLength_2 : decode cX11_selectLength 2 = .ok (.iload_n 1, 1) := by decide +kernel
theorem dX11_selectLength_3 : decode cX11_selectLength 3 = .ok (.iload_n 2, 1) := by decide +kernel
theorem dX11_selectLength_4 : decode cX11_selectLength 4 = .ok (.iload_n 2, 1) := by decide +kernel
theorem dX11_selectLength_5 : decode cX11_selectLength 5 = .ok (.iload 5, 2) := by decide +kernel
theorem dX11_selectLength_7 : decode cX11_selectLength 7 = .ok (.invokevirtual 307, 3) := by decide +kernel
theorem dX11_selectLength_10 : decode cX11_selectLength 10 = .ok (.putfield 115, 3) := by decide +kernel
theorem dX11_selectLength_13 : decode cX11_selectLength 13 = .ok (.aload_n 0, 1) := by decide +kernel
theorem dX11_selectLength_14 : decode cX11_selectLength 14 = .ok (.getfield 115, 3) := by decide +kernel
theorem dX11_selectLength_17 : decode cX11_selectLength 17 = .ok (.ifCond .le 5, 3) := by decide +kernel
theorem dX11_selectLength_20 : decode cX11_selectLength 20 = .ok (.iconst 0, 1) := by decide +kernel
theorem dX11_selectLength_21 : decode cX11_selectLength 21 = .ok (.ireturn, 1) := by decide +kernel
theorem dX11_selectRelation_0 : decode cX11_selectRelation 0 = .ok (.aload_n 0, 1) := by decide +kernel
theorem dX11_selectRelation_1 : decode cX11_selectRelation 1 = .ok (.iload_n 1, 1) := by decide +kernel
theorem dX11_selectRelation_2 : decode cX11_selectRelation 2 = .ok (.iload_n 2, 1) := by decide +kernel
theorem dX11_selectRelation_3 : decode cX11_selectRelation 3 = .ok (.iload_n 3, 1) := by decide +kernel
theorem dX11_selectRelation_4 : decode cX11_selectRelation 4 = .ok (.iload 5, 2) := by decide +kernel
theorem dX11_selectRelation_6 : decode cX11_selectRelation 6 = .ok (.invokevirtual 307, 3) := by decide +kernel
theorem dX11_selectRelation_9 : decode cX11_selectRelation 9 = .ok (.istore 6, 2) := by decide +kernel
theorem dX11_selectRelation_11 : decode cX11_selectRelation 11 = .ok (.aload_n 0, 1) := by decide +kernel
theorem dX11_selectRelation_12 : decode cX11_selectRelation 12 = .ok (.iload 6, 2) := by decide +kernel
theorem dX11_selectRelation_14 : decode cX11_selectRelation 14 = .ok (.iconst 1, 1) := by decide +kernel
theorem dX11_selectRelation_15 : decode cX11_selectRelation 15 = .ok (.if_icmp .ne 7, 3) := by decide +kernel
theorem dX11_selectRelation_18 : decode cX11_selectRelation 18 = .ok (.iconst 1, 1) := by decide +kernel
theorem dX11_selectRelation_19 : decode cX11_selectRelation 19 = .ok (.goto 28, 3) := by decide +kernel
theorem dX11_selectRelation_22 : decode cX11_selectRelation 22 = .ok (.iload 4, 2) := by decide +kernel
theorem dX11_selectRelation_24 : decode cX11_selectRelation 24 = .ok (.iconst 0, 1) := by decide +kernel
theorem dX11_selectRelation_25 : decode cX11_selectRelation 25 = .ok (.iconst 3, 1) := by decide +kernel
theorem dX11_selectRelation_26 : decode cX11_selectRelation 26 = .ok (.invokestatic 118, 3) := by decide +kernel
theorem dX11_selectRelation_29 : decode cX11_selectRelation 29 = .ok (.ifCond .ne 7, 3) := by decide +kernel
theorem dX11_selectRelation_32 : decode cX11_selectRelation 32 = .ok (.iconst 2, 1) := by decide +kernel
theorem dX11_selectRelation_33 : decode cX11_selectRelation 33 = .ok (.goto 14, 3) := by decide +kernel
theorem dX11_selectRelation_36 : decode cX11_selectRelation 36 = .ok (.iload 6, 2) := by decide +kernel
theorem dX11_selectRelation_38 : decode cX11_selectRelation 38 = .ok (.iconst 2, 1) := by decide +kernel
theorem dX11_selectRelation_39 : decode cX11_selectRelation 39 = .ok (.if_icmp .ne 7, 3) := by decide +kernel
theorem dX11_selectRelation_42 : decode cX11_selectRelation 42 = .ok (.iconst 3, 1) := by decide +kernel
theorem dX11_selectRelation_43 : decode cX11_selectRelation 43 = .ok (.goto 4, 3) := by decide +kernel
theorem dX11_selectRelation_47 : decode cX11_selectRelation 47 = .ok (.putfield 115, 3) := by decide +kernel
theorem dX11_selectRelation_50 : decode cX11_selectRelation 50 = .ok (.aload_n 0, 1) := by decide +kernel
theorem dX11_selectRelation_51 : decode cX11_selectRelation 51 = .ok (.getfield 115, 3) := by decide +kernel
theorem dX11_selectRelation_54 : decode cX11_selectRelation 54 = .ok (.ifCond .le 5, 3) := by decide +kernel
theorem dX11_selectRelation_57 : decode cX11_selectRelation 57 = .ok (.iconst 0, 1) := by decide +kernel
theorem dX11_selectRelation_58 : decode cX11_selectRelation 58 = .ok (.ireturn, 1) := by decide +kernel
theorem dX11_contained_0 : decode cX11_contained 0 = .ok (.aload_n 0, 1) := by decide +kernel
theorem dX11_contained_1 : decode cX11_contained 1 = .ok (.iload_n 1, 1) := by decide +kernel
theorem dX11_contained_2 : decode cX11_contained 2 = .ok (.invokestatic 258, 3) := by decide +kernel
theorem dX11_contained_5 : decode cX11_contained 5 = .ok (.ifCond .eq 10, 3) := by decide +kernel
theorem dX11_contained_8 : decode cX11_contained 8 = .ok (.iload_n 2, 1) := by decide +kernel
theorem dX11_contained_9 : decode cX11_contained 9 = .ok (.invokestatic 258, 3) := by decide +kernel
theorem dX11_contained_12 : decode cX11_contained 12 = .ok (.ifCond .ne 7, 3) := by decide +kernel
theorem dX11_contained_15 : decode cX11_contained 15 = .ok (.iconst 1, 1) := by decide +kernel
theorem dX11_contained_16 : decode cX11_contained 16 = .ok (.goto 26, 3) := by decide +kernel
theorem dX11_contained_19 : decode cX11_contained 19 = .ok (.aload_n 0, 1) := by decide +kernel
theorem dX11_contained_20 : decode cX11_contained 20 = .ok (.getfield 37, 3) := by decide +kernel
theorem dX11_contained_23 : decode cX11_contained 23 = .ok (.iload_n 1, 1) := by decide +kernel
theorem dX11_contained_24 : decode cX11_contained 24 = .ok (.iaload, 1) := by decide +kernel
theorem dX11_contained_25 : decode cX11_contained 25 = .ok (.ifCond .lt 12, 3) := by decide +kernel
theorem dX11_contained_37 : decode cX11_contained 37 = .ok (.iconst 2, 1) := by decide +kernel
theorem dX11_contained_38 : decode cX11_contained 38 = .ok (.goto 4, 3) := by decide +kernel
theorem dX11_contained_42 : decode cX11_contained 42 = .ok (.putfield 115, 3) := by decide +kernel
theorem dX11_contained_45 : decode cX11_contained 45 = .ok (.aload_n 0, 1) := by decide +kernel
theorem dX11_contained_46 : decode cX11_contained 46 = .ok (.getfield 115, 3) := by decide +kernel
theorem dX11_contained_49 : decode cX11_contained 49 = .ok (.ifCond .le 5, 3) := by decide +kernel
theorem dX11_contained_52 : decode cX11_contained 52 = .ok (.iconst 0, 1) := by decide +kernel
theorem dX11_contained_53 : decode cX11_contained 53 = .ok (.ireturn, 1) := by decide +kernel
theorem dX11_disjoint_0 : decode cX11_disjoint 0 = .ok (.aload_n 0, 1) := by decide +kernel
theorem dX11_disjoint_1 : decode cX11_disjoint 1 = .ok (.aload_n 0, 1) := by decide +kernel
theorem dX11_disjoint_2 : decode cX11_disjoint 2 = .ok (.iload_n 1, 1) := by decide +kernel
theorem dX11_disjoint_3 : decode cX11_disjoint 3 = .ok (.iconst 2, 1) := by decide +kernel
theorem dX11_disjoint_4 : decode cX11_disjoint 4 = .ok (.invokevirtual 270, 3) := by decide +kernel
theorem dX11_disjoint_7 : decode cX11_disjoint 7 = .ok (.putfield 115, 3) := by decide +kernel
theorem dX11_disjoint_10 : decode cX11_disjoint 10 = .ok (.aload_n 0, 1) := by decide +kernel
theorem dX11_disjoint_11 : decode cX11_disjoint 11 = .ok (.getfield 115, 3) := by decide +kernel
theorem dX11_disjoint_14 : decode cX11_disjoint 14 = .ok (.ifCond .le 5, 3) := by decide +kernel
theorem dX11_disjoint_17 : decode cX11_disjoint 17 = .ok (.iconst 0, 1) := by decide +kernel
theorem dX11_disjoint_18 : decode cX11_disjoint 18 = .ok (.ireturn, 1) := by decide +kernel
theorem dX11_extractSplit_0 : decode cX11_extractSplit 0 = .ok (.aload_n 0, 1) := by decide +kernel
theorem dX11_extractSplit_1 : decode cX11_extractSplit 1 = .ok (.iload_n 1, 1) := by decide +kernel
theorem dX11_extractSplit_2 : decode cX11_extractSplit 2 = .ok (.invokestatic 258, 3) := by decide +kernel
theorem dX11_extractSplit_5 : decode cX11_extractSplit 5 = .ok (.ifCond .eq 10, 3) := by decide +kernel
theorem dX11_extractSplit_8 : decode cX11_extractSplit 8 = .ok (.iload_n 2, 1) := by decide +kernel
theorem dX11_extractSplit_9 : decode cX11_extractSplit 9 = .ok (.invokestatic 258, 3) := by decide +kernel
theorem dX11_extractSplit_12 : decode cX11_extractSplit 12 = .ok (.ifCond .ne 7, 3) := by decide +kernel
theorem dX11_extractSplit_15 : decode cX11_extractSplit 15 = .ok (.iconst 1, 1) := by decide +kernel
theorem dX11_extractSplit_16 : decode cX11_extractSplit 16 = .ok (.goto 24, 3) := by decide +kernel
theorem dX11_extractSplit_19 : decode cX11_extractSplit 19 = .ok (.aload_n 0, 1) := by decide +kernel
theorem dX11_extractSplit_20 : decode cX11_extractSplit 20 = .ok (.getfield 37, 3) := by decide +kernel
theorem dX11_extractSplit_23 : decode cX11_extractSplit 23 = .ok (.iload_n 1, 1) := by decide +kernel
theorem dX11_extractSplit_24 : decode cX11_extractSplit 24 = .ok (.iaload, 1) := by decide +kernel
theorem dX11_extractSplit_25 : decode cX11_extractSplit 25 = .ok (.ifCond .lt 10, 3) := by decide +kernel
theorem dX11_extractSplit_35 : decode cX11_extractSplit 35 = .ok (.iconst 2, 1) := by decide +kernel
theorem dX11_extractSplit_36 : decode cX11_extractSplit 36 = .ok (.goto 4, 3) := by decide +kernel
theorem dX11_extractSplit_40 : decode cX11_extractSplit 40 = .ok (.putfield 115, 3) := by decide +kernel
theorem dX11_extractSplit_43 : decode cX11_extractSplit 43 = .ok (.aload_n 0, 1) := by decide +kernel
theorem dX11_extractSplit_44 : decode cX11_extractSplit 44 = .ok (.getfield 115, 3) := by decide +kernel
theorem dX11_extractSplit_47 : decode cX11_extractSplit 47 = .ok (.ifCond .le 5, 3) := by decide +kernel
theorem dX11_extractSplit_50 : decode cX11_extractSplit 50 = .ok (.iconst 0, 1) := by decide +kernel
theorem dX11_extractSplit_51 : decode cX11_extractSplit 51 = .ok (.ireturn, 1) := by decide +kernel
theorem dX11_splitCorrect_0 : decode cX11_splitCorrect 0 = .ok (.aload_n 0, 1) := by decide +kernel
theorem dX11_splitCorrect_1 : decode cX11_splitCorrect 1 = .ok (.iload_n 1, 1) := by decide +kernel
theorem dX11_splitCorrect_2 : decode cX11_splitCorrect 2 = .ok (.invokestatic 258, 3) := by decide +kernel
theorem dX11_splitCorrect_5 : decode cX11_splitCorrect 5 = .ok (.ifCond .ne 7, 3) := by decide +kernel
theorem dX11_splitCorrect_8 : decode cX11_splitCorrect 8 = .ok (.iconst 1, 1) := by decide +kernel
theorem dX11_splitCorrect_9 : decode cX11_splitCorrect 9 = .ok (.goto 24, 3) := by decide +kernel
theorem dX11_splitCorrect_12 : decode cX11_splitCorrect 12 = .ok (.aload_n 0, 1) := by decide +kernel
theorem dX11_splitCorrect_13 : decode cX11_splitCorrect 13 = .ok (.getfield 37, 3) := by decide +kernel
theorem dX11_splitCorrect_16 : decode cX11_splitCorrect 16 = .ok (.iload_n 1, 1) := by decide +kernel
theorem dX11_splitCorrect_17 : decode cX11_splitCorrect 17 = .ok (.iaload, 1) := by decide +kernel
theorem dX11_splitCorrect_18 : decode cX11_splitCorrect 18 = .ok (.ifCond .lt 10, 3) := by decide +kernel
theorem dX11_splitCorrect_28 : decode cX11_splitCorrect 28 = .ok (.iconst 2, 1) := by decide +kernel
theorem dX11_splitCorrect_29 : decode cX11_splitCorrect 29 = .ok (.goto 4, 3) := by decide +kernel
theorem dX11_splitCorrect_33 : decode cX11_splitCorrect 33 = .ok (.putfield 115, 3) := by decide +kernel
theorem dX11_splitCorrect_36 : decode cX11_splitCorrect 36 = .ok (.aload_n 0, 1) := by decide +kernel
theorem dX11_splitCorrect_37 : decode cX11_splitCorrect 37 = .ok (.getfield 115, 3) := by decide +kernel
theorem dX11_splitCorrect_40 : decode cX11_splitCorrect 40 = .ok (.ifCond .le 5, 3) := by decide +kernel
theorem dX11_splitCorrect_43 : decode cX11_splitCorrect 43 = .ok (.iconst 0, 1) := by decide +kernel
theorem dX11_splitCorrect_44 : decode cX11_splitCorrect 44 = .ok (.ireturn, 1) := by decide +kernel
theorem dX11_openCursor_0 : decode cX11_openCursor 0 = .ok (.aload_n 0, 1) := by decide +kernel
theorem dX11_openCursor_1 : decode cX11_openCursor 1 = .ok (.aload_n 0, 1) := by decide +kernel
theorem dX11_openCursor_2 : decode cX11_openCursor 2 = .ok (.iload_n 1, 1) := by decide +kernel
theorem dX11_openCursor_3 : decode cX11_openCursor 3 = .ok (.iconst 2, 1) := by decide +kernel
theorem dX11_openCursor_4 : decode cX11_openCursor 4 = .ok (.invokevirtual 270, 3) := by decide +kernel
theorem dX11_openCursor_7 : decode cX11_openCursor 7 = .ok (.putfield 115, 3) := by decide +kernel
theorem dX11_openCursor_10 : decode cX11_openCursor 10 = .ok (.aload_n 0, 1) := by decide +kernel
theorem dX11_openCursor_11 : decode cX11_openCursor 11 = .ok (.getfield 115, 3) := by decide +kernel
theorem dX11_openCursor_14 : decode cX11_openCursor 14 = .ok (.ifCond .le 5, 3) := by decide +kernel
theorem dX11_openCursor_17 : decode cX11_openCursor 17 = .ok (.iconst 0, 1) := by decide +kernel
theorem dX11_openCursor_18 : decode cX11_openCursor 18 = .ok (.ireturn, 1) := by decide +kernel
theorem dX11_cursorRow_0 : decode cX11_cursorRow 0 = .ok (.aload_n 0, 1) := by decide +kernel
theorem dX11_cursorRow_1 : decode cX11_cursorRow 1 = .ok (.aload_n 0, 1) := by decide +kernel
theorem dX11_cursorRow_2 : decode cX11_cursorRow 2 = .ok (.getfield 43, 3) := by decide +kernel
theorem dX11_cursorRow_5 : decode cX11_cursorRow 5 = .ok (.ifCond .ge 7, 3) := by decide +kernel
theorem dX11_cursorRow_8 : decode cX11_cursorRow 8 = .ok (.iconst 1, 1) := by decide +kernel
theorem dX11_cursorRow_9 : decode cX11_cursorRow 9 = .ok (.goto 4, 3) := by decide +kernel
theorem dX11_cursorRow_13 : decode cX11_cursorRow 13 = .ok (.putfield 115, 3) := by decide +kernel
theorem dX11_cursorRow_16 : decode cX11_cursorRow 16 = .ok (.aload_n 0, 1) := by decide +kernel
theorem dX11_cursorRow_17 : decode cX11_cursorRow 17 = .ok (.getfield 115, 3) := by decide +kernel
theorem dX11_cursorRow_20 : decode cX11_cursorRow 20 = .ok (.ifCond .le 7, 3) := by decide +kernel
theorem dX11_cursorRow_23 : decode cX11_cursorRow 23 = .ok (.iconst 0, 1) := by decide +kernel
theorem dX11_cursorRow_24 : decode cX11_cursorRow 24 = .ok (.goto 7, 3) := by decide +kernel
theorem dX11_cursorRow_31 : decode cX11_cursorRow 31 = .ok (.ireturn, 1) := by decide +kernel
theorem dX11_advance_0 : decode cX11_advance 0 = .ok (.aload_n 0, 1) := by decide +kernel
theorem dX11_advance_1 : decode cX11_advance 1 = .ok (.iload_n 1, 1) := by decide +kernel
theorem dX11_advance_2 : decode cX11_advance 2 = .ok (.ifCond .ge 7, 3) := by decide +kernel
theorem dX11_advance_5 : decode cX11_advance 5 = .ok (.iconst 1, 1) := by decide +kernel
theorem dX11_advance_6 : decode cX11_advance 6 = .ok (.goto 15, 3) := by decide +kernel
theorem dX11_advance_9 : decode cX11_advance 9 = .ok (.aload_n 0, 1) := by decide +kernel
theorem dX11_advance_10 : decode cX11_advance 10 = .ok (.getfield 43, 3) := by decide +kernel
theorem dX11_advance_13 : decode cX11_advance 13 = .ok (.ifCond .ge 7, 3) := by decide +kernel
theorem dX11_advance_16 : decode cX11_advance 16 = .ok (.iconst 2, 1) := by decide +kernel
theorem dX11_advance_17 : decode cX11_advance 17 = .ok (.goto 4, 3) := by decide +kernel
theorem dX11_advance_21 : decode cX11_advance 21 = .ok (.putfield 115, 3) := by decide +kernel
theorem dX11_advance_24 : decode cX11_advance 24 = .ok (.aload_n 0, 1) := by decide +kernel
theorem dX11_advance_25 : decode cX11_advance 25 = .ok (.getfield 115, 3) := by decide +kernel
theorem dX11_advance_28 : decode cX11_advance 28 = .ok (.ifCond .le 5, 3) := by decide +kernel
theorem dX11_advance_31 : decode cX11_advance 31 = .ok (.iconst 0, 1) := by decide +kernel
theorem dX11_advance_32 : decode cX11_advance 32 = .ok (.ireturn, 1) := by decide +kernel
theorem dX11_skipTo_0 : decode cX11_skipTo 0 = .ok (.aload_n 0, 1) := by decide +kernel
theorem dX11_skipTo_1 : decode cX11_skipTo 1 = .ok (.aload_n 0, 1) := by decide +kernel
theorem dX11_skipTo_2 : decode cX11_skipTo 2 = .ok (.getfield 43, 3) := by decide +kernel
theorem dX11_skipTo_5 : decode cX11_skipTo 5 = .ok (.ifCond .ge 7, 3) := by decide +kernel
theorem dX11_skipTo_8 : decode cX11_skipTo 8 = .ok (.iconst 1, 1) := by decide +kernel
theorem dX11_skipTo_9 : decode cX11_skipTo 9 = .ok (.goto 4, 3) := by decide +kernel
theorem dX11_skipTo_13 : decode cX11_skipTo 13 = .ok (.putfield 115, 3) := by decide +kernel
theorem dX11_skipTo_16 : decode cX11_skipTo 16 = .ok (.aload_n 0, 1) := by decide +kernel
theorem dX11_skipTo_17 : decode cX11_skipTo 17 = .ok (.getfield 115, 3) := by decide +kernel
theorem dX11_skipTo_20 : decode cX11_skipTo 20 = .ok (.ifCond .le 5, 3) := by decide +kernel
theorem dX11_skipTo_23 : decode cX11_skipTo 23 = .ok (.iconst 0, 1) := by decide +kernel
theorem dX11_skipTo_24 : decode cX11_skipTo 24 = .ok (.ireturn, 1) := by decide +kernel
theorem dX11_setWeight_0 : decode cX11_setWeight 0 = .ok (.aload_n 0, 1) := by decide +kernel
theorem dX11_setWeight_1 : decode cX11_setWeight 1 = .ok (.iload_n 1, 1) := by decide +kernel
theorem dX11_setWeight_2 : decode cX11_setWeight 2 = .ok (.invokestatic 273, 3) := by decide +kernel
theorem dX11_setWeight_5 : decode cX11_setWeight 5 = .ok (.ifCond .eq 7, 3) := by decide +kernel
theorem dX11_setWeight_8 : decode cX11_setWeight 8 = .ok (.iconst 0, 1) := by decide +kernel
theorem dX11_setWeight_9 : decode cX11_setWeight 9 = .ok (.goto 4, 3) := by decide +kernel
theorem dX11_setWeight_12 : decode cX11_setWeight 12 = .ok (.iconst 1, 1) := by decide +kernel
theorem dX11_setWeight_13 : decode cX11_setWeight 13 = .ok (.putfield 115, 3) := by decide +kernel
theorem dX11_setWeight_16 : decode cX11_setWeight 16 = .ok (.aload_n 0, 1) := by decide +kernel
theorem dX11_setWeight_17 : decode cX11_setWeight 17 = .ok (.getfield 115, 3) := by decide +kernel
theorem dX11_setWeight_20 : decode cX11_setWeight 20 = .ok (.ifCond .le 5, 3) := by decide +kernel
theorem dX11_setWeight_23 : decode cX11_setWeight 23 = .ok (.iconst 0, 1) := by decide +kernel
theorem dX11_setWeight_24 : decode cX11_setWeight 24 = .ok (.ireturn, 1) := by decide +kernel
theorem dX11_setWeight_25 : decode cX11_setWeight 25 = .ok (.aload_n 0, 1) := by decide +kernel
theorem dX11_setWeight_26 : decode cX11_setWeight 26 = .ok (.getfield 46, 3) := by decide +kernel
theorem dX11_setWeight_29 : decode cX11_setWeight 29 = .ok (.iload_n 1, 1) := by decide +kernel
theorem dX11_setWeight_30 : decode cX11_setWeight 30 = .ok (.iaload, 1) := by decide +kernel
theorem dX11_setWeight_31 : decode cX11_setWeight 31 = .ok (.istore_n 3, 1) := by decide +kernel
theorem dX11_setWeight_32 : decode cX11_setWeight 32 = .ok (.aload_n 0, 1) := by decide +kernel
theorem dX11_setWeight_33 : decode cX11_setWeight 33 = .ok (.getfield 46, 3) := by decide +kernel
theorem dX11_setWeight_36 : decode cX11_setWeight 36 = .ok (.iload_n 1, 1) := by decide +kernel
theorem dX11_setWeight_37 : decode cX11_setWeight 37 = .ok (.iload_n 2, 1) := by decide +kernel
theorem dX11_setWeight_38 : decode cX11_setWeight 38 = .ok (.iastore, 1) := by decide +kernel
theorem dX11_setWeight_39 : decode cX11_setWeight 39 = .ok (.iload_n 3, 1) := by decide +kernel
theorem dX11_setWeight_40 : decode cX11_setWeight 40 = .ok (.ireturn, 1) := by decide +kernel
theorem dX11_score_0 : decode cX11_score 0 = .ok (.aload_n 0, 1) := by decide +kernel
theorem dX11_score_1 : decode cX11_score 1 = .ok (.aload_n 0, 1) := by decide +kernel
theorem dX11_score_2 : decode cX11_score 2 = .ok (.iload_n 1, 1) := by decide +kernel
theorem dX11_score_3 : decode cX11_score 3 = .ok (.iconst 2, 1) := by decide +kernel
theorem dX11_score_4 : decode cX11_score 4 = .ok (.invokevirtual 270, 3) := by decide +kernel
theorem dX11_score_7 : decode cX11_score 7 = .ok (.putfield 115, 3) := by decide +kernel
theorem dX11_score_10 : decode cX11_score 10 = .ok (.aload_n 0, 1) := by decide +kernel
theorem dX11_score_11 : decode cX11_score 11 = .ok (.getfield 115, 3) := by decide +kernel
theorem dX11_score_14 : decode cX11_score 14 = .ok (.ifCond .ne 24, 3) := by decide +kernel
theorem dX11_score_38 : decode cX11_score 38 = .ok (.aload_n 0, 1) := by decide +kernel
theorem dX11_score_39 : decode cX11_score 39 = .ok (.getfield 115, 3) := by decide +kernel
theorem dX11_score_42 : decode cX11_score 42 = .ok (.ifCond .le 5, 3) := by decide +kernel
theorem dX11_score_45 : decode cX11_score 45 = .ok (.iconst 0, 1) := by decide +kernel
theorem dX11_score_46 : decode cX11_score 46 = .ok (.ireturn, 1) := by decide +kernel
theorem dX11_classes_0 : decode cX11_classes 0 = .ok (.aload_n 0, 1) := by decide +kernel
theorem dX11_classes_1 : decode cX11_classes 1 = .ok (.aload_n 0, 1) := by decide +kernel
theorem dX11_classes_2 : decode cX11_classes 2 = .ok (.iload_n 1, 1) := by decide +kernel
theorem dX11_classes_3 : decode cX11_classes 3 = .ok (.iconst 2, 1) := by decide +kernel
theorem dX11_classes_4 : decode cX11_classes 4 = .ok (.invokevirtual 270, 3) := by decide +kernel
theorem dX11_classes_7 : decode cX11_classes 7 = .ok (.putfield 115, 3) := by decide +kernel
theorem dX11_classes_10 : decode cX11_classes 10 = .ok (.aload_n 0, 1) := by decide +kernel
theorem dX11_classes_11 : decode cX11_classes 11 = .ok (.getfield 115, 3) := by decide +kernel
theorem dX11_classes_14 : decode cX11_classes 14 = .ok (.ifCond .ne 16, 3) := by decide +kernel
theorem dX11_classes_30 : decode cX11_classes 30 = .ok (.aload_n 0, 1) := by decide +kernel
theorem dX11_classes_31 : decode cX11_classes 31 = .ok (.getfield 115, 3) := by decide +kernel
theorem dX11_classes_34 : decode cX11_classes 34 = .ok (.ifCond .le 7, 3) := by decide +kernel
theorem dX11_classes_37 : decode cX11_classes 37 = .ok (.iconst 0, 1) := by decide +kernel
theorem dX11_classes_38 : decode cX11_classes 38 = .ok (.goto 11, 3) := by decide +kernel
theorem dX11_classes_49 : decode cX11_classes 49 = .ok (.ireturn, 1) := by decide +kernel
theorem dX11_rank_0 : decode cX11_rank 0 = .ok (.aload_n 0, 1) := by decide +kernel
theorem dX11_rank_1 : decode cX11_rank 1 = .ok (.aload_n 0, 1) := by decide +kernel
theorem dX11_rank_2 : decode cX11_rank 2 = .ok (.iload_n 1, 1) := by decide +kernel
theorem dX11_rank_3 : decode cX11_rank 3 = .ok (.iconst 2, 1) := by decide +kernel
theorem dX11_rank_4 : decode cX11_rank 4 = .ok (.invokevirtual 270, 3) := by decide +kernel
theorem dX11_rank_7 : decode cX11_rank 7 = .ok (.putfield 115, 3) := by decide +kernel
theorem dX11_rank_10 : decode cX11_rank 10 = .ok (.aload_n 0, 1) := by decide +kernel
theorem dX11_rank_11 : decode cX11_rank 11 = .ok (.getfield 115, 3) := by decide +kernel
theorem dX11_rank_14 : decode cX11_rank 14 = .ok (.ifCond .ne 40, 3) := by decide +kernel
theorem dX11_rank_54 : decode cX11_rank 54 = .ok (.aload_n 0, 1) := by decide +kernel
theorem dX11_rank_55 : decode cX11_rank 55 = .ok (.getfield 115, 3) := by decide +kernel
theorem dX11_rank_58 : decode cX11_rank 58 = .ok (.ifCond .le 7, 3) := by decide +kernel
theorem dX11_rank_61 : decode cX11_rank 61 = .ok (.iconst 0, 1) := by decide +kernel
theorem dX11_rank_62 : decode cX11_rank 62 = .ok (.goto 14, 3) := by decide +kernel
theorem dX11_rank_76 : decode cX11_rank 76 = .ok (.ireturn, 1) := by decide +kernel
theorem dX11_best_0 : decode cX11_best 0 = .ok (.aload_n 0, 1) := by decide +kernel
theorem dX11_best_1 : decode cX11_best 1 = .ok (.aload_n 0, 1) := by decide +kernel
theorem dX11_best_2 : decode cX11_best 2 = .ok (.iload_n 1, 1) := by decide +kernel
theorem dX11_best_3 : decode cX11_best 3 = .ok (.iconst 2, 1) := by decide +kernel
theorem dX11_best_4 : decode cX11_best 4 = .ok (.invokevirtual 270, 3) := by decide +kernel
theorem dX11_best_7 : decode cX11_best 7 = .ok (.putfield 115, 3) := by decide +kernel
theorem dX11_best_10 : decode cX11_best 10 = .ok (.aload_n 0, 1) := by decide +kernel
theorem dX11_best_11 : decode cX11_best 11 = .ok (.getfield 115, 3) := by decide +kernel
theorem dX11_best_14 : decode cX11_best 14 = .ok (.ifCond .ne 40, 3) := by decide +kernel
theorem dX11_best_54 : decode cX11_best 54 = .ok (.iconst 0, 1) := by decide +kernel
theorem dX11_best_55 : decode cX11_best 55 = .ok (.istore_n 3, 1) := by decide +kernel
theorem dX11_best_56 : decode cX11_best 56 = .ok (.aload_n 0, 1) := by decide +kernel
theorem dX11_best_57 : decode cX11_best 57 = .ok (.getfield 115, 3) := by decide +kernel
theorem dX11_best_60 : decode cX11_best 60 = .ok (.ifCond .ne 100, 3) := by decide +kernel
theorem dX11_best_160 : decode cX11_best 160 = .ok (.iconst 0, 1) := by decide +kernel
theorem dX11_best_161 : decode cX11_best 161 = .ok (.ireturn, 1) := by decide +kernel
theorem dX11_total_0 : decode cX11_total 0 = .ok (.aload_n 0, 1) := by decide +kernel
theorem dX11_total_1 : decode cX11_total 1 = .ok (.aload_n 0, 1) := by decide +kernel
theorem dX11_total_2 : decode cX11_total 2 = .ok (.iload_n 1, 1) := by decide +kernel
theorem dX11_total_3 : decode cX11_total 3 = .ok (.iconst 2, 1) := by decide +kernel
theorem dX11_total_4 : decode cX11_total 4 = .ok (.invokevirtual 270, 3) := by decide +kernel
theorem dX11_total_7 : decode cX11_total 7 = .ok (.putfield 115, 3) := by decide +kernel
theorem dX11_total_10 : decode cX11_total 10 = .ok (.lconst 0, 1) := by decide +kernel
theorem dX11_total_11 : decode cX11_total 11 = .ok (.lstore_n 2, 1) := by decide +kernel
theorem dX11_total_12 : decode cX11_total 12 = .ok (.iconst 0, 1) := by decide +kernel
theorem dX11_total_13 : decode cX11_total 13 = .ok (.istore 4, 2) := by decide +kernel
theorem dX11_total_15 : decode cX11_total 15 = .ok (.aload_n 0, 1) := by decide +kernel
theorem dX11_total_16 : decode cX11_total 16 = .ok (.getfield 115, 3) := by decide +kernel
theorem dX11_total_19 : decode cX11_total 19 = .ok (.ifCond .ne 69, 3) := by decide +kernel
theorem dX11_total_88 : decode cX11_total 88 = .ok (.aload_n 0, 1) := by decide +kernel
theorem dX11_total_89 : decode cX11_total 89 = .ok (.getfield 115, 3) := by decide +kernel
theorem dX11_total_92 : decode cX11_total 92 = .ok (.ifCond .le 7, 3) := by decide +kernel
theorem dX11_total_95 : decode cX11_total 95 = .ok (.iconst 0, 1) := by decide +kernel
theorem dX11_total_96 : decode cX11_total 96 = .ok (.goto 5, 3) := by decide +kernel
theorem dX11_total_101 : decode cX11_total 101 = .ok (.ireturn, 1) := by decide +kernel
theorem dX11_tablesThere_0 : decode cX11_tablesThere 0 = .ok (.iconst 0, 1) := by decide +kernel
theorem dX11_tablesThere_1 : decode cX11_tablesThere 1 = .ok (.istore_n 1, 1) := by decide +kernel
theorem dX11_tablesThere_2 : decode cX11_tablesThere 2 = .ok (.iconst 0, 1) := by decide +kernel
theorem dX11_tablesThere_3 : decode cX11_tablesThere 3 = .ok (.istore_n 2, 1) := by decide +kernel
theorem dX11_tablesThere_4 : decode cX11_tablesThere 4 = .ok (.iload_n 2, 1) := by decide +kernel
theorem dX11_tablesThere_5 : decode cX11_tablesThere 5 = .ok (.bipush 6, 2) := by decide +kernel
theorem dX11_tablesThere_7 : decode cX11_tablesThere 7 = .ok (.if_icmp .ge 26, 3) := by decide +kernel
theorem dX11_tablesThere_10 : decode cX11_tablesThere 10 = .ok (.iload_n 1, 1) := by decide +kernel
theorem dX11_tablesThere_11 : decode cX11_tablesThere 11 = .ok (.aload_n 0, 1) := by decide +kernel
theorem dX11_tablesThere_12 : decode cX11_tablesThere 12 = .ok (.getfield 37, 3) := by decide +kernel
theorem dX11_tablesThere_15 : decode cX11_tablesThere 15 = .ok (.iload_n 2, 1) := by decide +kernel
theorem dX11_tablesThere_16 : decode cX11_tablesThere 16 = .ok (.iaload, 1) := by decide +kernel
theorem dX11_tablesThere_17 : decode cX11_tablesThere 17 = .ok (.ifCond .lt 7, 3) := by decide +kernel
theorem dX11_tablesThere_24 : decode cX11_tablesThere 24 = .ok (.iconst 0, 1) := by decide +kernel
theorem dX11_tablesThere_25 : decode cX11_tablesThere 25 = .ok (.iadd, 1) := by decide +kernel
theorem dX11_tablesThere_26 : decode cX11_tablesThere 26 = .ok (.istore_n 1, 1) := by decide +kernel
theorem dX11_tablesThere_27 : decode cX11_tablesThere 27 = .ok (.iinc 2 1, 3) := by decide +kernel
theorem dX11_tablesThere_30 : decode cX11_tablesThere 30 = .ok (.goto (-26), 3) := by decide +kernel
theorem dX11_tablesThere_33 : decode cX11_tablesThere 33 = .ok (.iload_n 1, 1) := by decide +kernel
theorem dX11_tablesThere_34 : decode cX11_tablesThere 34 = .ok (.ireturn, 1) := by decide +kernel
theorem dX11_save_0 : decode cX11_save 0 = .ok (.aload_n 0, 1) := by decide +kernel
theorem dX11_save_1 : decode cX11_save 1 = .ok (.iconst 0, 1) := by decide +kernel
theorem dX11_save_2 : decode cX11_save 2 = .ok (.putfield 115, 3) := by decide +kernel
theorem dX11_save_5 : decode cX11_save 5 = .ok (.aload_n 0, 1) := by decide +kernel
theorem dX11_save_6 : decode cX11_save 6 = .ok (.getfield 21, 3) := by decide +kernel
theorem dX11_save_9 : decode cX11_save 9 = .ok (.iconst 0, 1) := by decide +kernel
theorem dX11_save_10 : decode cX11_save 10 = .ok (.aload_n 0, 1) := by decide +kernel
theorem dX11_save_11 : decode cX11_save 11 = .ok (.getfield 49, 3) := by decide +kernel
theorem dX11_save_14 : decode cX11_save 14 = .ok (.iconst 0, 1) := by decide +kernel
theorem dX11_save_15 : decode cX11_save 15 = .ok (.bipush 8, 2) := by decide +kernel
theorem dX11_save_17 : decode cX11_save 17 = .ok (.invokestatic 142, 3) := by decide +kernel
theorem dX11_save_20 : decode cX11_save 20 = .ok (.aload_n 0, 1) := by decide +kernel
theorem dX11_save_21 : decode cX11_save 21 = .ok (.aload_n 0, 1) := by decide +kernel
theorem dX11_save_22 : decode cX11_save 22 = .ok (.getfield 122, 3) := by decide +kernel
theorem dX11_save_25 : decode cX11_save 25 = .ok (.putfield 350, 3) := by decide +kernel
theorem dX11_save_28 : decode cX11_save 28 = .ok (.aload_n 0, 1) := by decide +kernel
theorem dX11_save_29 : decode cX11_save 29 = .ok (.getfield 31, 3) := by decide +kernel
theorem dX11_save_32 : decode cX11_save 32 = .ok (.iconst 0, 1) := by decide +kernel
theorem dX11_save_33 : decode cX11_save 33 = .ok (.aload_n 0, 1) := by decide +kernel
theorem dX11_save_34 : decode cX11_save 34 = .ok (.getfield 52, 3) := by decide +kernel
theorem dX11_save_37 : decode cX11_save 37 = .ok (.iconst 0, 1) := by decide +kernel
theorem dX11_save_38 : decode cX11_save 38 = .ok (.bipush 40, 2) := by decide +kernel
theorem dX11_save_40 : decode cX11_save 40 = .ok (.invokestatic 142, 3) := by decide +kernel
theorem dX11_save_43 : decode cX11_save 43 = .ok (.aload_n 0, 1) := by decide +kernel
theorem dX11_save_44 : decode cX11_save 44 = .ok (.aload_n 0, 1) := by decide +kernel
theorem dX11_save_45 : decode cX11_save 45 = .ok (.getfield 34, 3) := by decide +kernel
theorem dX11_save_48 : decode cX11_save 48 = .ok (.putfield 353, 3) := by decide +kernel
theorem dX11_save_51 : decode cX11_save 51 = .ok (.aload_n 0, 1) := by decide +kernel
theorem dX11_save_52 : decode cX11_save 52 = .ok (.getfield 37, 3) := by decide +kernel
theorem dX11_save_55 : decode cX11_save 55 = .ok (.iconst 0, 1) := by decide +kernel
theorem dX11_save_56 : decode cX11_save 56 = .ok (.aload_n 0, 1) := by decide +kernel
theorem dX11_save_57 : decode cX11_save 57 = .ok (.getfield 55, 3) := by decide +kernel
theorem dX11_save_60 : decode cX11_save 60 = .ok (.iconst 0, 1) := by decide +kernel
theorem dX11_save_61 : decode cX11_save 61 = .ok (.bipush 6, 2) := by decide +kernel
theorem dX11_save_63 : decode cX11_save 63 = .ok (.invokestatic 142, 3) := by decide +kernel
theorem dX11_save_66 : decode cX11_save 66 = .ok (.aload_n 0, 1) := by decide +kernel
theorem dX11_save_67 : decode cX11_save 67 = .ok (.getfield 40, 3) := by decide +kernel
theorem dX11_save_70 : decode cX11_save 70 = .ok (.iconst 0, 1) := by decide +kernel
theorem dX11_save_71 : decode cX11_save 71 = .ok (.aload_n 0, 1) := by decide +kernel
theorem dX11_save_72 : decode cX11_save 72 = .ok (.getfield 58, 3) := by decide +kernel
theorem dX11_save_75 : decode cX11_save 75 = .ok (.iconst 0, 1) := by decide +kernel
theorem dX11_save_76 : decode cX11_save 76 = .ok (.sipush 1200, 3) := by decide +kernel
theorem dX11_save_79 : decode cX11_save 79 = .ok (.invokestatic 142, 3) := by decide +kernel
theorem dX11_save_82 : decode cX11_save 82 = .ok (.aload_n 0, 1) := by decide +kernel
theorem dX11_save_83 : decode cX11_save 83 = .ok (.getfield 46, 3) := by decide +kernel
theorem dX11_save_86 : decode cX11_save 86 = .ok (.iconst 0, 1) := by decide +kernel
theorem dX11_save_87 : decode cX11_save 87 = .ok (.aload_n 0, 1) := by decide +kernel
theorem dX11_save_88 : decode cX11_save 88 = .ok (.getfield 61, 3) := by decide +kernel
theorem dX11_save_91 : decode cX11_save 91 = .ok (.iconst 0, 1) := by decide +kernel
theorem dX11_save_92 : decode cX11_save 92 = .ok (.iconst 3, 1) := by decide +kernel
theorem dX11_save_93 : decode cX11_save 93 = .ok (.invokestatic 142, 3) := by decide +kernel
theorem dX11_save_96 : decode cX11_save 96 = .ok (.aload_n 0, 1) := by decide +kernel
theorem dX11_save_97 : decode cX11_save 97 = .ok (.iconst 1, 1) := by decide +kernel
theorem dX11_save_98 : decode cX11_save 98 = .ok (.putfield 356, 3) := by decide +kernel
theorem dX11_save_101 : decode cX11_save 101 = .ok (.aload_n 0, 1) := by decide +kernel
theorem dX11_save_102 : decode cX11_save 102 = .ok (.invokevirtual 359, 3) := by decide +kernel
theorem dX11_save_105 : decode cX11_save 105 = .ok (.ireturn, 1) := by decide +kernel
theorem dX11_restore_0 : decode cX11_restore 0 = .ok (.aload_n 0, 1) := by decide +kernel
theorem dX11_restore_1 : decode cX11_restore 1 = .ok (.aload_n 0, 1) := by decide +kernel
theorem dX11_restore_2 : decode cX11_restore 2 = .ok (.getfield 356, 3) := by decide +kernel
theorem dX11_restore_5 : decode cX11_restore 5 = .ok (.ifCond .eq 7, 3) := by decide +kernel
theorem dX11_restore_12 : decode cX11_restore 12 = .ok (.iconst 1, 1) := by decide +kernel
theorem dX11_restore_13 : decode cX11_restore 13 = .ok (.putfield 115, 3) := by decide +kernel
theorem dX11_restore_16 : decode cX11_restore 16 = .ok (.aload_n 0, 1) := by decide +kernel
theorem dX11_restore_17 : decode cX11_restore 17 = .ok (.getfield 115, 3) := by decide +kernel
theorem dX11_restore_20 : decode cX11_restore 20 = .ok (.ifCond .le 5, 3) := by decide +kernel
theorem dX11_restore_23 : decode cX11_restore 23 = .ok (.iconst 0, 1) := by decide +kernel
theorem dX11_restore_24 : decode cX11_restore 24 = .ok (.ireturn, 1) := by decide +kernel
theorem dJ7_copyOf_59c91_0 : decode cJ7_copyOf_59c91 0 = .ok (.iload_n 1, 1) := by decide +kernel
theorem dJ7_copyOf_59c91_1 : decode cJ7_copyOf_59c91 1 = .ok (.aload_n 0, 1) := by decide +kernel
theorem dJ7_copyOf_59c91_2 : decode cJ7_copyOf_59c91 2 = .ok (.arraylength, 1) := by decide +kernel
theorem dJ7_copyOf_59c91_3 : decode cJ7_copyOf_59c91 3 = .ok (.if_icmp .ne 11, 3) := by decide +kernel
theorem dJ7_copyOf_59c91_14 : decode cJ7_copyOf_59c91 14 = .ok (.iload_n 1, 1) := by decide +kernel
theorem dJ7_copyOf_59c91_15 : decode cJ7_copyOf_59c91 15 = .ok (.newarray .int, 2) := by decide +kernel
theorem dJ7_copyOf_59c91_17 : decode cJ7_copyOf_59c91 17 = .ok (.astore_n 2, 1) := by decide +kernel
theorem dJ7_copyOf_59c91_18 : decode cJ7_copyOf_59c91 18 = .ok (.aload_n 0, 1) := by decide +kernel
theorem dJ7_copyOf_59c91_19 : decode cJ7_copyOf_59c91 19 = .ok (.iconst 0, 1) := by decide +kernel
theorem dJ7_copyOf_59c91_20 : decode cJ7_copyOf_59c91 20 = .ok (.aload_n 2, 1) := by decide +kernel
theorem dJ7_copyOf_59c91_21 : decode cJ7_copyOf_59c91 21 = .ok (.iconst 0, 1) := by decide +kernel
theorem dJ7_copyOf_59c91_22 : decode cJ7_copyOf_59c91 22 = .ok (.aload_n 0, 1) := by decide +kernel
theorem dJ7_copyOf_59c91_23 : decode cJ7_copyOf_59c91 23 = .ok (.arraylength, 1) := by decide +kernel
theorem dJ7_copyOf_59c91_24 : decode cJ7_copyOf_59c91 24 = .ok (.iload_n 1, 1) := by decide +kernel
theorem dJ7_copyOf_59c91_25 : decode cJ7_copyOf_59c91 25 = .ok (.invokestatic 304, 3) := by decide +kernel
theorem dJ7_copyOf_59c91_28 : decode cJ7_copyOf_59c91 28 = .ok (.invokestatic 150, 3) := by decide +kernel
theorem dJ7_copyOf_59c91_31 : decode cJ7_copyOf_59c91 31 = .ok (.aload_n 2, 1) := by decide +kernel
theorem dJ7_copyOf_59c91_32 : decode cJ7_copyOf_59c91 32 = .ok (.areturn, 1) := by decide +kernel
