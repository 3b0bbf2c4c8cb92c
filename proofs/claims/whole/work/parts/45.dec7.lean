theorem dX7_init_0 : decode cX7_init 0 = .ok (.aload_n 0, 1) := by decide +kernel
theorem dX7_init_1 : decode cX7_init 1 = .ok (.invokespecial 3, 3) := by decide +kernel
theorem dX7_init_4 : decode cX7_init 4 = .ok (.aload_n 0, 1) := by decide +kernel
theorem dX7_init_5 : decode cX7_init 5 = .ok (.new 9, 3) := by decide +kernel
theorem dX7_init_8 : decode cX7_init 8 = .ok (.dup, 1) := by decide +kernel
theorem dX7_init_9 : decode cX7_init 9 = .ok (.invokespecial 11, 3) := by decide +kernel
theorem dX7_init_12 : decode cX7_init 12 = .ok (.putfield 12, 3) := by decide +kernel
theorem dX7_init_15 : decode cX7_init 15 = .ok (.aload_n 0, 1) := by decide +kernel
theorem dX7_init_16 : decode cX7_init 16 = .ok (.new 16, 3) := by decide +kernel
theorem dX7_init_19 : decode cX7_init 19 = .ok (.dup, 1) := by decide +kernel
theorem dX7_init_20 : decode cX7_init 20 = .ok (.invokespecial 18, 3) := by decide +kernel
theorem dX7_init_23 : decode cX7_init 23 = .ok (.putfield 19, 3) := by decide +kernel
theorem dX7_init_26 : decode cX7_init 26 = .ok (.aload_n 0, 1) := by decide +kernel
theorem dX7_init_27 : decode cX7_init 27 = .ok (.new 23, 3) := by decide +kernel
theorem dX7_init_30 : decode cX7_init 30 = .ok (.dup, 1) := by decide +kernel
theorem dX7_init_31 : decode cX7_init 31 = .ok (.invokespecial 25, 3) := by decide +kernel
theorem dX7_init_34 : decode cX7_init 34 = .ok (.putfield 26, 3) := by decide +kernel
theorem dX7_init_37 : decode cX7_init 37 = .ok (.aload_n 0, 1) := by decide +kernel
theorem dX7_init_38 : decode cX7_init 38 = .ok (.new 30, 3) := by decide +kernel
theorem dX7_init_41 : decode cX7_init 41 = .ok (.dup, 1) := by decide +kernel
theorem dX7_init_42 : decode cX7_init 42 = .ok (.invokespecial 32, 3) := by decide +kernel
theorem dX7_init_45 : decode cX7_init 45 = .ok (.putfield 33, 3) := by decide +kernel
theorem dX7_init_48 : decode cX7_init 48 = .ok (.aload_n 0, 1) := by decide +kernel
theorem dX7_init_49 : decode cX7_init 49 = .ok (.new 23, 3) := by decide +kernel
theorem dX7_init_52 : decode cX7_init 52 = .ok (.dup, 1) := by decide +kernel
theorem dX7_init_53 : decode cX7_init 53 = .ok (.invokespecial 25, 3) := by decide +kernel
theorem dX7_init_56 : decode cX7_init 56 = .ok (.putfield 37, 3) := by decide +kernel
theorem dX7_init_59 : decode cX7_init 59 = .ok (.aload_n 0, 1) := by decide +kernel
theorem dX7_init_60 : decode cX7_init 60 = .ok (.iconst 0, 1) := by decide +kernel
theorem dX7_init_61 : decode cX7_init 61 = .ok (.putfield 40, 3) := by decide +kernel
theorem dX7_init_64 : decode cX7_init 64 = .ok (.aload_n 0, 1) := by decide +kernel
theorem dX7_init_65 : decode cX7_init 65 = .ok (.bipush 31, 2) := by decide +kernel
theorem dX7_init_67 : decode cX7_init 67 = .ok (.newarray .int, 2) := by decide +kernel
theorem dX7_init_69 : decode cX7_init 69 = .ok (.putfield 44, 3) := by decide +kernel
theorem dX7_init_72 : decode cX7_init 72 = .ok (.return_, 1) := by decide +kernel
theorem dX7_setLimit_0 : decode cX7_setLimit 0 = .ok (.iload_n 1, 1) := by decide +kernel
theorem dX7_setLimit_1 : decode cX7_setLimit 1 = .ok (.invokestatic 48, 3) := by decide +kernel
theorem dX7_setLimit_4 : decode cX7_setLimit 4 = .ok (.ifCond .ne 5, 3) := by decide +kernel
theorem dX7_setLimit_7 : decode cX7_setLimit 7 = .ok (.iconst (-1), 1) := by decide +kernel
theorem dX7_setLimit_8 : decode cX7_setLimit 8 = .ok (.ireturn, 1) := by decide +kernel
theorem dX7_setLimit_9 : decode cX7_setLimit 9 = .ok (.iload_n 2, 1) := by decide +kernel
theorem dX7_setLimit_10 : decode cX7_setLimit 10 = .ok (.iconst 1, 1) := by decide +kernel
theorem dX7_setLimit_11 : decode cX7_setLimit 11 = .ok (.if_icmp .lt 9, 3) := by decide +kernel
theorem dX7_setLimit_14 : decode cX7_setLimit 14 = .ok (.iload_n 2, 1) := by decide +kernel
theorem dX7_setLimit_15 : decode cX7_setLimit 15 = .ok (.bipush 15, 2) := by decide +kernel
theorem dX7_setLimit_17 : decode cX7_setLimit 17 = .ok (.if_icmp .le 6, 3) := by decide +kernel
theorem dX7_setLimit_20 : decode cX7_setLimit 20 = .ok (.bipush (-2), 2) := by decide +kernel
theorem dX7_setLimit_22 : decode cX7_setLimit 22 = .ok (.ireturn, 1) := by decide +kernel
theorem dX7_setLimit_23 : decode cX7_setLimit 23 = .ok (.aload_n 0, 1) := by decide +kernel
theorem dX7_setLimit_24 : decode cX7_setLimit 24 = .ok (.getfield 26, 3) := by decide +kernel
theorem dX7_setLimit_27 : decode cX7_setLimit 27 = .ok (.getfield 52, 3) := by decide +kernel
theorem dX7_setLimit_30 : decode cX7_setLimit 30 = .ok (.iload_n 1, 1) := by decide +kernel
theorem dX7_setLimit_31 : decode cX7_setLimit 31 = .ok (.iaload, 1) := by decide +kernel
theorem dX7_setLimit_32 : decode cX7_setLimit 32 = .ok (.iload_n 2, 1) := by decide +kernel
theorem dX7_setLimit_33 : decode cX7_setLimit 33 = .ok (.if_icmp .ne 6, 3) := by decide +kernel
theorem dX7_setLimit_36 : decode cX7_setLimit 36 = .ok (.bipush (-5), 2) := by decide +kernel
theorem dX7_setLimit_38 : decode cX7_setLimit 38 = .ok (.ireturn, 1) := by decide +kernel
theorem dX7_setLimit_39 : decode cX7_setLimit 39 = .ok (.aload_n 0, 1) := by decide +kernel
theorem dX7_setLimit_40 : decode cX7_setLimit 40 = .ok (.getfield 33, 3) := by decide +kernel
theorem dX7_setLimit_43 : decode cX7_setLimit 43 = .ok (.aload_n 0, 1) := by decide +kernel
theorem dX7_setLimit_44 : decode cX7_setLimit 44 = .ok (.getfield 26, 3) := by decide +kernel
theorem dX7_setLimit_47 : decode cX7_setLimit 47 = .ok (.invokevirtual 55, 3) := by decide +kernel
theorem dX7_setLimit_50 : decode cX7_setLimit 50 = .ok (.aload_n 0, 1) := by decide +kernel
theorem dX7_setLimit_51 : decode cX7_setLimit 51 = .ok (.getfield 26, 3) := by decide +kernel
theorem dX7_setLimit_54 : decode cX7_setLimit 54 = .ok (.iload_n 1, 1) := by decide +kernel
theorem dX7_setLimit_55 : decode cX7_setLimit 55 = .ok (.iload_n 2, 1) := by decide +kernel
theorem dX7_setLimit_56 : decode cX7_setLimit 56 = .ok (.invokevirtual 59, 3) := by decide +kernel
theorem dX7_setLimit_59 : decode cX7_setLimit 59 = .ok (.ireturn, 1) := by decide +kernel
theorem dX7_ask_0 : decode cX7_ask 0 = .ok (.iload_n 1, 1) := by decide +kernel
theorem dX7_ask_1 : decode cX7_ask 1 = .ok (.invokestatic 48, 3) := by decide +kernel
theorem dX7_ask_4 : decode cX7_ask 4 = .ok (.ifCond .eq 10, 3) := by decide +kernel
theorem dX7_ask_7 : decode cX7_ask 7 = .ok (.iload_n 2, 1) := by decide +kernel
theorem dX7_ask_8 : decode cX7_ask 8 = .ok (.invokestatic 63, 3) := by decide +kernel
theorem dX7_ask_11 : decode cX7_ask 11 = .ok (.ifCond .ne 5, 3) := by decide +kernel
theorem dX7_ask_14 : decode cX7_ask 14 = .ok (.iconst (-1), 1) := by decide +kernel
theorem dX7_ask_15 : decode cX7_ask 15 = .ok (.ireturn, 1) := by decide +kernel
theorem dX7_ask_16 : decode cX7_ask 16 = .ok (.aload_n 0, 1) := by decide +kernel
theorem dX7_ask_17 : decode cX7_ask 17 = .ok (.getfield 26, 3) := by decide +kernel
theorem dX7_ask_20 : decode cX7_ask 20 = .ok (.iload_n 1, 1) := by decide +kernel
theorem dX7_ask_21 : decode cX7_ask 21 = .ok (.iload_n 2, 1) := by decide +kernel
theorem dX7_ask_22 : decode cX7_ask 22 = .ok (.invokevirtual 66, 3) := by decide +kernel
theorem dX7_ask_25 : decode cX7_ask 25 = .ok (.iload_n 3, 1) := by decide +kernel
theorem dX7_ask_26 : decode cX7_ask 26 = .ok (.if_icmp .ne 6, 3) := by decide +kernel
theorem dX7_ask_29 : decode cX7_ask 29 = .ok (.bipush (-5), 2) := by decide +kernel
theorem dX7_ask_31 : decode cX7_ask 31 = .ok (.ireturn, 1) := by decide +kernel
theorem dX7_ask_32 : decode cX7_ask 32 = .ok (.aload_n 0, 1) := by decide +kernel
theorem dX7_ask_33 : decode cX7_ask 33 = .ok (.getfield 33, 3) := by decide +kernel
theorem dX7_ask_36 : decode cX7_ask 36 = .ok (.aload_n 0, 1) := by decide +kernel
theorem dX7_ask_37 : decode cX7_ask 37 = .ok (.getfield 26, 3) := by decide +kernel
theorem dX7_ask_40 : decode cX7_ask 40 = .ok (.invokevirtual 55, 3) := by decide +kernel
theorem dX7_ask_43 : decode cX7_ask 43 = .ok (.aload_n 0, 1) := by decide +kernel
theorem dX7_ask_44 : decode cX7_ask 44 = .ok (.getfield 26, 3) := by decide +kernel
theorem dX7_ask_47 : decode cX7_ask 47 = .ok (.getfield 70, 3) := by decide +kernel
theorem dX7_ask_50 : decode cX7_ask 50 = .ok (.iload_n 1, 1) := by decide +kernel
theorem dX7_ask_51 : decode cX7_ask 51 = .ok (.dup2, 1) := by decide +kernel
theorem dX7_ask_52 : decode cX7_ask 52 = .ok (.iaload, 1) := by decide +kernel
theorem dX7_ask_53 : decode cX7_ask 53 = .ok (.iconst 1, 1) := by decide +kernel
theorem dX7_ask_54 : decode cX7_ask 54 = .ok (.iload_n 2, 1) := by decide +kernel
theorem dX7_ask_55 : decode cX7_ask 55 = .ok (.ishl, 1) := by decide +kernel
theorem dX7_ask_56 : decode cX7_ask 56 = .ok (.ixor, 1) := by decide +kernel
theorem dX7_ask_57 : decode cX7_ask 57 = .ok (.iastore, 1) := by decide +kernel
theorem dX7_ask_58 : decode cX7_ask 58 = .ok (.aload_n 0, 1) := by decide +kernel
theorem dX7_ask_59 : decode cX7_ask 59 = .ok (.getfield 26, 3) := by decide +kernel
theorem dX7_ask_62 : decode cX7_ask 62 = .ok (.getfield 70, 3) := by decide +kernel
theorem dX7_ask_65 : decode cX7_ask 65 = .ok (.iload_n 1, 1) := by decide +kernel
theorem dX7_ask_66 : decode cX7_ask 66 = .ok (.iaload, 1) := by decide +kernel
theorem dX7_ask_67 : decode cX7_ask 67 = .ok (.invokestatic 73, 3) := by decide +kernel
theorem dX7_ask_70 : decode cX7_ask 70 = .ok (.ireturn, 1) := by decide +kernel
theorem dX7_bring_0 : decode cX7_bring 0 = .ok (.iload_n 1, 1) := by decide +kernel
theorem dX7_bring_1 : decode cX7_bring 1 = .ok (.invokestatic 79, 3) := by decide +kernel
theorem dX7_bring_4 : decode cX7_bring 4 = .ok (.ifCond .eq 10, 3) := by decide +kernel
theorem dX7_bring_7 : decode cX7_bring 7 = .ok (.iload_n 2, 1) := by decide +kernel
theorem dX7_bring_8 : decode cX7_bring 8 = .ok (.invokestatic 48, 3) := by decide +kernel
theorem dX7_bring_11 : decode cX7_bring 11 = .ok (.ifCond .ne 5, 3) := by decide +kernel
theorem dX7_bring_14 : decode cX7_bring 14 = .ok (.iconst (-1), 1) := by decide +kernel
theorem dX7_bring_15 : decode cX7_bring 15 = .ok (.ireturn, 1) := by decide +kernel
theorem dX7_bring_16 : decode cX7_bring 16 = .ok (.aload_n 0, 1) := by decide +kernel
theorem dX7_bring_17 : decode cX7_bring 17 = .ok (.getfield 26, 3) := by decide +kernel
theorem dX7_bring_20 : decode cX7_bring 20 = .ok (.getfield 82, 3) := by decide +kernel
theorem dX7_bring_23 : decode cX7_bring 23 = .ok (.iload_n 1, 1) := by decide +kernel
theorem dX7_bring_24 : decode cX7_bring 24 = .ok (.iaload, 1) := by decide +kernel
theorem dX7_bring_25 : decode cX7_bring 25 = .ok (.iload_n 2, 1) := by decide +kernel
theorem dX7_bring_26 : decode cX7_bring 26 = .ok (.if_icmp .ne 6, 3) := by decide +kernel
theorem dX7_bring_29 : decode cX7_bring 29 = .ok (.bipush (-5), 2) := by decide +kernel
theorem dX7_bring_31 : decode cX7_bring 31 = .ok (.ireturn, 1) := by decide +kernel
theorem dX7_bring_32 : decode cX7_bring 32 = .ok (.aload_n 0, 1) := by decide +kernel
theorem dX7_bring_33 : decode cX7_bring 33 = .ok (.getfield 33, 3) := by decide +kernel
theorem dX7_bring_36 : decode cX7_bring 36 = .ok (.aload_n 0, 1) := by decide +kernel
theorem dX7_bring_37 : decode cX7_bring 37 = .ok (.getfield 26, 3) := by decide +kernel
theorem dX7_bring_40 : decode cX7_bring 40 = .ok (.invokevirtual 55, 3) := by decide +kernel
theorem dX7_bring_43 : decode cX7_bring 43 = .ok (.aload_n 0, 1) := by decide +kernel
theorem dX7_bring_44 : decode cX7_bring 44 = .ok (.getfield 26, 3) := by decide +kernel
theorem dX7_bring_47 : decode cX7_bring 47 = .ok (.getfield 82, 3) := by decide +kernel
theorem dX7_bring_50 : decode cX7_bring 50 = .ok (.iload_n 1, 1) := by decide +kernel
theorem dX7_bring_51 : decode cX7_bring 51 = .ok (.iload_n 2, 1) := by decide +kernel
theorem dX7_bring_52 : decode cX7_bring 52 = .ok (.iastore, 1) := by decide +kernel
theorem dX7_bring_53 : decode cX7_bring 53 = .ok (.aload_n 0, 1) := by decide +kernel
theorem dX7_bring_54 : decode cX7_bring 54 = .ok (.getfield 26, 3) := by decide +kernel
theorem dX7_bring_57 : decode cX7_bring 57 = .ok (.iload_n 1, 1) := by decide +kernel
theorem dX7_bring_58 : decode cX7_bring 58 = .ok (.invokevirtual 85, 3) := by decide +kernel
theorem dX7_bring_61 : decode cX7_bring 61 = .ok (.ireturn, 1) := by decide +kernel
theorem dX7_label_0 : decode cX7_label 0 = .ok (.iload_n 1, 1) := by decide +kernel
theorem dX7_label_1 : decode cX7_label 1 = .ok (.invokestatic 79, 3) := by decide +kernel
theorem dX7_label_4 : decode cX7_label 4 = .ok (.ifCond .eq 10, 3) := by decide +kernel
theorem dX7_label_7 : decode cX7_label 7 = .ok (.iload_n 2, 1) := by decide +kernel
theorem dX7_label_8 : decode cX7_label 8 = .ok (.invokestatic 63, 3) := by decide +kernel
theorem dX7_label_11 : decode cX7_label 11 = .ok (.ifCond .ne 5, 3) := by decide +kernel
theorem dX7_label_14 : decode cX7_label 14 = .ok (.iconst (-1), 1) := by decide +kernel
theorem dX7_label_15 : decode cX7_label 15 = .ok (.ireturn, 1) := by decide +kernel
theorem dX7_label_16 : decode cX7_label 16 = .ok (.aload_n 0, 1) := by decide +kernel
theorem dX7_label_17 : decode cX7_label 17 = .ok (.iload_n 1, 1) := by decide +kernel
theorem dX7_label_18 : decode cX7_label 18 = .ok (.invokevirtual 88, 3) := by decide +kernel
theorem dX7_label_21 : decode cX7_label 21 = .ok (.istore_n 3, 1) := by decide +kernel
theorem dX7_label_22 : decode cX7_label 22 = .ok (.iload_n 3, 1) := by decide +kernel
theorem dX7_label_23 : decode cX7_label 23 = .ok (.ifCond .eq 5, 3) := by decide +kernel
theorem dX7_label_26 : decode cX7_label 26 = .ok (.iload_n 3, 1) := by decide +kernel
theorem dX7_label_27 : decode cX7_label 27 = .ok (.ireturn, 1) := by decide +kernel
theorem dX7_label_28 : decode cX7_label 28 = .ok (.aload_n 0, 1) := by decide +kernel
theorem dX7_label_29 : decode cX7_label 29 = .ok (.getfield 26, 3) := by decide +kernel
theorem dX7_label_32 : decode cX7_label 32 = .ok (.getfield 91, 3) := by decide +kernel
theorem dX7_label_35 : decode cX7_label 35 = .ok (.iload_n 1, 1) := by decide +kernel
theorem dX7_label_36 : decode cX7_label 36 = .ok (.iload_n 2, 1) := by decide +kernel
theorem dX7_label_37 : decode cX7_label 37 = .ok (.invokestatic 95, 3) := by decide +kernel
theorem dX7_label_40 : decode cX7_label 40 = .ok (.aaload, 1) := by decide +kernel
theorem dX7_label_41 : decode cX7_label 41 = .ok (.astore 4, 2) := by decide +kernel
theorem dX7_label_43 : decode cX7_label 43 = .ok (.aload 4, 2) := by decide +kernel
theorem dX7_label_45 : decode cX7_label 45 = .ok (.getfield 98, 3) := by decide +kernel
theorem dX7_label_48 : decode cX7_label 48 = .ok (.aload_n 0, 1) := by decide +kernel
theorem dX7_label_49 : decode cX7_label 49 = .ok (.getfield 19, 3) := by decide +kernel
theorem dX7_label_52 : decode cX7_label 52 = .ok (.invokevirtual 103, 3) := by decide +kernel
theorem dX7_label_55 : decode cX7_label 55 = .ok (.ifCond .eq 6, 3) := by decide +kernel
theorem dX7_label_58 : decode cX7_label 58 = .ok (.bipush (-5), 2) := by decide +kernel
theorem dX7_label_60 : decode cX7_label 60 = .ok (.ireturn, 1) := by decide +kernel
theorem dX7_label_61 : decode cX7_label 61 = .ok (.aload_n 0, 1) := by decide +kernel
theorem dX7_label_62 : decode cX7_label 62 = .ok (.getfield 33, 3) := by decide +kernel
theorem dX7_label_65 : decode cX7_label 65 = .ok (.aload_n 0, 1) := by decide +kernel
theorem dX7_label_66 : decode cX7_label 66 = .ok (.getfield 26, 3) := by decide +kernel
theorem dX7_label_69 : decode cX7_label 69 = .ok (.invokevirtual 55, 3) := by decide +kernel
theorem dX7_label_72 : decode cX7_label 72 = .ok (.aload 4, 2) := by decide +kernel
theorem dX7_label_74 : decode cX7_label 74 = .ok (.aload_n 0, 1) := by decide +kernel
theorem dX7_label_75 : decode cX7_label 75 = .ok (.getfield 19, 3) := by decide +kernel
theorem dX7_label_78 : decode cX7_label 78 = .ok (.bipush (-5), 2) := by decide +kernel
theorem dX7_label_80 : decode cX7_label 80 = .ok (.aload_n 0, 1) := by decide +kernel
theorem dX7_label_81 : decode cX7_label 81 = .ok (.getfield 26, 3) := by decide +kernel
theorem dX7_label_84 : decode cX7_label 84 = .ok (.getfield 107, 3) := by decide +kernel
theorem dX7_label_87 : decode cX7_label 87 = .ok (.invokevirtual 111, 3) := by decide +kernel
theorem dX7_label_90 : decode cX7_label 90 = .ok (.aload_n 0, 1) := by decide +kernel
theorem dX7_label_91 : decode cX7_label 91 = .ok (.getfield 19, 3) := by decide +kernel
theorem dX7_label_94 : decode cX7_label 94 = .ok (.getfield 115, 3) := by decide +kernel
theorem dX7_label_97 : decode cX7_label 97 = .ok (.ireturn, 1) := by decide +kernel
theorem dX7_takeDown_0 : decode cX7_takeDown 0 = .ok (.iload_n 1, 1) := by decide +kernel
theorem dX7_takeDown_1 : decode cX7_takeDown 1 = .ok (.invokestatic 79, 3) := by decide +kernel
theorem dX7_takeDown_4 : decode cX7_takeDown 4 = .ok (.ifCond .eq 10, 3) := by decide +kernel
theorem dX7_takeDown_7 : decode cX7_takeDown 7 = .ok (.iload_n 2, 1) := by decide +kernel
theorem dX7_takeDown_8 : decode cX7_takeDown 8 = .ok (.invokestatic 63, 3) := by decide +kernel
theorem dX7_takeDown_11 : decode cX7_takeDown 11 = .ok (.ifCond .ne 5, 3) := by decide +kernel
theorem dX7_takeDown_14 : decode cX7_takeDown 14 = .ok (.iconst (-1), 1) := by decide +kernel
theorem dX7_takeDown_15 : decode cX7_takeDown 15 = .ok (.ireturn, 1) := by decide +kernel
theorem dX7_takeDown_16 : decode cX7_takeDown 16 = .ok (.aload_n 0, 1) := by decide +kernel
theorem dX7_takeDown_17 : decode cX7_takeDown 17 = .ok (.getfield 26, 3) := by decide +kernel
theorem dX7_takeDown_20 : decode cX7_takeDown 20 = .ok (.getfield 91, 3) := by decide +kernel
theorem dX7_takeDown_23 : decode cX7_takeDown 23 = .ok (.iload_n 1, 1) := by decide +kernel
theorem dX7_takeDown_24 : decode cX7_takeDown 24 = .ok (.iload_n 2, 1) := by decide +kernel
theorem dX7_takeDown_25 : decode cX7_takeDown 25 = .ok (.invokestatic 95, 3) := by decide +kernel
theorem dX7_takeDown_28 : decode cX7_takeDown 28 = .ok (.aaload, 1) := by decide +kernel
theorem dX7_takeDown_29 : decode cX7_takeDown 29 = .ok (.astore_n 3, 1) := by decide +kernel
theorem dX7_takeDown_30 : decode cX7_takeDown 30 = .ok (.aload_n 3, 1) := by decide +kernel
theorem dX7_takeDown_31 : decode cX7_takeDown 31 = .ok (.invokevirtual 118, 3) := by decide +kernel
theorem dX7_takeDown_34 : decode cX7_takeDown 34 = .ok (.ifCond .ne 6, 3) := by decide +kernel
theorem dX7_takeDown_37 : decode cX7_takeDown 37 = .ok (.bipush (-5), 2) := by decide +kernel
theorem dX7_takeDown_39 : decode cX7_takeDown 39 = .ok (.ireturn, 1) := by decide +kernel
theorem dX7_takeDown_40 : decode cX7_takeDown 40 = .ok (.aload_n 0, 1) := by decide +kernel
theorem dX7_takeDown_41 : decode cX7_takeDown 41 = .ok (.getfield 33, 3) := by decide +kernel
theorem dX7_takeDown_44 : decode cX7_takeDown 44 = .ok (.aload_n 0, 1) := by decide +kernel
theorem dX7_takeDown_45 : decode cX7_takeDown 45 = .ok (.getfield 26, 3) := by decide +kernel
theorem dX7_takeDown_48 : decode cX7_takeDown 48 = .ok (.invokevirtual 55, 3) := by decide +kernel
theorem dX7_takeDown_51 : decode cX7_takeDown 51 = .ok (.aload_n 3, 1) := by decide +kernel
theorem dX7_takeDown_52 : decode cX7_takeDown 52 = .ok (.getfield 98, 3) := by decide +kernel
theorem dX7_takeDown_55 : decode cX7_takeDown 55 = .ok (.getfield 115, 3) := by decide +kernel
theorem dX7_takeDown_58 : decode cX7_takeDown 58 = .ok (.istore 4, 2) := by decide +kernel
theorem dX7_takeDown_60 : decode cX7_takeDown 60 = .ok (.aload_n 3, 1) := by decide +kernel
theorem dX7_takeDown_61 : decode cX7_takeDown 61 = .ok (.getfield 98, 3) := by decide +kernel
theorem dX7_takeDown_64 : decode cX7_takeDown 64 = .ok (.invokevirtual 122, 3) := by decide +kernel
theorem dX7_takeDown_67 : decode cX7_takeDown 67 = .ok (.iload 4, 2) := by decide +kernel
theorem dX7_takeDown_69 : decode cX7_takeDown 69 = .ok (.ireturn, 1) := by decide +kernel
theorem dX7_setNeeded_0 : decode cX7_setNeeded 0 = .ok (.iload_n 1, 1) := by decide +kernel
theorem dX7_setNeeded_1 : decode cX7_setNeeded 1 = .ok (.iconst 1, 1) := by decide +kernel
theorem dX7_setNeeded_2 : decode cX7_setNeeded 2 = .ok (.if_icmp .lt 9, 3) := by decide +kernel
theorem dX7_setNeeded_5 : decode cX7_setNeeded 5 = .ok (.iload_n 1, 1) := by decide +kernel
theorem dX7_setNeeded_6 : decode cX7_setNeeded 6 = .ok (.bipush 9, 2) := by decide +kernel
theorem dX7_setNeeded_8 : decode cX7_setNeeded 8 = .ok (.if_icmp .le 6, 3) := by decide +kernel
theorem dX7_setNeeded_11 : decode cX7_setNeeded 11 = .ok (.bipush (-2), 2) := by decide +kernel
theorem dX7_setNeeded_13 : decode cX7_setNeeded 13 = .ok (.ireturn, 1) := by decide +kernel
theorem dX7_setNeeded_14 : decode cX7_setNeeded 14 = .ok (.aload_n 0, 1) := by decide +kernel
theorem dX7_setNeeded_15 : decode cX7_setNeeded 15 = .ok (.getfield 26, 3) := by decide +kernel
theorem dX7_setNeeded_18 : decode cX7_setNeeded 18 = .ok (.getfield 125, 3) := by decide +kernel
theorem dX7_setNeeded_21 : decode cX7_setNeeded 21 = .ok (.iload_n 1, 1) := by decide +kernel
theorem dX7_setNeeded_22 : decode cX7_setNeeded 22 = .ok (.if_icmp .ne 6, 3) := by decide +kernel
theorem dX7_setNeeded_25 : decode cX7_setNeeded 25 = .ok (.bipush (-5), 2) := by decide +kernel
theorem dX7_setNeeded_27 : decode cX7_setNeeded 27 = .ok (.ireturn, 1) := by decide +kernel
theorem dX7_setNeeded_28 : decode cX7_setNeeded 28 = .ok (.aload_n 0, 1) := by decide +kernel
theorem dX7_setNeeded_29 : decode cX7_setNeeded 29 = .ok (.getfield 33, 3) := by decide +kernel
theorem dX7_setNeeded_32 : decode cX7_setNeeded 32 = .ok (.aload_n 0, 1) := by decide +kernel
theorem dX7_setNeeded_33 : decode cX7_setNeeded 33 = .ok (.getfield 26, 3) := by decide +kernel
theorem dX7_setNeeded_36 : decode cX7_setNeeded 36 = .ok (.invokevirtual 55, 3) := by decide +kernel
theorem dX7_setNeeded_39 : decode cX7_setNeeded 39 = .ok (.aload_n 0, 1) := by decide +kernel
theorem dX7_setNeeded_40 : decode cX7_setNeeded 40 = .ok (.getfield 26, 3) := by decide +kernel
theorem dX7_setNeeded_43 : decode cX7_setNeeded 43 = .ok (.getfield 125, 3) := by decide +kernel
theorem dX7_setNeeded_46 : decode cX7_setNeeded 46 = .ok (.istore_n 2, 1) := by decide +kernel
theorem dX7_setNeeded_47 : decode cX7_setNeeded 47 = .ok (.aload_n 0, 1) := by decide +kernel
theorem dX7_setNeeded_48 : decode cX7_setNeeded 48 = .ok (.getfield 26, 3) := by decide +kernel
theorem dX7_setNeeded_51 : decode cX7_setNeeded 51 = .ok (.iload_n 1, 1) := by decide +kernel
theorem dX7_setNeeded_52 : decode cX7_setNeeded 52 = .ok (.putfield 125, 3) := by decide +kernel
theorem dX7_setNeeded_55 : decode cX7_setNeeded 55 = .ok (.iload_n 2, 1) := by decide +kernel
theorem dX7_setNeeded_56 : decode cX7_setNeeded 56 = .ok (.ireturn, 1) := by decide +kernel
theorem dX7_rewrite_0 : decode cX7_rewrite 0 = .ok (.iload_n 1, 1) := by decide +kernel
theorem dX7_rewrite_1 : decode cX7_rewrite 1 = .ok (.invokestatic 128, 3) := by decide +kernel
theorem dX7_rewrite_4 : decode cX7_rewrite 4 = .ok (.ifCond .eq 17, 3) := by decide +kernel
theorem dX7_rewrite_7 : decode cX7_rewrite 7 = .ok (.iload_n 2, 1) := by decide +kernel
theorem dX7_rewrite_8 : decode cX7_rewrite 8 = .ok (.invokestatic 79, 3) := by decide +kernel
theorem dX7_rewrite_11 : decode cX7_rewrite 11 = .ok (.ifCond .eq 10, 3) := by decide +kernel
theorem dX7_rewrite_14 : decode cX7_rewrite 14 = .ok (.iload_n 3, 1) := by decide +kernel
theorem dX7_rewrite_15 : decode cX7_rewrite 15 = .ok (.invokestatic 63, 3) := by decide +kernel
theorem dX7_rewrite_18 : decode cX7_rewrite 18 = .ok (.ifCond .ne 5, 3) := by decide +kernel
theorem dX7_rewrite_21 : decode cX7_rewrite 21 = .ok (.iconst (-1), 1) := by decide +kernel
theorem dX7_rewrite_22 : decode cX7_rewrite 22 = .ok (.ireturn, 1) := by decide +kernel
theorem dX7_rewrite_23 : decode cX7_rewrite 23 = .ok (.aload_n 0, 1) := by decide +kernel
theorem dX7_rewrite_24 : decode cX7_rewrite 24 = .ok (.iload_n 2, 1) := by decide +kernel
theorem dX7_rewrite_25 : decode cX7_rewrite 25 = .ok (.invokevirtual 88, 3) := by decide +kernel
theorem dX7_rewrite_28 : decode cX7_rewrite 28 = .ok (.istore 4, 2) := by decide +kernel
theorem dX7_rewrite_30 : decode cX7_rewrite 30 = .ok (.iload 4, 2) := by decide +kernel
theorem dX7_rewrite_32 : decode cX7_rewrite 32 = .ok (.ifCond .eq 6, 3) := by decide +kernel
theorem dX7_rewrite_35 : decode cX7_rewrite 35 = .ok (.iload 4, 2) := by decide +kernel
theorem dX7_rewrite_37 : decode cX7_rewrite 37 = .ok (.ireturn, 1) := by decide +kernel
theorem dX7_rewrite_38 : decode cX7_rewrite 38 = .ok (.iload_n 2, 1) := by decide +kernel
theorem dX7_rewrite_39 : decode cX7_rewrite 39 = .ok (.iload_n 3, 1) := by decide +kernel
theorem dX7_rewrite_40 : decode cX7_rewrite 40 = .ok (.invokestatic 95, 3) := by decide +kernel
theorem dX7_rewrite_43 : decode cX7_rewrite 43 = .ok (.istore 5, 2) := by decide +kernel
theorem dX7_rewrite_45 : decode cX7_rewrite 45 = .ok (.aload_n 0, 1) := by decide +kernel
theorem dX7_rewrite_46 : decode cX7_rewrite 46 = .ok (.getfield 26, 3) := by decide +kernel
theorem dX7_rewrite_49 : decode cX7_rewrite 49 = .ok (.getfield 91, 3) := by decide +kernel
theorem dX7_rewrite_52 : decode cX7_rewrite 52 = .ok (.iload 5, 2) := by decide +kernel
theorem dX7_rewrite_54 : decode cX7_rewrite 54 = .ok (.aaload, 1) := by decide +kernel
theorem dX7_rewrite_55 : decode cX7_rewrite 55 = .ok (.getfield 98, 3) := by decide +kernel
theorem dX7_rewrite_58 : decode cX7_rewrite 58 = .ok (.aload_n 0, 1) := by decide +kernel
theorem dX7_rewrite_59 : decode cX7_rewrite 59 = .ok (.getfield 19, 3) := by decide +kernel
theorem dX7_rewrite_62 : decode cX7_rewrite 62 = .ok (.invokevirtual 103, 3) := by decide +kernel
theorem dX7_rewrite_65 : decode cX7_rewrite 65 = .ok (.ifCond .eq 6, 3) := by decide +kernel
theorem dX7_rewrite_68 : decode cX7_rewrite 68 = .ok (.bipush (-4), 2) := by decide +kernel
theorem dX7_rewrite_70 : decode cX7_rewrite 70 = .ok (.ireturn, 1) := by decide +kernel
theorem dX7_rewrite_71 : decode cX7_rewrite 71 = .ok (.aload_n 0, 1) := by decide +kernel
theorem dX7_rewrite_72 : decode cX7_rewrite 72 = .ok (.getfield 26, 3) := by decide +kernel
theorem dX7_rewrite_75 : decode cX7_rewrite 75 = .ok (.getfield 131, 3) := by decide +kernel
theorem dX7_rewrite_78 : decode cX7_rewrite 78 = .ok (.iload_n 1, 1) := by decide +kernel
theorem dX7_rewrite_79 : decode cX7_rewrite 79 = .ok (.iload 5, 2) := by decide +kernel
theorem dX7_rewrite_81 : decode cX7_rewrite 81 = .ok (.invokevirtual 135, 3) := by decide +kernel
theorem dX7_rewrite_84 : decode cX7_rewrite 84 = .ok (.ifCond .ne 6, 3) := by decide +kernel
theorem dX7_rewrite_87 : decode cX7_rewrite 87 = .ok (.bipush (-3), 2) := by decide +kernel
theorem dX7_rewrite_89 : decode cX7_rewrite 89 = .ok (.ireturn, 1) := by decide +kernel
theorem dX7_rewrite_90 : decode cX7_rewrite 90 = .ok (.aload_n 0, 1) := by decide +kernel
theorem dX7_rewrite_91 : decode cX7_rewrite 91 = .ok (.getfield 33, 3) := by decide +kernel
theorem dX7_rewrite_94 : decode cX7_rewrite 94 = .ok (.aload_n 0, 1) := by decide +kernel
theorem dX7_rewrite_95 : decode cX7_rewrite 95 = .ok (.getfield 26, 3) := by decide +kernel
theorem dX7_rewrite_98 : decode cX7_rewrite 98 = .ok (.invokevirtual 55, 3) := by decide +kernel
theorem dX7_rewrite_101 : decode cX7_rewrite 101 = .ok (.aload_n 0, 1) := by decide +kernel
theorem dX7_rewrite_102 : decode cX7_rewrite 102 = .ok (.getfield 26, 3) := by decide +kernel
theorem dX7_rewrite_105 : decode cX7_rewrite 105 = .ok (.getfield 131, 3) := by decide +kernel
theorem dX7_rewrite_108 : decode cX7_rewrite 108 = .ok (.iload_n 1, 1) := by decide +kernel
theorem dX7_rewrite_109 : decode cX7_rewrite 109 = .ok (.iload 5, 2) := by decide +kernel
theorem dX7_rewrite_111 : decode cX7_rewrite 111 = .ok (.aload_n 0, 1) := by decide +kernel
theorem dX7_rewrite_112 : decode cX7_rewrite 112 = .ok (.getfield 19, 3) := by decide +kernel
theorem dX7_rewrite_115 : decode cX7_rewrite 115 = .ok (.invokevirtual 140, 3) := by decide +kernel
theorem dX7_rewrite_118 : decode cX7_rewrite 118 = .ok (.ireturn, 1) := by decide +kernel
theorem dX7_vote_0 : decode cX7_vote 0 = .ok (.aload_n 0, 1) := by decide +kernel
theorem dX7_vote_1 : decode cX7_vote 1 = .ok (.getfield 26, 3) := by decide +kernel
theorem dX7_vote_4 : decode cX7_vote 4 = .ok (.getfield 131, 3) := by decide +kernel
theorem dX7_vote_7 : decode cX7_vote 7 = .ok (.iload_n 2, 1) := by decide +kernel
theorem dX7_vote_8 : decode cX7_vote 8 = .ok (.invokevirtual 144, 3) := by decide +kernel
theorem dX7_vote_11 : decode cX7_vote 11 = .ok (.astore 4, 2) := by decide +kernel
theorem dX7_vote_13 : decode cX7_vote 13 = .ok (.iload_n 1, 1) := by decide +kernel
theorem dX7_vote_14 : decode cX7_vote 14 = .ok (.invokestatic 128, 3) := by decide +kernel
theorem dX7_vote_17 : decode cX7_vote 17 = .ok (.ifCond .eq 8, 3) := by decide +kernel
theorem dX7_vote_20 : decode cX7_vote 20 = .ok (.aload 4, 2) := by decide +kernel
theorem dX7_vote_22 : decode cX7_vote 22 = .ok (.ifnonnull 5, 3) := by decide +kernel
theorem dX7_vote_25 : decode cX7_vote 25 = .ok (.iconst (-1), 1) := by decide +kernel
theorem dX7_vote_26 : decode cX7_vote 26 = .ok (.ireturn, 1) := by decide +kernel
theorem dX7_vote_27 : decode cX7_vote 27 = .ok (.aload 4, 2) := by decide +kernel
theorem dX7_vote_29 : decode cX7_vote 29 = .ok (.getfield 148, 3) := by decide +kernel
theorem dX7_vote_32 : decode cX7_vote 32 = .ok (.iload_n 1, 1) := by decide +kernel
theorem dX7_vote_33 : decode cX7_vote 33 = .ok (.if_icmp .ne 6, 3) := by decide +kernel
theorem dX7_vote_36 : decode cX7_vote 36 = .ok (.bipush (-4), 2) := by decide +kernel
theorem dX7_vote_38 : decode cX7_vote 38 = .ok (.ireturn, 1) := by decide +kernel
theorem dX7_vote_39 : decode cX7_vote 39 = .ok (.aload 4, 2) := by decide +kernel
theorem dX7_vote_41 : decode cX7_vote 41 = .ok (.iload_n 1, 1) := by decide +kernel
theorem dX7_vote_42 : decode cX7_vote 42 = .ok (.invokevirtual 153, 3) := by decide +kernel
theorem dX7_vote_45 : decode cX7_vote 45 = .ok (.iload_n 3, 1) := by decide +kernel
theorem dX7_vote_46 : decode cX7_vote 46 = .ok (.if_icmp .ne 6, 3) := by decide +kernel
theorem dX7_vote_49 : decode cX7_vote 49 = .ok (.bipush (-5), 2) := by decide +kernel
theorem dX7_vote_51 : decode cX7_vote 51 = .ok (.ireturn, 1) := by decide +kernel
theorem dX7_vote_52 : decode cX7_vote 52 = .ok (.aload_n 0, 1) := by decide +kernel
theorem dX7_vote_53 : decode cX7_vote 53 = .ok (.getfield 33, 3) := by decide +kernel
theorem dX7_vote_56 : decode cX7_vote 56 = .ok (.aload_n 0, 1) := by decide +kernel
theorem dX7_vote_57 : decode cX7_vote 57 = .ok (.getfield 26, 3) := by decide +kernel
theorem dX7_vote_60 : decode cX7_vote 60 = .ok (.invokevirtual 55, 3) := by decide +kernel
theorem dX7_vote_63 : decode cX7_vote 63 = .ok (.aload_n 0, 1) := by decide +kernel
theorem dX7_vote_64 : decode cX7_vote 64 = .ok (.getfield 26, 3) := by decide +kernel
theorem dX7_vote_67 : decode cX7_vote 67 = .ok (.getfield 131, 3) := by decide +kernel
theorem dX7_vote_70 : decode cX7_vote 70 = .ok (.iload_n 1, 1) := by decide +kernel
theorem dX7_vote_71 : decode cX7_vote 71 = .ok (.aload 4, 2) := by decide +kernel
theorem dX7_vote_73 : decode cX7_vote 73 = .ok (.getfield 156, 3) := by decide +kernel
theorem dX7_vote_76 : decode cX7_vote 76 = .ok (.invokevirtual 159, 3) := by decide +kernel
theorem dX7_vote_79 : decode cX7_vote 79 = .ok (.iload_n 3, 1) := by decide +kernel
theorem dX7_vote_80 : decode cX7_vote 80 = .ok (.ifCond .eq 16, 3) := by decide +kernel
theorem dX7_vote_83 : decode cX7_vote 83 = .ok (.aload 4, 2) := by decide +kernel
theorem dX7_vote_85 : decode cX7_vote 85 = .ok (.dup, 1) := by decide +kernel
theorem dX7_vote_86 : decode cX7_vote 86 = .ok (.getfield 163, 3) := by decide +kernel
theorem dX7_vote_89 : decode cX7_vote 89 = .ok (.iconst 1, 1) := by decide +kernel
theorem dX7_vote_90 : decode cX7_vote 90 = .ok (.iload_n 1, 1) := by decide +kernel
theorem dX7_vote_91 : decode cX7_vote 91 = .ok (.ishl, 1) := by decide +kernel
theorem dX7_vote_92 : decode cX7_vote 92 = .ok (.ior, 1) := by decide +kernel
theorem dX7_vote_93 : decode cX7_vote 93 = .ok (.putfield 163, 3) := by decide +kernel
theorem dX7_vote_96 : decode cX7_vote 96 = .ok (.aload 4, 2) := by decide +kernel
theorem dX7_vote_98 : decode cX7_vote 98 = .ok (.invokevirtual 166, 3) := by decide +kernel
theorem dX7_vote_101 : decode cX7_vote 101 = .ok (.ireturn, 1) := by decide +kernel
theorem dX7_endWeek_0 : decode cX7_endWeek 0 = .ok (.aload_n 0, 1) := by decide +kernel
theorem dX7_endWeek_1 : decode cX7_endWeek 1 = .ok (.getfield 33, 3) := by decide +kernel
theorem dX7_endWeek_4 : decode cX7_endWeek 4 = .ok (.aload_n 0, 1) := by decide +kernel
theorem dX7_endWeek_5 : decode cX7_endWeek 5 = .ok (.getfield 26, 3) := by decide +kernel
theorem dX7_endWeek_8 : decode cX7_endWeek 8 = .ok (.invokevirtual 55, 3) := by decide +kernel
theorem dX7_endWeek_11 : decode cX7_endWeek 11 = .ok (.aload_n 0, 1) := by decide +kernel
theorem dX7_endWeek_12 : decode cX7_endWeek 12 = .ok (.getfield 26, 3) := by decide +kernel
theorem dX7_endWeek_15 : decode cX7_endWeek 15 = .ok (.invokevirtual 170, 3) := by decide +kernel
theorem dX7_endWeek_18 : decode cX7_endWeek 18 = .ok (.ireturn, 1) := by decide +kernel
theorem dX7_type_0 : decode cX7_type 0 = .ok (.aload_n 0, 1) := by decide +kernel
theorem dX7_type_1 : decode cX7_type 1 = .ok (.getfield 12, 3) := by decide +kernel
theorem dX7_type_4 : decode cX7_type 4 = .ok (.iload_n 1, 1) := by decide +kernel
theorem dX7_type_5 : decode cX7_type 5 = .ok (.invokevirtual 173, 3) := by decide +kernel
theorem dX7_type_8 : decode cX7_type 8 = .ok (.ifCond .eq 13, 3) := by decide +kernel
theorem dX7_type_11 : decode cX7_type 11 = .ok (.aload_n 0, 1) := by decide +kernel
theorem dX7_type_12 : decode cX7_type 12 = .ok (.getfield 12, 3) := by decide +kernel
theorem dX7_type_15 : decode cX7_type 15 = .ok (.getfield 177, 3) := by decide +kernel
theorem dX7_type_18 : decode cX7_type 18 = .ok (.goto 5, 3) := by decide +kernel
theorem dX7_type_21 : decode cX7_type 21 = .ok (.bipush (-3), 2) := by decide +kernel
theorem dX7_type_23 : decode cX7_type 23 = .ok (.ireturn, 1) := by decide +kernel
theorem dX7_clearText_0 : decode cX7_clearText 0 = .ok (.aload_n 0, 1) := by decide +kernel
theorem dX7_clearText_1 : decode cX7_clearText 1 = .ok (.getfield 12, 3) := by decide +kernel
theorem dX7_clearText_4 : decode cX7_clearText 4 = .ok (.getfield 177, 3) := by decide +kernel
theorem dX7_clearText_7 : decode cX7_clearText 7 = .ok (.istore_n 1, 1) := by decide +kernel
theorem dX7_clearText_8 : decode cX7_clearText 8 = .ok (.aload_n 0, 1) := by decide +kernel
theorem dX7_clearText_9 : decode cX7_clearText 9 = .ok (.getfield 12, 3) := by decide +kernel
theorem dX7_clearText_12 : decode cX7_clearText 12 = .ok (.iconst 0, 1) := by decide +kernel
theorem dX7_clearText_13 : decode cX7_clearText 13 = .ok (.putfield 177, 3) := by decide +kernel
theorem dX7_clearText_16 : decode cX7_clearText 16 = .ok (.iload_n 1, 1) := by decide +kernel
theorem dX7_clearText_17 : decode cX7_clearText 17 = .ok (.ireturn, 1) := by decide +kernel
theorem dX7_undo_0 : decode cX7_undo 0 = .ok (.aload_n 0, 1) := by decide +kernel
theorem dX7_undo_1 : decode cX7_undo 1 = .ok (.getfield 33, 3) := by decide +kernel
theorem dX7_undo_4 : decode cX7_undo 4 = .ok (.getfield 180, 3) := by decide +kernel
theorem dX7_undo_7 : decode cX7_undo 7 = .ok (.ifCond .ne 6, 3) := by decide +kernel
theorem dX7_undo_10 : decode cX7_undo 10 = .ok (.bipush (-5), 2) := by decide +kernel
theorem dX7_undo_12 : decode cX7_undo 12 = .ok (.ireturn, 1) := by decide +kernel
theorem dX7_undo_13 : decode cX7_undo 13 = .ok (.aload_n 0, 1) := by decide +kernel
theorem dX7_undo_14 : decode cX7_undo 14 = .ok (.getfield 33, 3) := by decide +kernel
theorem dX7_undo_17 : decode cX7_undo 17 = .ok (.aload_n 0, 1) := by decide +kernel
theorem dX7_undo_18 : decode cX7_undo 18 = .ok (.getfield 26, 3) := by decide +kernel
theorem dX7_undo_21 : decode cX7_undo 21 = .ok (.invokevirtual 181, 3) := by decide +kernel
theorem dX7_undo_24 : decode cX7_undo 24 = .ok (.aload_n 0, 1) := by decide +kernel
theorem dX7_undo_25 : decode cX7_undo 25 = .ok (.getfield 33, 3) := by decide +kernel
theorem dX7_undo_28 : decode cX7_undo 28 = .ok (.getfield 180, 3) := by decide +kernel
theorem dX7_undo_31 : decode cX7_undo 31 = .ok (.ireturn, 1) := by decide +kernel
theorem dX7_keep_0 : decode cX7_keep 0 = .ok (.aload_n 0, 1) := by decide +kernel
theorem dX7_keep_1 : decode cX7_keep 1 = .ok (.getfield 37, 3) := by decide +kernel
theorem dX7_keep_4 : decode cX7_keep 4 = .ok (.aload_n 0, 1) := by decide +kernel
theorem dX7_keep_5 : decode cX7_keep 5 = .ok (.getfield 26, 3) := by decide +kernel
theorem dX7_keep_8 : decode cX7_keep 8 = .ok (.invokevirtual 184, 3) := by decide +kernel
theorem dX7_keep_11 : decode cX7_keep 11 = .ok (.aload_n 0, 1) := by decide +kernel
theorem dX7_keep_12 : decode cX7_keep 12 = .ok (.iconst 1, 1) := by decide +kernel
theorem dX7_keep_13 : decode cX7_keep 13 = .ok (.putfield 40, 3) := by decide +kernel
theorem dX7_keep_16 : decode cX7_keep 16 = .ok (.aload_n 0, 1) := by decide +kernel
theorem dX7_keep_17 : decode cX7_keep 17 = .ok (.getfield 26, 3) := by decide +kernel
theorem dX7_keep_20 : decode cX7_keep 20 = .ok (.invokevirtual 187, 3) := by decide +kernel
theorem dX7_keep_23 : decode cX7_keep 23 = .ok (.ireturn, 1) := by decide +kernel
theorem dX7_restore_0 : decode cX7_restore 0 = .ok (.aload_n 0, 1) := by decide +kernel
theorem dX7_restore_1 : decode cX7_restore 1 = .ok (.getfield 40, 3) := by decide +kernel
theorem dX7_restore_4 : decode cX7_restore 4 = .ok (.ifCond .ne 6, 3) := by decide +kernel
theorem dX7_restore_7 : decode cX7_restore 7 = .ok (.bipush (-5), 2) := by decide +kernel
theorem dX7_restore_9 : decode cX7_restore 9 = .ok (.ireturn, 1) := by decide +kernel
theorem dX7_restore_10 : decode cX7_restore 10 = .ok (.aload_n 0, 1) := by decide +kernel
theorem dX7_restore_11 : decode cX7_restore 11 = .ok (.getfield 33, 3) := by decide +kernel
theorem dX7_restore_14 : decode cX7_restore 14 = .ok (.aload_n 0, 1) := by decide +kernel
theorem dX7_restore_15 : decode cX7_restore 15 = .ok (.getfield 26, 3) := by decide +kernel
theorem dX7_restore_18 : decode cX7_restore 18 = .ok (.invokevirtual 55, 3) := by decide +kernel
theorem dX7_restore_21 : decode cX7_restore 21 = .ok (.aload_n 0, 1) := by decide +kernel
theorem dX7_restore_22 : decode cX7_restore 22 = .ok (.getfield 26, 3) := by decide +kernel
theorem dX7_restore_25 : decode cX7_restore 25 = .ok (.aload_n 0, 1) := by decide +kernel
theorem dX7_restore_26 : decode cX7_restore 26 = .ok (.getfield 37, 3) := by decide +kernel
theorem dX7_restore_29 : decode cX7_restore 29 = .ok (.invokevirtual 184, 3) := by decide +kernel
theorem dX7_restore_32 : decode cX7_restore 32 = .ok (.aload_n 0, 1) := by decide +kernel
theorem dX7_restore_33 : decode cX7_restore 33 = .ok (.getfield 26, 3) := by decide +kernel
theorem dX7_restore_36 : decode cX7_restore 36 = .ok (.invokevirtual 187, 3) := by decide +kernel
theorem dX7_restore_39 : decode cX7_restore 39 = .ok (.ireturn, 1) := by decide +kernel
theorem dX7_labelOf_0 : decode cX7_labelOf 0 = .ok (.iload_n 1, 1) := by decide +kernel
theorem dX7_labelOf_1 : decode cX7_labelOf 1 = .ok (.invokestatic 79, 3) := by decide +kernel
theorem dX7_labelOf_4 : decode cX7_labelOf 4 = .ok (.ifCond .eq 10, 3) := by decide +kernel
theorem dX7_labelOf_7 : decode cX7_labelOf 7 = .ok (.iload_n 2, 1) := by decide +kernel
theorem dX7_labelOf_8 : decode cX7_labelOf 8 = .ok (.invokestatic 63, 3) := by decide +kernel
theorem dX7_labelOf_11 : decode cX7_labelOf 11 = .ok (.ifCond .ne 5, 3) := by decide +kernel
theorem dX7_labelOf_14 : decode cX7_labelOf 14 = .ok (.iconst (-1), 1) := by decide +kernel
theorem dX7_labelOf_15 : decode cX7_labelOf 15 = .ok (.ireturn, 1) := by decide +kernel
theorem dX7_labelOf_16 : decode cX7_labelOf 16 = .ok (.iload_n 3, 1) := by decide +kernel
theorem dX7_labelOf_17 : decode cX7_labelOf 17 = .ok (.ifCond .lt 8, 3) := by decide +kernel
theorem dX7_labelOf_20 : decode cX7_labelOf 20 = .ok (.iload_n 3, 1) := by decide +kernel
theorem dX7_labelOf_21 : decode cX7_labelOf 21 = .ok (.iconst 4, 1) := by decide +kernel
theorem dX7_labelOf_22 : decode cX7_labelOf 22 = .ok (.if_icmp .le 6, 3) := by decide +kernel
theorem dX7_labelOf_25 : decode cX7_labelOf 25 = .ok (.bipush (-2), 2) := by decide +kernel
theorem dX7_labelOf_27 : decode cX7_labelOf 27 = .ok (.ireturn, 1) := by decide +kernel
theorem dX7_labelOf_28 : decode cX7_labelOf 28 = .ok (.aload_n 0, 1) := by decide +kernel
theorem dX7_labelOf_29 : decode cX7_labelOf 29 = .ok (.getfield 26, 3) := by decide +kernel
theorem dX7_labelOf_32 : decode cX7_labelOf 32 = .ok (.getfield 91, 3) := by decide +kernel
theorem dX7_labelOf_35 : decode cX7_labelOf 35 = .ok (.iload_n 1, 1) := by decide +kernel
theorem dX7_labelOf_36 : decode cX7_labelOf 36 = .ok (.iload_n 2, 1) := by decide +kernel
theorem dX7_labelOf_37 : decode cX7_labelOf 37 = .ok (.invokestatic 95, 3) := by decide +kernel
theorem dX7_labelOf_40 : decode cX7_labelOf 40 = .ok (.aaload, 1) := by decide +kernel
theorem dX7_labelOf_41 : decode cX7_labelOf 41 = .ok (.astore 4, 2) := by decide +kernel
theorem dX7_labelOf_43 : decode cX7_labelOf 43 = .ok (.aload 4, 2) := by decide +kernel
theorem dX7_labelOf_45 : decode cX7_labelOf 45 = .ok (.invokevirtual 118, 3) := by decide +kernel
theorem dX7_labelOf_48 : decode cX7_labelOf 48 = .ok (.ifCond .eq 12, 3) := by decide +kernel
theorem dX7_labelOf_51 : decode cX7_labelOf 51 = .ok (.aload 4, 2) := by decide +kernel
theorem dX7_labelOf_53 : decode cX7_labelOf 53 = .ok (.iload_n 3, 1) := by decide +kernel
theorem dX7_labelOf_54 : decode cX7_labelOf 54 = .ok (.invokevirtual 190, 3) := by decide +kernel
theorem dX7_labelOf_57 : decode cX7_labelOf 57 = .ok (.goto 5, 3) := by decide +kernel
theorem dX7_labelOf_60 : decode cX7_labelOf 60 = .ok (.bipush (-5), 2) := by decide +kernel
theorem dX7_labelOf_62 : decode cX7_labelOf 62 = .ok (.ireturn, 1) := by decide +kernel
theorem dX7_letter_0 : decode cX7_letter 0 = .ok (.iload_n 1, 1) := by decide +kernel
theorem dX7_letter_1 : decode cX7_letter 1 = .ok (.invokestatic 79, 3) := by decide +kernel
theorem dX7_letter_4 : decode cX7_letter 4 = .ok (.ifCond .eq 10, 3) := by decide +kernel
theorem dX7_letter_7 : decode cX7_letter 7 = .ok (.iload_n 2, 1) := by decide +kernel
theorem dX7_letter_8 : decode cX7_letter 8 = .ok (.invokestatic 63, 3) := by decide +kernel
theorem dX7_letter_11 : decode cX7_letter 11 = .ok (.ifCond .ne 5, 3) := by decide +kernel
theorem dX7_letter_14 : decode cX7_letter 14 = .ok (.iconst (-1), 1) := by decide +kernel
theorem dX7_letter_15 : decode cX7_letter 15 = .ok (.ireturn, 1) := by decide +kernel
theorem dX7_letter_16 : decode cX7_letter 16 = .ok (.iload_n 3, 1) := by decide +kernel
theorem dX7_letter_17 : decode cX7_letter 17 = .ok (.ifCond .ge 6, 3) := by decide +kernel
theorem dX7_letter_20 : decode cX7_letter 20 = .ok (.bipush (-2), 2) := by decide +kernel
theorem dX7_letter_22 : decode cX7_letter 22 = .ok (.ireturn, 1) := by decide +kernel
theorem dX7_letter_23 : decode cX7_letter 23 = .ok (.aload_n 0, 1) := by decide +kernel
theorem dX7_letter_24 : decode cX7_letter 24 = .ok (.getfield 26, 3) := by decide +kernel
theorem dX7_letter_27 : decode cX7_letter 27 = .ok (.getfield 91, 3) := by decide +kernel
theorem dX7_letter_30 : decode cX7_letter 30 = .ok (.iload_n 1, 1) := by decide +kernel
theorem dX7_letter_31 : decode cX7_letter 31 = .ok (.iload_n 2, 1) := by decide +kernel
theorem dX7_letter_32 : decode cX7_letter 32 = .ok (.invokestatic 95, 3) := by decide +kernel
theorem dX7_letter_35 : decode cX7_letter 35 = .ok (.aaload, 1) := by decide +kernel
theorem dX7_letter_36 : decode cX7_letter 36 = .ok (.getfield 98, 3) := by decide +kernel
theorem dX7_letter_39 : decode cX7_letter 39 = .ok (.astore 4, 2) := by decide +kernel
theorem dX7_letter_41 : decode cX7_letter 41 = .ok (.iload_n 3, 1) := by decide +kernel
theorem dX7_letter_42 : decode cX7_letter 42 = .ok (.aload 4, 2) := by decide +kernel
theorem dX7_letter_44 : decode cX7_letter 44 = .ok (.getfield 193, 3) := by decide +kernel
theorem dX7_letter_47 : decode cX7_letter 47 = .ok (.if_icmp .ge 13, 3) := by decide +kernel
theorem dX7_letter_50 : decode cX7_letter 50 = .ok (.aload 4, 2) := by decide +kernel
theorem dX7_letter_52 : decode cX7_letter 52 = .ok (.getfield 194, 3) := by decide +kernel
theorem dX7_letter_55 : decode cX7_letter 55 = .ok (.iload_n 3, 1) := by decide +kernel
theorem dX7_letter_56 : decode cX7_letter 56 = .ok (.caload, 1) := by decide +kernel
theorem dX7_letter_57 : decode cX7_letter 57 = .ok (.goto 5, 3) := by decide +kernel
theorem dX7_letter_60 : decode cX7_letter 60 = .ok (.bipush (-5), 2) := by decide +kernel
theorem dX7_letter_62 : decode cX7_letter 62 = .ok (.ireturn, 1) := by decide +kernel
theorem dX7_rewriteOf_0 : decode cX7_rewriteOf 0 = .ok (.aload_n 0, 1) := by decide +kernel
theorem dX7_rewriteOf_1 : decode cX7_rewriteOf 1 = .ok (.getfield 26, 3) := by decide +kernel
theorem dX7_rewriteOf_4 : decode cX7_rewriteOf 4 = .ok (.getfield 131, 3) := by decide +kernel
theorem dX7_rewriteOf_7 : decode cX7_rewriteOf 7 = .ok (.iload_n 1, 1) := by decide +kernel
theorem dX7_rewriteOf_8 : decode cX7_rewriteOf 8 = .ok (.invokevirtual 144, 3) := by decide +kernel
theorem dX7_rewriteOf_11 : decode cX7_rewriteOf 11 = .ok (.astore_n 3, 1) := by decide +kernel
theorem dX7_rewriteOf_12 : decode cX7_rewriteOf 12 = .ok (.aload_n 3, 1) := by decide +kernel
theorem dX7_rewriteOf_13 : decode cX7_rewriteOf 13 = .ok (.ifnonnull 5, 3) := by decide +kernel
theorem dX7_rewriteOf_16 : decode cX7_rewriteOf 16 = .ok (.iconst (-1), 1) := by decide +kernel
theorem dX7_rewriteOf_17 : decode cX7_rewriteOf 17 = .ok (.ireturn, 1) := by decide +kernel
theorem dX7_rewriteOf_18 : decode cX7_rewriteOf 18 = .ok (.iload_n 2, 1) := by decide +kernel
theorem dX7_rewriteOf_19 : decode cX7_rewriteOf 19 = .ok (.tableswitch 130 0 7 #[45, 52, 59, 64, 72, 77, 82, 109], 45) := by decide +kernel
theorem dX7_rewriteOf_64 : decode cX7_rewriteOf 64 = .ok (.aload_n 3, 1) := by decide +kernel
theorem dX7_rewriteOf_65 : decode cX7_rewriteOf 65 = .ok (.getfield 156, 3) := by decide +kernel
theorem dX7_rewriteOf_68 : decode cX7_rewriteOf 68 = .ok (.iconst 3, 1) := by decide +kernel
theorem dX7_rewriteOf_69 : decode cX7_rewriteOf 69 = .ok (.idiv, 1) := by decide +kernel
theorem dX7_rewriteOf_70 : decode cX7_rewriteOf 70 = .ok (.ireturn, 1) := by decide +kernel
theorem dX7_rewriteOf_71 : decode cX7_rewriteOf 71 = .ok (.aload_n 3, 1) := by decide +kernel
theorem dX7_rewriteOf_72 : decode cX7_rewriteOf 72 = .ok (.getfield 156, 3) := by decide +kernel
theorem dX7_rewriteOf_75 : decode cX7_rewriteOf 75 = .ok (.iconst 3, 1) := by decide +kernel
theorem dX7_rewriteOf_76 : decode cX7_rewriteOf 76 = .ok (.irem, 1) := by decide +kernel
theorem dX7_rewriteOf_77 : decode cX7_rewriteOf 77 = .ok (.ireturn, 1) := by decide +kernel
theorem dX7_rewriteOf_78 : decode cX7_rewriteOf 78 = .ok (.aload_n 3, 1) := by decide +kernel
theorem dX7_rewriteOf_79 : decode cX7_rewriteOf 79 = .ok (.getfield 148, 3) := by decide +kernel
theorem dX7_rewriteOf_82 : decode cX7_rewriteOf 82 = .ok (.ireturn, 1) := by decide +kernel
theorem dX7_rewriteOf_83 : decode cX7_rewriteOf 83 = .ok (.aload_n 3, 1) := by decide +kernel
theorem dX7_rewriteOf_84 : decode cX7_rewriteOf 84 = .ok (.getfield 198, 3) := by decide +kernel
theorem dX7_rewriteOf_87 : decode cX7_rewriteOf 87 = .ok (.getfield 115, 3) := by decide +kernel
theorem dX7_rewriteOf_90 : decode cX7_rewriteOf 90 = .ok (.ireturn, 1) := by decide +kernel
theorem dX7_rewriteOf_91 : decode cX7_rewriteOf 91 = .ok (.aload_n 3, 1) := by decide +kernel
theorem dX7_rewriteOf_92 : decode cX7_rewriteOf 92 = .ok (.invokevirtual 166, 3) := by decide +kernel
theorem dX7_rewriteOf_95 : decode cX7_rewriteOf 95 = .ok (.ireturn, 1) := by decide +kernel
theorem dX7_rewriteOf_96 : decode cX7_rewriteOf 96 = .ok (.aload_n 3, 1) := by decide +kernel
theorem dX7_rewriteOf_97 : decode cX7_rewriteOf 97 = .ok (.getfield 199, 3) := by decide +kernel
theorem dX7_rewriteOf_100 : decode cX7_rewriteOf 100 = .ok (.ireturn, 1) := by decide +kernel
theorem dX7_rewriteOf_101 : decode cX7_rewriteOf 101 = .ok (.aload_n 3, 1) := by decide +kernel
theorem dX7_rewriteOf_102 : decode cX7_rewriteOf 102 = .ok (.getfield 198, 3) := by decide +kernel
theorem dX7_rewriteOf_105 : decode cX7_rewriteOf 105 = .ok (.aload_n 0, 1) := by decide +kernel
theorem dX7_rewriteOf_106 : decode cX7_rewriteOf 106 = .ok (.getfield 26, 3) := by decide +kernel
theorem dX7_rewriteOf_109 : decode cX7_rewriteOf 109 = .ok (.getfield 91, 3) := by decide +kernel
theorem dX7_rewriteOf_112 : decode cX7_rewriteOf 112 = .ok (.aload_n 3, 1) := by decide +kernel
theorem dX7_rewriteOf_113 : decode cX7_rewriteOf 113 = .ok (.getfield 156, 3) := by decide +kernel
theorem dX7_rewriteOf_116 : decode cX7_rewriteOf 116 = .ok (.aaload, 1) := by decide +kernel
theorem dX7_rewriteOf_117 : decode cX7_rewriteOf 117 = .ok (.getfield 98, 3) := by decide +kernel
theorem dX7_rewriteOf_120 : decode cX7_rewriteOf 120 = .ok (.aload_n 0, 1) := by decide +kernel
theorem dX7_rewriteOf_121 : decode cX7_rewriteOf 121 = .ok (.getfield 44, 3) := by decide +kernel
theorem dX7_rewriteOf_124 : decode cX7_rewriteOf 124 = .ok (.invokevirtual 202, 3) := by decide +kernel
theorem dX7_rewriteOf_127 : decode cX7_rewriteOf 127 = .ok (.ireturn, 1) := by decide +kernel
theorem dX7_rewriteOf_128 : decode cX7_rewriteOf 128 = .ok (.aload_n 0, 1) := by decide +kernel
theorem dX7_rewriteOf_129 : decode cX7_rewriteOf 129 = .ok (.getfield 26, 3) := by decide +kernel
theorem dX7_rewriteOf_132 : decode cX7_rewriteOf 132 = .ok (.aload_n 3, 1) := by decide +kernel
theorem dX7_rewriteOf_133 : decode cX7_rewriteOf 133 = .ok (.getfield 156, 3) := by decide +kernel
theorem dX7_rewriteOf_136 : decode cX7_rewriteOf 136 = .ok (.invokevirtual 206, 3) := by decide +kernel
theorem dX7_rewriteOf_139 : decode cX7_rewriteOf 139 = .ok (.aload_n 3, 1) := by decide +kernel
theorem dX7_rewriteOf_140 : decode cX7_rewriteOf 140 = .ok (.if_acmp .ne 7, 3) := by decide +kernel
theorem dX7_rewriteOf_143 : decode cX7_rewriteOf 143 = .ok (.iconst 1, 1) := by decide +kernel
theorem dX7_rewriteOf_144 : decode cX7_rewriteOf 144 = .ok (.goto 4, 3) := by decide +kernel
theorem dX7_rewriteOf_147 : decode cX7_rewriteOf 147 = .ok (.iconst 0, 1) := by decide +kernel
theorem dX7_rewriteOf_148 : decode cX7_rewriteOf 148 = .ok (.ireturn, 1) := by decide +kernel
theorem dX7_rewriteOf_149 : decode cX7_rewriteOf 149 = .ok (.bipush (-2), 2) := by decide +kernel
theorem dX7_rewriteOf_151 : decode cX7_rewriteOf 151 = .ok (.ireturn, 1) := by decide +kernel
theorem dX7_ranked_0 : decode cX7_ranked 0 = .ok (.iload_n 1, 1) := by decide +kernel
theorem dX7_ranked_1 : decode cX7_ranked 1 = .ok (.invokestatic 79, 3) := by decide +kernel
theorem dX7_ranked_4 : decode cX7_ranked 4 = .ok (.ifCond .eq 10, 3) := by decide +kernel
theorem dX7_ranked_7 : decode cX7_ranked 7 = .ok (.iload_n 2, 1) := by decide +kernel
theorem dX7_ranked_8 : decode cX7_ranked 8 = .ok (.invokestatic 63, 3) := by decide +kernel
theorem dX7_ranked_11 : decode cX7_ranked 11 = .ok (.ifCond .ne 5, 3) := by decide +kernel
theorem dX7_ranked_14 : decode cX7_ranked 14 = .ok (.iconst (-1), 1) := by decide +kernel
theorem dX7_ranked_15 : decode cX7_ranked 15 = .ok (.ireturn, 1) := by decide +kernel
theorem dX7_ranked_16 : decode cX7_ranked 16 = .ok (.iload_n 3, 1) := by decide +kernel
theorem dX7_ranked_17 : decode cX7_ranked 17 = .ok (.ifCond .ge 6, 3) := by decide +kernel
theorem dX7_ranked_20 : decode cX7_ranked 20 = .ok (.bipush (-2), 2) := by decide +kernel
theorem dX7_ranked_22 : decode cX7_ranked 22 = .ok (.ireturn, 1) := by decide +kernel
theorem dX7_ranked_23 : decode cX7_ranked 23 = .ok (.aload_n 0, 1) := by decide +kernel
theorem dX7_ranked_24 : decode cX7_ranked 24 = .ok (.getfield 26, 3) := by decide +kernel
theorem dX7_ranked_27 : decode cX7_ranked 27 = .ok (.getfield 131, 3) := by decide +kernel
theorem dX7_ranked_30 : decode cX7_ranked 30 = .ok (.iload_n 1, 1) := by decide +kernel
theorem dX7_ranked_31 : decode cX7_ranked 31 = .ok (.iload_n 2, 1) := by decide +kernel
theorem dX7_ranked_32 : decode cX7_ranked 32 = .ok (.invokestatic 95, 3) := by decide +kernel
theorem dX7_ranked_35 : decode cX7_ranked 35 = .ok (.iload_n 3, 1) := by decide +kernel
theorem dX7_ranked_36 : decode cX7_ranked 36 = .ok (.invokevirtual 209, 3) := by decide +kernel
theorem dX7_ranked_39 : decode cX7_ranked 39 = .ok (.astore 4, 2) := by decide +kernel
theorem dX7_ranked_41 : decode cX7_ranked 41 = .ok (.aload 4, 2) := by decide +kernel
theorem dX7_ranked_43 : decode cX7_ranked 43 = .ok (.ifnonnull 8, 3) := by decide +kernel
theorem dX7_ranked_46 : decode cX7_ranked 46 = .ok (.bipush (-5), 2) := by decide +kernel
theorem dX7_ranked_48 : decode cX7_ranked 48 = .ok (.goto 8, 3) := by decide +kernel
theorem dX7_ranked_51 : decode cX7_ranked 51 = .ok (.aload 4, 2) := by decide +kernel
theorem dX7_ranked_53 : decode cX7_ranked 53 = .ok (.getfield 213, 3) := by decide +kernel
theorem dX7_ranked_56 : decode cX7_ranked 56 = .ok (.ireturn, 1) := by decide +kernel
theorem dX7_room_0 : decode cX7_room 0 = .ok (.iload_n 1, 1) := by decide +kernel
theorem dX7_room_1 : decode cX7_room 1 = .ok (.invokestatic 48, 3) := by decide +kernel
theorem dX7_room_4 : decode cX7_room 4 = .ok (.ifCond .ne 5, 3) := by decide +kernel
theorem dX7_room_7 : decode cX7_room 7 = .ok (.iconst (-1), 1) := by decide +kernel
theorem dX7_room_8 : decode cX7_room 8 = .ok (.ireturn, 1) := by decide +kernel
theorem dX7_room_9 : decode cX7_room 9 = .ok (.iload_n 2, 1) := by decide +kernel
theorem dX7_room_10 : decode cX7_room 10 = .ok (.tableswitch 109 0 6 #[42, 52, 61, 71, 81, 90, 100], 42) := by decide +kernel
theorem dX7_room_52 : decode cX7_room 52 = .ok (.aload_n 0, 1) := by decide +kernel
theorem dX7_room_53 : decode cX7_room 53 = .ok (.getfield 26, 3) := by decide +kernel
theorem dX7_room_56 : decode cX7_room 56 = .ok (.getfield 52, 3) := by decide +kernel
theorem dX7_room_59 : decode cX7_room 59 = .ok (.iload_n 1, 1) := by decide +kernel
theorem dX7_room_60 : decode cX7_room 60 = .ok (.iaload, 1) := by decide +kernel
theorem dX7_room_61 : decode cX7_room 61 = .ok (.ireturn, 1) := by decide +kernel
theorem dX7_room_62 : decode cX7_room 62 = .ok (.aload_n 0, 1) := by decide +kernel
theorem dX7_room_63 : decode cX7_room 63 = .ok (.getfield 26, 3) := by decide +kernel
theorem dX7_room_66 : decode cX7_room 66 = .ok (.iload_n 1, 1) := by decide +kernel
theorem dX7_room_67 : decode cX7_room 67 = .ok (.invokevirtual 216, 3) := by decide +kernel
theorem dX7_room_70 : decode cX7_room 70 = .ok (.ireturn, 1) := by decide +kernel
theorem dX7_room_71 : decode cX7_room 71 = .ok (.aload_n 0, 1) := by decide +kernel
theorem dX7_room_72 : decode cX7_room 72 = .ok (.getfield 26, 3) := by decide +kernel
theorem dX7_room_75 : decode cX7_room 75 = .ok (.getfield 70, 3) := by decide +kernel
theorem dX7_room_78 : decode cX7_room 78 = .ok (.iload_n 1, 1) := by decide +kernel
theorem dX7_room_79 : decode cX7_room 79 = .ok (.iaload, 1) := by decide +kernel
theorem dX7_room_80 : decode cX7_room 80 = .ok (.ireturn, 1) := by decide +kernel
theorem dX7_room_81 : decode cX7_room 81 = .ok (.aload_n 0, 1) := by decide +kernel
theorem dX7_room_82 : decode cX7_room 82 = .ok (.getfield 26, 3) := by decide +kernel
theorem dX7_room_85 : decode cX7_room 85 = .ok (.iload_n 1, 1) := by decide +kernel
theorem dX7_room_86 : decode cX7_room 86 = .ok (.iconst 1, 1) := by decide +kernel
theorem dX7_room_87 : decode cX7_room 87 = .ok (.invokevirtual 219, 3) := by decide +kernel
theorem dX7_room_90 : decode cX7_room 90 = .ok (.ireturn, 1) := by decide +kernel
theorem dX7_room_91 : decode cX7_room 91 = .ok (.aload_n 0, 1) := by decide +kernel
theorem dX7_room_92 : decode cX7_room 92 = .ok (.getfield 26, 3) := by decide +kernel
theorem dX7_room_95 : decode cX7_room 95 = .ok (.iload_n 1, 1) := by decide +kernel
theorem dX7_room_96 : decode cX7_room 96 = .ok (.invokevirtual 223, 3) := by decide +kernel
theorem dX7_room_99 : decode cX7_room 99 = .ok (.ireturn, 1) := by decide +kernel
theorem dX7_room_100 : decode cX7_room 100 = .ok (.aload_n 0, 1) := by decide +kernel
theorem dX7_room_101 : decode cX7_room 101 = .ok (.getfield 26, 3) := by decide +kernel
theorem dX7_room_104 : decode cX7_room 104 = .ok (.iload_n 1, 1) := by decide +kernel
theorem dX7_room_105 : decode cX7_room 105 = .ok (.iconst 0, 1) := by decide +kernel
theorem dX7_room_106 : decode cX7_room 106 = .ok (.invokevirtual 219, 3) := by decide +kernel
theorem dX7_room_109 : decode cX7_room 109 = .ok (.ireturn, 1) := by decide +kernel
theorem dX7_room_110 : decode cX7_room 110 = .ok (.aload_n 0, 1) := by decide +kernel
theorem dX7_room_111 : decode cX7_room 111 = .ok (.getfield 26, 3) := by decide +kernel
theorem dX7_room_114 : decode cX7_room 114 = .ok (.iload_n 1, 1) := by decide +kernel
theorem dX7_room_115 : decode cX7_room 115 = .ok (.invokevirtual 226, 3) := by decide +kernel
theorem dX7_room_118 : decode cX7_room 118 = .ok (.ireturn, 1) := by decide +kernel
theorem dX7_room_119 : decode cX7_room 119 = .ok (.bipush (-2), 2) := by decide +kernel
theorem dX7_room_121 : decode cX7_room 121 = .ok (.ireturn, 1) := by decide +kernel
theorem dX7_visitor_0 : decode cX7_visitor 0 = .ok (.iload_n 1, 1) := by decide +kernel
theorem dX7_visitor_1 : decode cX7_visitor 1 = .ok (.invokestatic 128, 3) := by decide +kernel
theorem dX7_visitor_4 : decode cX7_visitor 4 = .ok (.ifCond .ne 5, 3) := by decide +kernel
theorem dX7_visitor_7 : decode cX7_visitor 7 = .ok (.iconst (-1), 1) := by decide +kernel
theorem dX7_visitor_8 : decode cX7_visitor 8 = .ok (.ireturn, 1) := by decide +kernel
theorem dX7_visitor_9 : decode cX7_visitor 9 = .ok (.iload_n 2, 1) := by decide +kernel
theorem dX7_visitor_10 : decode cX7_visitor 10 = .ok (.tableswitch 73 0 3 #[30, 42, 52, 64], 30) := by decide +kernel
theorem dX7_visitor_40 : decode cX7_visitor 40 = .ok (.aload_n 0, 1) := by decide +kernel
theorem dX7_visitor_41 : decode cX7_visitor 41 = .ok (.getfield 26, 3) := by decide +kernel
theorem dX7_visitor_44 : decode cX7_visitor 44 = .ok (.getfield 131, 3) := by decide +kernel
theorem dX7_visitor_47 : decode cX7_visitor 47 = .ok (.iload_n 1, 1) := by decide +kernel
theorem dX7_visitor_48 : decode cX7_visitor 48 = .ok (.invokevirtual 229, 3) := by decide +kernel
theorem dX7_visitor_51 : decode cX7_visitor 51 = .ok (.ireturn, 1) := by decide +kernel
theorem dX7_visitor_52 : decode cX7_visitor 52 = .ok (.aload_n 0, 1) := by decide +kernel
theorem dX7_visitor_53 : decode cX7_visitor 53 = .ok (.getfield 26, 3) := by decide +kernel
theorem dX7_visitor_56 : decode cX7_visitor 56 = .ok (.getfield 232, 3) := by decide +kernel
theorem dX7_visitor_59 : decode cX7_visitor 59 = .ok (.iload_n 1, 1) := by decide +kernel
theorem dX7_visitor_60 : decode cX7_visitor 60 = .ok (.iaload, 1) := by decide +kernel
theorem dX7_visitor_61 : decode cX7_visitor 61 = .ok (.ireturn, 1) := by decide +kernel
theorem dX7_visitor_62 : decode cX7_visitor 62 = .ok (.aload_n 0, 1) := by decide +kernel
theorem dX7_visitor_63 : decode cX7_visitor 63 = .ok (.getfield 26, 3) := by decide +kernel
theorem dX7_visitor_66 : decode cX7_visitor 66 = .ok (.getfield 131, 3) := by decide +kernel
theorem dX7_visitor_69 : decode cX7_visitor 69 = .ok (.iload_n 1, 1) := by decide +kernel
theorem dX7_visitor_70 : decode cX7_visitor 70 = .ok (.invokevirtual 235, 3) := by decide +kernel
theorem dX7_visitor_73 : decode cX7_visitor 73 = .ok (.ireturn, 1) := by decide +kernel
theorem dX7_visitor_74 : decode cX7_visitor 74 = .ok (.aload_n 0, 1) := by decide +kernel
theorem dX7_visitor_75 : decode cX7_visitor 75 = .ok (.getfield 26, 3) := by decide +kernel
theorem dX7_visitor_78 : decode cX7_visitor 78 = .ok (.iload_n 1, 1) := by decide +kernel
theorem dX7_visitor_79 : decode cX7_visitor 79 = .ok (.invokevirtual 238, 3) := by decide +kernel
theorem dX7_visitor_82 : decode cX7_visitor 82 = .ok (.ireturn, 1) := by decide +kernel
theorem dX7_visitor_83 : decode cX7_visitor 83 = .ok (.bipush (-2), 2) := by decide +kernel
theorem dX7_visitor_85 : decode cX7_visitor 85 = .ok (.ireturn, 1) := by decide +kernel
theorem dX7_labelsWith_0 : decode cX7_labelsWith 0 = .ok (.iload_n 1, 1) := by decide +kernel
theorem dX7_labelsWith_1 : decode cX7_labelsWith 1 = .ok (.invokestatic 63, 3) := by decide +kernel
theorem dX7_labelsWith_4 : decode cX7_labelsWith 4 = .ok (.ifCond .ne 5, 3) := by decide +kernel
theorem dX7_labelsWith_7 : decode cX7_labelsWith 7 = .ok (.iconst (-1), 1) := by decide +kernel
theorem dX7_labelsWith_8 : decode cX7_labelsWith 8 = .ok (.ireturn, 1) := by decide +kernel
theorem dX7_labelsWith_9 : decode cX7_labelsWith 9 = .ok (.aload_n 0, 1) := by decide +kernel
theorem dX7_labelsWith_10 : decode cX7_labelsWith 10 = .ok (.invokevirtual 241, 3) := by decide +kernel
theorem dX7_labelsWith_13 : decode cX7_labelsWith 13 = .ok (.istore_n 2, 1) := by decide +kernel
theorem dX7_labelsWith_14 : decode cX7_labelsWith 14 = .ok (.iload_n 2, 1) := by decide +kernel
theorem dX7_labelsWith_15 : decode cX7_labelsWith 15 = .ok (.ifCond .ne 18, 3) := by decide +kernel
theorem dX7_labelsWith_18 : decode cX7_labelsWith 18 = .ok (.aload_n 0, 1) := by decide +kernel
theorem dX7_labelsWith_19 : decode cX7_labelsWith 19 = .ok (.getfield 26, 3) := by decide +kernel
theorem dX7_labelsWith_22 : decode cX7_labelsWith 22 = .ok (.iload_n 1, 1) := by decide +kernel
theorem dX7_labelsWith_23 : decode cX7_labelsWith 23 = .ok (.aload_n 0, 1) := by decide +kernel
theorem dX7_labelsWith_24 : decode cX7_labelsWith 24 = .ok (.getfield 19, 3) := by decide +kernel
theorem dX7_labelsWith_27 : decode cX7_labelsWith 27 = .ok (.invokevirtual 244, 3) := by decide +kernel
theorem dX7_labelsWith_30 : decode cX7_labelsWith 30 = .ok (.goto 4, 3) := by decide +kernel
theorem dX7_labelsWith_33 : decode cX7_labelsWith 33 = .ok (.iload_n 2, 1) := by decide +kernel
theorem dX7_labelsWith_34 : decode cX7_labelsWith 34 = .ok (.ireturn, 1) := by decide +kernel
theorem dX7_count_0 : decode cX7_count 0 = .ok (.iload_n 1, 1) := by decide +kernel
theorem dX7_count_1 : decode cX7_count 1 = .ok (.tableswitch 168 0 11 #[63, 71, 82, 93, 104, 112, 120, 128, 136, 144, 152, 160], 63) := by decide +kernel
theorem dX7_count_64 : decode cX7_count 64 = .ok (.aload_n 0, 1) := by decide +kernel
theorem dX7_count_65 : decode cX7_count 65 = .ok (.getfield 26, 3) := by decide +kernel
theorem dX7_count_68 : decode cX7_count 68 = .ok (.invokevirtual 187, 3) := by decide +kernel
theorem dX7_count_71 : decode cX7_count 71 = .ok (.ireturn, 1) := by decide +kernel
theorem dX7_count_72 : decode cX7_count 72 = .ok (.aload_n 0, 1) := by decide +kernel
theorem dX7_count_73 : decode cX7_count 73 = .ok (.getfield 26, 3) := by decide +kernel
theorem dX7_count_76 : decode cX7_count 76 = .ok (.getfield 131, 3) := by decide +kernel
theorem dX7_count_79 : decode cX7_count 79 = .ok (.getfield 248, 3) := by decide +kernel
theorem dX7_count_82 : decode cX7_count 82 = .ok (.ireturn, 1) := by decide +kernel
theorem dX7_count_83 : decode cX7_count 83 = .ok (.aload_n 0, 1) := by decide +kernel
theorem dX7_count_84 : decode cX7_count 84 = .ok (.getfield 26, 3) := by decide +kernel
theorem dX7_count_87 : decode cX7_count 87 = .ok (.getfield 131, 3) := by decide +kernel
theorem dX7_count_90 : decode cX7_count 90 = .ok (.getfield 249, 3) := by decide +kernel
theorem dX7_count_93 : decode cX7_count 93 = .ok (.ireturn, 1) := by decide +kernel
theorem dX7_count_94 : decode cX7_count 94 = .ok (.aload_n 0, 1) := by decide +kernel
theorem dX7_count_95 : decode cX7_count 95 = .ok (.getfield 26, 3) := by decide +kernel
theorem dX7_count_98 : decode cX7_count 98 = .ok (.getfield 131, 3) := by decide +kernel
theorem dX7_count_101 : decode cX7_count 101 = .ok (.invokevirtual 252, 3) := by decide +kernel
theorem dX7_count_104 : decode cX7_count 104 = .ok (.ireturn, 1) := by decide +kernel
theorem dX7_count_105 : decode cX7_count 105 = .ok (.aload_n 0, 1) := by decide +kernel
theorem dX7_count_106 : decode cX7_count 106 = .ok (.getfield 26, 3) := by decide +kernel
theorem dX7_count_109 : decode cX7_count 109 = .ok (.getfield 107, 3) := by decide +kernel
theorem dX7_count_112 : decode cX7_count 112 = .ok (.ireturn, 1) := by decide +kernel
theorem dX7_count_113 : decode cX7_count 113 = .ok (.aload_n 0, 1) := by decide +kernel
theorem dX7_count_114 : decode cX7_count 114 = .ok (.getfield 26, 3) := by decide +kernel
theorem dX7_count_117 : decode cX7_count 117 = .ok (.getfield 125, 3) := by decide +kernel
theorem dX7_count_120 : decode cX7_count 120 = .ok (.ireturn, 1) := by decide +kernel
theorem dX7_count_121 : decode cX7_count 121 = .ok (.aload_n 0, 1) := by decide +kernel
theorem dX7_count_122 : decode cX7_count 122 = .ok (.getfield 26, 3) := by decide +kernel
theorem dX7_count_125 : decode cX7_count 125 = .ok (.invokevirtual 255, 3) := by decide +kernel
theorem dX7_count_128 : decode cX7_count 128 = .ok (.ireturn, 1) := by decide +kernel
theorem dX7_count_129 : decode cX7_count 129 = .ok (.aload_n 0, 1) := by decide +kernel
theorem dX7_count_130 : decode cX7_count 130 = .ok (.getfield 26, 3) := by decide +kernel
theorem dX7_count_133 : decode cX7_count 133 = .ok (.getfield 258, 3) := by decide +kernel
theorem dX7_count_136 : decode cX7_count 136 = .ok (.ireturn, 1) := by decide +kernel
theorem dX7_count_137 : decode cX7_count 137 = .ok (.aload_n 0, 1) := by decide +kernel
theorem dX7_count_138 : decode cX7_count 138 = .ok (.getfield 26, 3) := by decide +kernel
theorem dX7_count_141 : decode cX7_count 141 = .ok (.getfield 261, 3) := by decide +kernel
theorem dX7_count_144 : decode cX7_count 144 = .ok (.ireturn, 1) := by decide +kernel
theorem dX7_count_145 : decode cX7_count 145 = .ok (.aload_n 0, 1) := by decide +kernel
theorem dX7_count_146 : decode cX7_count 146 = .ok (.getfield 26, 3) := by decide +kernel
theorem dX7_count_149 : decode cX7_count 149 = .ok (.getfield 264, 3) := by decide +kernel
theorem dX7_count_152 : decode cX7_count 152 = .ok (.ireturn, 1) := by decide +kernel
theorem dX7_count_153 : decode cX7_count 153 = .ok (.aload_n 0, 1) := by decide +kernel
theorem dX7_count_154 : decode cX7_count 154 = .ok (.getfield 33, 3) := by decide +kernel
theorem dX7_count_157 : decode cX7_count 157 = .ok (.getfield 180, 3) := by decide +kernel
theorem dX7_count_160 : decode cX7_count 160 = .ok (.ireturn, 1) := by decide +kernel
theorem dX7_count_161 : decode cX7_count 161 = .ok (.aload_n 0, 1) := by decide +kernel
theorem dX7_count_162 : decode cX7_count 162 = .ok (.getfield 12, 3) := by decide +kernel
theorem dX7_count_165 : decode cX7_count 165 = .ok (.getfield 177, 3) := by decide +kernel
theorem dX7_count_168 : decode cX7_count 168 = .ok (.ireturn, 1) := by decide +kernel
theorem dX7_count_169 : decode cX7_count 169 = .ok (.bipush (-2), 2) := by decide +kernel
theorem dX7_count_171 : decode cX7_count 171 = .ok (.ireturn, 1) := by decide +kernel
theorem dX7_isWork_0 : decode cX7_isWork 0 = .ok (.iload_n 0, 1) := by decide +kernel
theorem dX7_isWork_1 : decode cX7_isWork 1 = .ok (.ifCond .lt 13, 3) := by decide +kernel
theorem dX7_isWork_4 : decode cX7_isWork 4 = .ok (.iload_n 0, 1) := by decide +kernel
theorem dX7_isWork_5 : decode cX7_isWork 5 = .ok (.bipush 8, 2) := by decide +kernel
theorem dX7_isWork_7 : decode cX7_isWork 7 = .ok (.if_icmp .ge 7, 3) := by decide +kernel
theorem dX7_isWork_10 : decode cX7_isWork 10 = .ok (.iconst 1, 1) := by decide +kernel
theorem dX7_isWork_11 : decode cX7_isWork 11 = .ok (.goto 4, 3) := by decide +kernel
theorem dX7_isWork_14 : decode cX7_isWork 14 = .ok (.iconst 0, 1) := by decide +kernel
theorem dX7_isWork_15 : decode cX7_isWork 15 = .ok (.ireturn, 1) := by decide +kernel
theorem dX7_isRoom_0 : decode cX7_isRoom 0 = .ok (.iload_n 0, 1) := by decide +kernel
theorem dX7_isRoom_1 : decode cX7_isRoom 1 = .ok (.ifCond .lt 12, 3) := by decide +kernel
theorem dX7_isRoom_4 : decode cX7_isRoom 4 = .ok (.iload_n 0, 1) := by decide +kernel
theorem dX7_isRoom_5 : decode cX7_isRoom 5 = .ok (.iconst 4, 1) := by decide +kernel
theorem dX7_isRoom_6 : decode cX7_isRoom 6 = .ok (.if_icmp .ge 7, 3) := by decide +kernel
theorem dX7_isRoom_9 : decode cX7_isRoom 9 = .ok (.iconst 1, 1) := by decide +kernel
theorem dX7_isRoom_10 : decode cX7_isRoom 10 = .ok (.goto 4, 3) := by decide +kernel
theorem dX7_isRoom_13 : decode cX7_isRoom 13 = .ok (.iconst 0, 1) := by decide +kernel
theorem dX7_isRoom_14 : decode cX7_isRoom 14 = .ok (.ireturn, 1) := by decide +kernel
theorem dX7_isTongue_0 : decode cX7_isTongue 0 = .ok (.iload_n 0, 1) := by decide +kernel
theorem dX7_isTongue_1 : decode cX7_isTongue 1 = .ok (.ifCond .lt 12, 3) := by decide +kernel
theorem dX7_isTongue_4 : decode cX7_isTongue 4 = .ok (.iload_n 0, 1) := by decide +kernel
theorem dX7_isTongue_5 : decode cX7_isTongue 5 = .ok (.iconst 3, 1) := by decide +kernel
theorem dX7_isTongue_6 : decode cX7_isTongue 6 = .ok (.if_icmp .ge 7, 3) := by decide +kernel
theorem dX7_isTongue_9 : decode cX7_isTongue 9 = .ok (.iconst 1, 1) := by decide +kernel
theorem dX7_isTongue_10 : decode cX7_isTongue 10 = .ok (.goto 4, 3) := by decide +kernel
theorem dX7_isTongue_13 : decode cX7_isTongue 13 = .ok (.iconst 0, 1) := by decide +kernel
theorem dX7_isTongue_14 : decode cX7_isTongue 14 = .ok (.ireturn, 1) := by decide +kernel
theorem dX7_isVisitor_0 : decode cX7_isVisitor 0 = .ok (.iload_n 0, 1) := by decide +kernel
theorem dX7_isVisitor_1 : decode cX7_isVisitor 1 = .ok (.ifCond .lt 13, 3) := by decide +kernel
theorem dX7_isVisitor_4 : decode cX7_isVisitor 4 = .ok (.iload_n 0, 1) := by decide +kernel
theorem dX7_isVisitor_5 : decode cX7_isVisitor 5 = .ok (.bipush 10, 2) := by decide +kernel
theorem dX7_isVisitor_7 : decode cX7_isVisitor 7 = .ok (.if_icmp .ge 7, 3) := by decide +kernel
theorem dX7_isVisitor_10 : decode cX7_isVisitor 10 = .ok (.iconst 1, 1) := by decide +kernel
theorem dX7_isVisitor_11 : decode cX7_isVisitor 11 = .ok (.goto 4, 3) := by decide +kernel
theorem dX7_isVisitor_14 : decode cX7_isVisitor 14 = .ok (.iconst 0, 1) := by decide +kernel
theorem dX7_isVisitor_15 : decode cX7_isVisitor 15 = .ok (.ireturn, 1) := by decide +kernel
theorem dX7_placeOf_0 : decode cX7_placeOf 0 = .ok (.iload_n 0, 1) := by decide +kernel
theorem dX7_placeOf_1 : decode cX7_placeOf 1 = .ok (.iconst 3, 1) := by decide +kernel
theorem dX7_placeOf_2 : decode cX7_placeOf 2 = .ok (.imul, 1) := by decide +kernel
theorem dX7_placeOf_3 : decode cX7_placeOf 3 = .ok (.iload_n 1, 1) := by decide +kernel
theorem dX7_placeOf_4 : decode cX7_placeOf 4 = .ok (.iadd, 1) := by decide +kernel
theorem dX7_placeOf_5 : decode cX7_placeOf 5 = .ok (.ireturn, 1) := by decide +kernel
theorem dX7_readText_0 : decode cX7_readText 0 = .ok (.aload_n 0, 1) := by decide +kernel
theorem dX7_readText_1 : decode cX7_readText 1 = .ok (.getfield 12, 3) := by decide +kernel
theorem dX7_readText_4 : decode cX7_readText 4 = .ok (.invokevirtual 267, 3) := by decide +kernel
theorem dX7_readText_7 : decode cX7_readText 7 = .ok (.istore_n 1, 1) := by decide +kernel
theorem dX7_readText_8 : decode cX7_readText 8 = .ok (.iload_n 1, 1) := by decide +kernel
theorem dX7_readText_9 : decode cX7_readText 9 = .ok (.iconst (-1), 1) := by decide +kernel
theorem dX7_readText_10 : decode cX7_readText 10 = .ok (.if_icmp .eq 8, 3) := by decide +kernel
theorem dX7_readText_13 : decode cX7_readText 13 = .ok (.bipush (-100), 2) := by decide +kernel
theorem dX7_readText_15 : decode cX7_readText 15 = .ok (.iload_n 1, 1) := by decide +kernel
theorem dX7_readText_16 : decode cX7_readText 16 = .ok (.isub, 1) := by decide +kernel
theorem dX7_readText_17 : decode cX7_readText 17 = .ok (.ireturn, 1) := by decide +kernel
theorem dX7_readText_18 : decode cX7_readText 18 = .ok (.aload_n 0, 1) := by decide +kernel
theorem dX7_readText_19 : decode cX7_readText 19 = .ok (.getfield 19, 3) := by decide +kernel
theorem dX7_readText_22 : decode cX7_readText 22 = .ok (.aload_n 0, 1) := by decide +kernel
theorem dX7_readText_23 : decode cX7_readText 23 = .ok (.getfield 12, 3) := by decide +kernel
theorem dX7_readText_26 : decode cX7_readText 26 = .ok (.invokevirtual 270, 3) := by decide +kernel
theorem dX7_readText_29 : decode cX7_readText 29 = .ok (.iconst 0, 1) := by decide +kernel
theorem dX7_readText_30 : decode cX7_readText 30 = .ok (.ireturn, 1) := by decide +kernel
theorem dX7_readTextFor_0 : decode cX7_readTextFor 0 = .ok (.aload_n 0, 1) := by decide +kernel
theorem dX7_readTextFor_1 : decode cX7_readTextFor 1 = .ok (.invokevirtual 241, 3) := by decide +kernel
theorem dX7_readTextFor_4 : decode cX7_readTextFor 4 = .ok (.istore_n 2, 1) := by decide +kernel
theorem dX7_readTextFor_5 : decode cX7_readTextFor 5 = .ok (.iload_n 2, 1) := by decide +kernel
theorem dX7_readTextFor_6 : decode cX7_readTextFor 6 = .ok (.ifCond .eq 5, 3) := by decide +kernel
theorem dX7_readTextFor_9 : decode cX7_readTextFor 9 = .ok (.iload_n 2, 1) := by decide +kernel
theorem dX7_readTextFor_10 : decode cX7_readTextFor 10 = .ok (.ireturn, 1) := by decide +kernel
theorem dX7_readTextFor_11 : decode cX7_readTextFor 11 = .ok (.aload_n 0, 1) := by decide +kernel
theorem dX7_readTextFor_12 : decode cX7_readTextFor 12 = .ok (.getfield 19, 3) := by decide +kernel
theorem dX7_readTextFor_15 : decode cX7_readTextFor 15 = .ok (.getfield 115, 3) := by decide +kernel
theorem dX7_readTextFor_18 : decode cX7_readTextFor 18 = .ok (.aload_n 0, 1) := by decide +kernel
theorem dX7_readTextFor_19 : decode cX7_readTextFor 19 = .ok (.getfield 26, 3) := by decide +kernel
theorem dX7_readTextFor_22 : decode cX7_readTextFor 22 = .ok (.iload_n 1, 1) := by decide +kernel
theorem dX7_readTextFor_23 : decode cX7_readTextFor 23 = .ok (.invokevirtual 274, 3) := by decide +kernel
theorem dX7_readTextFor_26 : decode cX7_readTextFor 26 = .ok (.if_icmp .le 8, 3) := by decide +kernel
theorem dX7_readTextFor_29 : decode cX7_readTextFor 29 = .ok (.bipush (-6), 2) := by decide +kernel
theorem dX7_readTextFor_31 : decode cX7_readTextFor 31 = .ok (.goto 4, 3) := by decide +kernel
theorem dX7_readTextFor_34 : decode cX7_readTextFor 34 = .ok (.iconst 0, 1) := by decide +kernel
theorem dX7_readTextFor_35 : decode cX7_readTextFor 35 = .ok (.ireturn, 1) := by decide +kernel
