theorem dX5_init_0 : decode cX5_init 0 = .ok (.aload_n 0, 1) := by decide +kernel
theorem dX5_init_1 : decode cX5_init 1 = .ok (.invokespecial 3, 3) := by decide +kernel
theorem dX5_init_4 : decode cX5_init 4 = .ok (.aload_n 0, 1) := by decide +kernel
theorem dX5_init_5 : decode cX5_init 5 = .ok (.bipush 60, 2) := by decide +kernel
theorem dX5_init_7 : decode cX5_init 7 = .ok (.newarray .char, 2) := by decide +kernel
theorem dX5_init_9 : decode cX5_init 9 = .ok (.putfield 9, 3) := by decide +kernel
theorem dX5_init_12 : decode cX5_init 12 = .ok (.return_, 1) := by decide +kernel
theorem dX5_add_0 : decode cX5_add 0 = .ok (.aload_n 0, 1) := by decide +kernel
theorem dX5_add_1 : decode cX5_add 1 = .ok (.getfield 15, 3) := by decide +kernel
theorem dX5_add_4 : decode cX5_add 4 = .ok (.bipush 60, 2) := by decide +kernel
theorem dX5_add_6 : decode cX5_add 6 = .ok (.if_icmp .lt 5, 3) := by decide +kernel
theorem dX5_add_9 : decode cX5_add 9 = .ok (.iconst 0, 1) := by decide +kernel
theorem dX5_add_10 : decode cX5_add 10 = .ok (.ireturn, 1) := by decide +kernel
theorem dX5_add_11 : decode cX5_add 11 = .ok (.aload_n 0, 1) := by decide +kernel
theorem dX5_add_12 : decode cX5_add 12 = .ok (.getfield 9, 3) := by decide +kernel
theorem dX5_add_15 : decode cX5_add 15 = .ok (.aload_n 0, 1) := by decide +kernel
theorem dX5_add_16 : decode cX5_add 16 = .ok (.getfield 15, 3) := by decide +kernel
theorem dX5_add_19 : decode cX5_add 19 = .ok (.iload_n 1, 1) := by decide +kernel
theorem dX5_add_20 : decode cX5_add 20 = .ok (.castore, 1) := by decide +kernel
theorem dX5_add_21 : decode cX5_add 21 = .ok (.aload_n 0, 1) := by decide +kernel
theorem dX5_add_22 : decode cX5_add 22 = .ok (.dup, 1) := by decide +kernel
theorem dX5_add_23 : decode cX5_add 23 = .ok (.getfield 15, 3) := by decide +kernel
theorem dX5_add_26 : decode cX5_add 26 = .ok (.iconst 1, 1) := by decide +kernel
theorem dX5_add_27 : decode cX5_add 27 = .ok (.iadd, 1) := by decide +kernel
theorem dX5_add_28 : decode cX5_add 28 = .ok (.putfield 15, 3) := by decide +kernel
theorem dX5_add_31 : decode cX5_add 31 = .ok (.iconst 1, 1) := by decide +kernel
theorem dX5_add_32 : decode cX5_add 32 = .ok (.ireturn, 1) := by decide +kernel
theorem dX5_fault_0 : decode cX5_fault 0 = .ok (.iconst 0, 1) := by decide +kernel
theorem dX5_fault_1 : decode cX5_fault 1 = .ok (.istore_n 1, 1) := by decide +kernel
theorem dX5_fault_2 : decode cX5_fault 2 = .ok (.iconst 0, 1) := by decide +kernel
theorem dX5_fault_3 : decode cX5_fault 3 = .ok (.istore_n 2, 1) := by decide +kernel
theorem dX5_fault_4 : decode cX5_fault 4 = .ok (.iload_n 2, 1) := by decide +kernel
theorem dX5_fault_5 : decode cX5_fault 5 = .ok (.aload_n 0, 1) := by decide +kernel
theorem dX5_fault_6 : decode cX5_fault 6 = .ok (.getfield 15, 3) := by decide +kernel
theorem dX5_fault_9 : decode cX5_fault 9 = .ok (.if_icmp .ge 67, 3) := by decide +kernel
theorem dX5_fault_12 : decode cX5_fault 12 = .ok (.aload_n 0, 1) := by decide +kernel
theorem dX5_fault_13 : decode cX5_fault 13 = .ok (.getfield 9, 3) := by decide +kernel
theorem dX5_fault_16 : decode cX5_fault 16 = .ok (.iload_n 2, 1) := by decide +kernel
theorem dX5_fault_17 : decode cX5_fault 17 = .ok (.caload, 1) := by decide +kernel
theorem dX5_fault_18 : decode cX5_fault 18 = .ok (.istore_n 3, 1) := by decide +kernel
theorem dX5_fault_19 : decode cX5_fault 19 = .ok (.iload_n 3, 1) := by decide +kernel
theorem dX5_fault_20 : decode cX5_fault 20 = .ok (.bipush 97, 2) := by decide +kernel
theorem dX5_fault_22 : decode cX5_fault 22 = .ok (.if_icmp .lt 13, 3) := by decide +kernel
theorem dX5_fault_25 : decode cX5_fault 25 = .ok (.iload_n 3, 1) := by decide +kernel
theorem dX5_fault_26 : decode cX5_fault 26 = .ok (.bipush 122, 2) := by decide +kernel
theorem dX5_fault_28 : decode cX5_fault 28 = .ok (.if_icmp .gt 7, 3) := by decide +kernel
theorem dX5_fault_31 : decode cX5_fault 31 = .ok (.iconst 1, 1) := by decide +kernel
theorem dX5_fault_32 : decode cX5_fault 32 = .ok (.goto 4, 3) := by decide +kernel
theorem dX5_fault_35 : decode cX5_fault 35 = .ok (.iconst 0, 1) := by decide +kernel
theorem dX5_fault_36 : decode cX5_fault 36 = .ok (.istore 4, 2) := by decide +kernel
theorem dX5_fault_38 : decode cX5_fault 38 = .ok (.iload_n 3, 1) := by decide +kernel
theorem dX5_fault_39 : decode cX5_fault 39 = .ok (.bipush 32, 2) := by decide +kernel
theorem dX5_fault_41 : decode cX5_fault 41 = .ok (.if_icmp .ne 11, 3) := by decide +kernel
theorem dX5_fault_44 : decode cX5_fault 44 = .ok (.iload_n 1, 1) := by decide +kernel
theorem dX5_fault_45 : decode cX5_fault 45 = .ok (.ifCond .eq 7, 3) := by decide +kernel
theorem dX5_fault_48 : decode cX5_fault 48 = .ok (.iconst 1, 1) := by decide +kernel
theorem dX5_fault_49 : decode cX5_fault 49 = .ok (.goto 4, 3) := by decide +kernel
theorem dX5_fault_52 : decode cX5_fault 52 = .ok (.iconst 0, 1) := by decide +kernel
theorem dX5_fault_53 : decode cX5_fault 53 = .ok (.istore 5, 2) := by decide +kernel
theorem dX5_fault_55 : decode cX5_fault 55 = .ok (.iload 4, 2) := by decide +kernel
theorem dX5_fault_57 : decode cX5_fault 57 = .ok (.ifCond .ne 10, 3) := by decide +kernel
theorem dX5_fault_60 : decode cX5_fault 60 = .ok (.iload 5, 2) := by decide +kernel
theorem dX5_fault_62 : decode cX5_fault 62 = .ok (.ifCond .ne 5, 3) := by decide +kernel
theorem dX5_fault_65 : decode cX5_fault 65 = .ok (.iload_n 2, 1) := by decide +kernel
theorem dX5_fault_66 : decode cX5_fault 66 = .ok (.ireturn, 1) := by decide +kernel
theorem dX5_fault_67 : decode cX5_fault 67 = .ok (.iload 4, 2) := by decide +kernel
theorem dX5_fault_69 : decode cX5_fault 69 = .ok (.istore_n 1, 1) := by decide +kernel
theorem dX5_fault_70 : decode cX5_fault 70 = .ok (.iinc 2 1, 3) := by decide +kernel
theorem dX5_fault_73 : decode cX5_fault 73 = .ok (.goto (-69), 3) := by decide +kernel
theorem dX5_fault_76 : decode cX5_fault 76 = .ok (.iload_n 1, 1) := by decide +kernel
theorem dX5_fault_77 : decode cX5_fault 77 = .ok (.ifCond .eq 7, 3) := by decide +kernel
theorem dX5_fault_80 : decode cX5_fault 80 = .ok (.iconst (-1), 1) := by decide +kernel
theorem dX5_fault_81 : decode cX5_fault 81 = .ok (.goto 7, 3) := by decide +kernel
theorem dX5_fault_84 : decode cX5_fault 84 = .ok (.aload_n 0, 1) := by decide +kernel
theorem dX5_fault_85 : decode cX5_fault 85 = .ok (.getfield 15, 3) := by decide +kernel
theorem dX5_fault_88 : decode cX5_fault 88 = .ok (.ireturn, 1) := by decide +kernel
theorem dX6_init_0 : decode cX6_init 0 = .ok (.aload_n 0, 1) := by decide +kernel
theorem dX6_init_1 : decode cX6_init 1 = .ok (.invokespecial 3, 3) := by decide +kernel
theorem dX6_init_4 : decode cX6_init 4 = .ok (.aload_n 0, 1) := by decide +kernel
theorem dX6_init_5 : decode cX6_init 5 = .ok (.bipush 60, 2) := by decide +kernel
theorem dX6_init_7 : decode cX6_init 7 = .ok (.newarray .char, 2) := by decide +kernel
theorem dX6_init_9 : decode cX6_init 9 = .ok (.putfield 9, 3) := by decide +kernel
theorem dX6_init_12 : decode cX6_init 12 = .ok (.aload_n 0, 1) := by decide +kernel
theorem dX6_init_13 : decode cX6_init 13 = .ok (.bipush 31, 2) := by decide +kernel
theorem dX6_init_15 : decode cX6_init 15 = .ok (.newarray .int, 2) := by decide +kernel
theorem dX6_init_17 : decode cX6_init 17 = .ok (.putfield 15, 3) := by decide +kernel
theorem dX6_init_20 : decode cX6_init 20 = .ok (.return_, 1) := by decide +kernel
theorem dX6_empty_0 : decode cX6_empty 0 = .ok (.aload_n 0, 1) := by decide +kernel
theorem dX6_empty_1 : decode cX6_empty 1 = .ok (.iconst 0, 1) := by decide +kernel
theorem dX6_empty_2 : decode cX6_empty 2 = .ok (.putfield 19, 3) := by decide +kernel
theorem dX6_empty_5 : decode cX6_empty 5 = .ok (.aload_n 0, 1) := by decide +kernel
theorem dX6_empty_6 : decode cX6_empty 6 = .ok (.iconst 0, 1) := by decide +kernel
theorem dX6_empty_7 : decode cX6_empty 7 = .ok (.putfield 23, 3) := by decide +kernel
theorem dX6_empty_10 : decode cX6_empty 10 = .ok (.return_, 1) := by decide +kernel
theorem dX6_readFrom_0 : decode cX6_readFrom 0 = .ok (.aload_n 0, 1) := by decide +kernel
theorem dX6_readFrom_1 : decode cX6_readFrom 1 = .ok (.aload_n 1, 1) := by decide +kernel
theorem dX6_readFrom_2 : decode cX6_readFrom 2 = .ok (.getfield 26, 3) := by decide +kernel
theorem dX6_readFrom_5 : decode cX6_readFrom 5 = .ok (.putfield 19, 3) := by decide +kernel
theorem dX6_readFrom_8 : decode cX6_readFrom 8 = .ok (.aload_n 1, 1) := by decide +kernel
theorem dX6_readFrom_9 : decode cX6_readFrom 9 = .ok (.getfield 29, 3) := by decide +kernel
theorem dX6_readFrom_12 : decode cX6_readFrom 12 = .ok (.iconst 0, 1) := by decide +kernel
theorem dX6_readFrom_13 : decode cX6_readFrom 13 = .ok (.aload_n 0, 1) := by decide +kernel
theorem dX6_readFrom_14 : decode cX6_readFrom 14 = .ok (.getfield 9, 3) := by decide +kernel
theorem dX6_readFrom_17 : decode cX6_readFrom 17 = .ok (.iconst 0, 1) := by decide +kernel
theorem dX6_readFrom_18 : decode cX6_readFrom 18 = .ok (.aload_n 0, 1) := by decide +kernel
theorem dX6_readFrom_19 : decode cX6_readFrom 19 = .ok (.getfield 19, 3) := by decide +kernel
theorem dX6_readFrom_22 : decode cX6_readFrom 22 = .ok (.invokestatic 32, 3) := by decide +kernel
theorem dX6_readFrom_25 : decode cX6_readFrom 25 = .ok (.aload_n 0, 1) := by decide +kernel
theorem dX6_readFrom_26 : decode cX6_readFrom 26 = .ok (.iconst 0, 1) := by decide +kernel
theorem dX6_readFrom_27 : decode cX6_readFrom 27 = .ok (.putfield 23, 3) := by decide +kernel
theorem dX6_readFrom_30 : decode cX6_readFrom 30 = .ok (.iconst 0, 1) := by decide +kernel
theorem dX6_readFrom_31 : decode cX6_readFrom 31 = .ok (.istore_n 2, 1) := by decide +kernel
theorem dX6_readFrom_32 : decode cX6_readFrom 32 = .ok (.iload_n 2, 1) := by decide +kernel
theorem dX6_readFrom_33 : decode cX6_readFrom 33 = .ok (.aload_n 0, 1) := by decide +kernel
theorem dX6_readFrom_34 : decode cX6_readFrom 34 = .ok (.getfield 19, 3) := by decide +kernel
theorem dX6_readFrom_37 : decode cX6_readFrom 37 = .ok (.if_icmp .ge 65, 3) := by decide +kernel
theorem dX6_readFrom_40 : decode cX6_readFrom 40 = .ok (.iload_n 2, 1) := by decide +kernel
theorem dX6_readFrom_41 : decode cX6_readFrom 41 = .ok (.ifCond .eq 16, 3) := by decide +kernel
theorem dX6_readFrom_44 : decode cX6_readFrom 44 = .ok (.aload_n 0, 1) := by decide +kernel
theorem dX6_readFrom_45 : decode cX6_readFrom 45 = .ok (.getfield 9, 3) := by decide +kernel
theorem dX6_readFrom_48 : decode cX6_readFrom 48 = .ok (.iload_n 2, 1) := by decide +kernel
theorem dX6_readFrom_49 : decode cX6_readFrom 49 = .ok (.iconst 1, 1) := by decide +kernel
theorem dX6_readFrom_50 : decode cX6_readFrom 50 = .ok (.isub, 1) := by decide +kernel
theorem dX6_readFrom_51 : decode cX6_readFrom 51 = .ok (.caload, 1) := by decide +kernel
theorem dX6_readFrom_52 : decode cX6_readFrom 52 = .ok (.bipush 32, 2) := by decide +kernel
theorem dX6_readFrom_54 : decode cX6_readFrom 54 = .ok (.if_icmp .ne 7, 3) := by decide +kernel
theorem dX6_readFrom_57 : decode cX6_readFrom 57 = .ok (.iconst 1, 1) := by decide +kernel
theorem dX6_readFrom_58 : decode cX6_readFrom 58 = .ok (.goto 4, 3) := by decide +kernel
theorem dX6_readFrom_61 : decode cX6_readFrom 61 = .ok (.iconst 0, 1) := by decide +kernel
theorem dX6_readFrom_62 : decode cX6_readFrom 62 = .ok (.istore_n 3, 1) := by decide +kernel
theorem dX6_readFrom_63 : decode cX6_readFrom 63 = .ok (.iload_n 3, 1) := by decide +kernel
theorem dX6_readFrom_64 : decode cX6_readFrom 64 = .ok (.ifCond .eq 32, 3) := by decide +kernel
theorem dX6_readFrom_67 : decode cX6_readFrom 67 = .ok (.aload_n 0, 1) := by decide +kernel
theorem dX6_readFrom_68 : decode cX6_readFrom 68 = .ok (.getfield 23, 3) := by decide +kernel
theorem dX6_readFrom_71 : decode cX6_readFrom 71 = .ok (.bipush 30, 2) := by decide +kernel
theorem dX6_readFrom_73 : decode cX6_readFrom 73 = .ok (.if_icmp .ge 23, 3) := by decide +kernel
theorem dX6_readFrom_76 : decode cX6_readFrom 76 = .ok (.aload_n 0, 1) := by decide +kernel
theorem dX6_readFrom_77 : decode cX6_readFrom 77 = .ok (.getfield 15, 3) := by decide +kernel
theorem dX6_readFrom_80 : decode cX6_readFrom 80 = .ok (.aload_n 0, 1) := by decide +kernel
theorem dX6_readFrom_81 : decode cX6_readFrom 81 = .ok (.getfield 23, 3) := by decide +kernel
theorem dX6_readFrom_84 : decode cX6_readFrom 84 = .ok (.iload_n 2, 1) := by decide +kernel
theorem dX6_readFrom_85 : decode cX6_readFrom 85 = .ok (.iastore, 1) := by decide +kernel
theorem dX6_readFrom_86 : decode cX6_readFrom 86 = .ok (.aload_n 0, 1) := by decide +kernel
theorem dX6_readFrom_87 : decode cX6_readFrom 87 = .ok (.dup, 1) := by decide +kernel
theorem dX6_readFrom_88 : decode cX6_readFrom 88 = .ok (.getfield 23, 3) := by decide +kernel
theorem dX6_readFrom_91 : decode cX6_readFrom 91 = .ok (.iconst 1, 1) := by decide +kernel
theorem dX6_readFrom_92 : decode cX6_readFrom 92 = .ok (.iadd, 1) := by decide +kernel
theorem dX6_readFrom_93 : decode cX6_readFrom 93 = .ok (.putfield 23, 3) := by decide +kernel
theorem dX6_readFrom_96 : decode cX6_readFrom 96 = .ok (.iinc 2 1, 3) := by decide +kernel
theorem dX6_readFrom_99 : decode cX6_readFrom 99 = .ok (.goto (-67), 3) := by decide +kernel
theorem dX6_readFrom_102 : decode cX6_readFrom 102 = .ok (.aload_n 0, 1) := by decide +kernel
theorem dX6_readFrom_103 : decode cX6_readFrom 103 = .ok (.getfield 15, 3) := by decide +kernel
theorem dX6_readFrom_106 : decode cX6_readFrom 106 = .ok (.aload_n 0, 1) := by decide +kernel
theorem dX6_readFrom_107 : decode cX6_readFrom 107 = .ok (.getfield 23, 3) := by decide +kernel
theorem dX6_readFrom_110 : decode cX6_readFrom 110 = .ok (.aload_n 0, 1) := by decide +kernel
theorem dX6_readFrom_111 : decode cX6_readFrom 111 = .ok (.getfield 19, 3) := by decide +kernel
theorem dX6_readFrom_114 : decode cX6_readFrom 114 = .ok (.iconst 1, 1) := by decide +kernel
theorem dX6_readFrom_115 : decode cX6_readFrom 115 = .ok (.iadd, 1) := by decide +kernel
theorem dX6_readFrom_116 : decode cX6_readFrom 116 = .ok (.iastore, 1) := by decide +kernel
theorem dX6_readFrom_117 : decode cX6_readFrom 117 = .ok (.return_, 1) := by decide +kernel
theorem dX6_copyFrom_0 : decode cX6_copyFrom 0 = .ok (.aload_n 0, 1) := by decide +kernel
theorem dX6_copyFrom_1 : decode cX6_copyFrom 1 = .ok (.aload_n 1, 1) := by decide +kernel
theorem dX6_copyFrom_2 : decode cX6_copyFrom 2 = .ok (.getfield 19, 3) := by decide +kernel
theorem dX6_copyFrom_5 : decode cX6_copyFrom 5 = .ok (.putfield 19, 3) := by decide +kernel
theorem dX6_copyFrom_8 : decode cX6_copyFrom 8 = .ok (.aload_n 0, 1) := by decide +kernel
theorem dX6_copyFrom_9 : decode cX6_copyFrom 9 = .ok (.aload_n 1, 1) := by decide +kernel
theorem dX6_copyFrom_10 : decode cX6_copyFrom 10 = .ok (.getfield 23, 3) := by decide +kernel
theorem dX6_copyFrom_13 : decode cX6_copyFrom 13 = .ok (.putfield 23, 3) := by decide +kernel
theorem dX6_copyFrom_16 : decode cX6_copyFrom 16 = .ok (.aload_n 1, 1) := by decide +kernel
theorem dX6_copyFrom_17 : decode cX6_copyFrom 17 = .ok (.getfield 9, 3) := by decide +kernel
theorem dX6_copyFrom_20 : decode cX6_copyFrom 20 = .ok (.iconst 0, 1) := by decide +kernel
theorem dX6_copyFrom_21 : decode cX6_copyFrom 21 = .ok (.aload_n 0, 1) := by decide +kernel
theorem dX6_copyFrom_22 : decode cX6_copyFrom 22 = .ok (.getfield 9, 3) := by decide +kernel
theorem dX6_copyFrom_25 : decode cX6_copyFrom 25 = .ok (.iconst 0, 1) := by decide +kernel
theorem dX6_copyFrom_26 : decode cX6_copyFrom 26 = .ok (.aload_n 0, 1) := by decide +kernel
theorem dX6_copyFrom_27 : decode cX6_copyFrom 27 = .ok (.getfield 19, 3) := by decide +kernel
theorem dX6_copyFrom_30 : decode cX6_copyFrom 30 = .ok (.invokestatic 32, 3) := by decide +kernel
theorem dX6_copyFrom_33 : decode cX6_copyFrom 33 = .ok (.aload_n 1, 1) := by decide +kernel
theorem dX6_copyFrom_34 : decode cX6_copyFrom 34 = .ok (.getfield 15, 3) := by decide +kernel
theorem dX6_copyFrom_37 : decode cX6_copyFrom 37 = .ok (.iconst 0, 1) := by decide +kernel
theorem dX6_copyFrom_38 : decode cX6_copyFrom 38 = .ok (.aload_n 0, 1) := by decide +kernel
theorem dX6_copyFrom_39 : decode cX6_copyFrom 39 = .ok (.getfield 15, 3) := by decide +kernel
theorem dX6_copyFrom_42 : decode cX6_copyFrom 42 = .ok (.iconst 0, 1) := by decide +kernel
theorem dX6_copyFrom_43 : decode cX6_copyFrom 43 = .ok (.aload_n 0, 1) := by decide +kernel
theorem dX6_copyFrom_44 : decode cX6_copyFrom 44 = .ok (.getfield 23, 3) := by decide +kernel
theorem dX6_copyFrom_47 : decode cX6_copyFrom 47 = .ok (.iconst 1, 1) := by decide +kernel
theorem dX6_copyFrom_48 : decode cX6_copyFrom 48 = .ok (.iadd, 1) := by decide +kernel
theorem dX6_copyFrom_49 : decode cX6_copyFrom 49 = .ok (.invokestatic 32, 3) := by decide +kernel
theorem dX6_copyFrom_52 : decode cX6_copyFrom 52 = .ok (.return_, 1) := by decide +kernel
theorem dX6_cutTo_0 : decode cX6_cutTo 0 = .ok (.iload_n 1, 1) := by decide +kernel
theorem dX6_cutTo_1 : decode cX6_cutTo 1 = .ok (.aload_n 0, 1) := by decide +kernel
theorem dX6_cutTo_2 : decode cX6_cutTo 2 = .ok (.getfield 23, 3) := by decide +kernel
theorem dX6_cutTo_5 : decode cX6_cutTo 5 = .ok (.if_icmp .ge 20, 3) := by decide +kernel
theorem dX6_cutTo_8 : decode cX6_cutTo 8 = .ok (.aload_n 0, 1) := by decide +kernel
theorem dX6_cutTo_9 : decode cX6_cutTo 9 = .ok (.iload_n 1, 1) := by decide +kernel
theorem dX6_cutTo_10 : decode cX6_cutTo 10 = .ok (.putfield 23, 3) := by decide +kernel
theorem dX6_cutTo_13 : decode cX6_cutTo 13 = .ok (.aload_n 0, 1) := by decide +kernel
theorem dX6_cutTo_14 : decode cX6_cutTo 14 = .ok (.aload_n 0, 1) := by decide +kernel
theorem dX6_cutTo_15 : decode cX6_cutTo 15 = .ok (.getfield 15, 3) := by decide +kernel
theorem dX6_cutTo_18 : decode cX6_cutTo 18 = .ok (.iload_n 1, 1) := by decide +kernel
theorem dX6_cutTo_19 : decode cX6_cutTo 19 = .ok (.iaload, 1) := by decide +kernel
theorem dX6_cutTo_20 : decode cX6_cutTo 20 = .ok (.iconst 1, 1) := by decide +kernel
theorem dX6_cutTo_21 : decode cX6_cutTo 21 = .ok (.isub, 1) := by decide +kernel
theorem dX6_cutTo_22 : decode cX6_cutTo 22 = .ok (.putfield 19, 3) := by decide +kernel
theorem dX6_cutTo_25 : decode cX6_cutTo 25 = .ok (.return_, 1) := by decide +kernel
theorem dX6_isLike_0 : decode cX6_isLike 0 = .ok (.aload_n 0, 1) := by decide +kernel
theorem dX6_isLike_1 : decode cX6_isLike 1 = .ok (.getfield 19, 3) := by decide +kernel
theorem dX6_isLike_4 : decode cX6_isLike 4 = .ok (.aload_n 1, 1) := by decide +kernel
theorem dX6_isLike_5 : decode cX6_isLike 5 = .ok (.getfield 19, 3) := by decide +kernel
theorem dX6_isLike_8 : decode cX6_isLike 8 = .ok (.if_icmp .eq 5, 3) := by decide +kernel
theorem dX6_isLike_11 : decode cX6_isLike 11 = .ok (.iconst 0, 1) := by decide +kernel
theorem dX6_isLike_12 : decode cX6_isLike 12 = .ok (.ireturn, 1) := by decide +kernel
theorem dX6_isLike_13 : decode cX6_isLike 13 = .ok (.iconst 0, 1) := by decide +kernel
theorem dX6_isLike_14 : decode cX6_isLike 14 = .ok (.istore_n 2, 1) := by decide +kernel
theorem dX6_isLike_15 : decode cX6_isLike 15 = .ok (.iload_n 2, 1) := by decide +kernel
theorem dX6_isLike_16 : decode cX6_isLike 16 = .ok (.aload_n 0, 1) := by decide +kernel
theorem dX6_isLike_17 : decode cX6_isLike 17 = .ok (.getfield 19, 3) := by decide +kernel
theorem dX6_isLike_20 : decode cX6_isLike 20 = .ok (.if_icmp .ge 26, 3) := by decide +kernel
theorem dX6_isLike_23 : decode cX6_isLike 23 = .ok (.aload_n 0, 1) := by decide +kernel
theorem dX6_isLike_24 : decode cX6_isLike 24 = .ok (.getfield 9, 3) := by decide +kernel
theorem dX6_isLike_27 : decode cX6_isLike 27 = .ok (.iload_n 2, 1) := by decide +kernel
theorem dX6_isLike_28 : decode cX6_isLike 28 = .ok (.caload, 1) := by decide +kernel
theorem dX6_isLike_29 : decode cX6_isLike 29 = .ok (.aload_n 1, 1) := by decide +kernel
theorem dX6_isLike_30 : decode cX6_isLike 30 = .ok (.getfield 9, 3) := by decide +kernel
theorem dX6_isLike_33 : decode cX6_isLike 33 = .ok (.iload_n 2, 1) := by decide +kernel
theorem dX6_isLike_34 : decode cX6_isLike 34 = .ok (.caload, 1) := by decide +kernel
theorem dX6_isLike_35 : decode cX6_isLike 35 = .ok (.if_icmp .eq 5, 3) := by decide +kernel
theorem dX6_isLike_38 : decode cX6_isLike 38 = .ok (.iconst 0, 1) := by decide +kernel
theorem dX6_isLike_39 : decode cX6_isLike 39 = .ok (.ireturn, 1) := by decide +kernel
theorem dX6_isLike_40 : decode cX6_isLike 40 = .ok (.iinc 2 1, 3) := by decide +kernel
theorem dX6_isLike_43 : decode cX6_isLike 43 = .ok (.goto (-28), 3) := by decide +kernel
theorem dX6_isLike_46 : decode cX6_isLike 46 = .ok (.iconst 1, 1) := by decide +kernel
theorem dX6_isLike_47 : decode cX6_isLike 47 = .ok (.ireturn, 1) := by decide +kernel
theorem dX6_hasSameWord_0 : decode cX6_hasSameWord 0 = .ok (.aload_n 0, 1) := by decide +kernel
theorem dX6_hasSameWord_1 : decode cX6_hasSameWord 1 = .ok (.getfield 15, 3) := by decide +kernel
theorem dX6_hasSameWord_4 : decode cX6_hasSameWord 4 = .ok (.iload_n 1, 1) := by decide +kernel
theorem dX6_hasSameWord_5 : decode cX6_hasSameWord 5 = .ok (.iaload, 1) := by decide +kernel
theorem dX6_hasSameWord_6 : decode cX6_hasSameWord 6 = .ok (.istore 4, 2) := by decide +kernel
theorem dX6_hasSameWord_8 : decode cX6_hasSameWord 8 = .ok (.aload_n 2, 1) := by decide +kernel
theorem dX6_hasSameWord_9 : decode cX6_hasSameWord 9 = .ok (.getfield 15, 3) := by decide +kernel
theorem dX6_hasSameWord_12 : decode cX6_hasSameWord 12 = .ok (.iload_n 3, 1) := by decide +kernel
theorem dX6_hasSameWord_13 : decode cX6_hasSameWord 13 = .ok (.iaload, 1) := by decide +kernel
theorem dX6_hasSameWord_14 : decode cX6_hasSameWord 14 = .ok (.istore 5, 2) := by decide +kernel
theorem dX6_hasSameWord_16 : decode cX6_hasSameWord 16 = .ok (.aload_n 0, 1) := by decide +kernel
theorem dX6_hasSameWord_17 : decode cX6_hasSameWord 17 = .ok (.getfield 15, 3) := by decide +kernel
theorem dX6_hasSameWord_20 : decode cX6_hasSameWord 20 = .ok (.iload_n 1, 1) := by decide +kernel
theorem dX6_hasSameWord_21 : decode cX6_hasSameWord 21 = .ok (.iconst 1, 1) := by decide +kernel
theorem dX6_hasSameWord_22 : decode cX6_hasSameWord 22 = .ok (.iadd, 1) := by decide +kernel
theorem dX6_hasSameWord_23 : decode cX6_hasSameWord 23 = .ok (.iaload, 1) := by decide +kernel
theorem dX6_hasSameWord_24 : decode cX6_hasSameWord 24 = .ok (.iconst 1, 1) := by decide +kernel
theorem dX6_hasSameWord_25 : decode cX6_hasSameWord 25 = .ok (.isub, 1) := by decide +kernel
theorem dX6_hasSameWord_26 : decode cX6_hasSameWord 26 = .ok (.iload 4, 2) := by decide +kernel
theorem dX6_hasSameWord_28 : decode cX6_hasSameWord 28 = .ok (.isub, 1) := by decide +kernel
theorem dX6_hasSameWord_29 : decode cX6_hasSameWord 29 = .ok (.istore 6, 2) := by decide +kernel
theorem dX6_hasSameWord_31 : decode cX6_hasSameWord 31 = .ok (.aload_n 2, 1) := by decide +kernel
theorem dX6_hasSameWord_32 : decode cX6_hasSameWord 32 = .ok (.getfield 15, 3) := by decide +kernel
theorem dX6_hasSameWord_35 : decode cX6_hasSameWord 35 = .ok (.iload_n 3, 1) := by decide +kernel
theorem dX6_hasSameWord_36 : decode cX6_hasSameWord 36 = .ok (.iconst 1, 1) := by decide +kernel
theorem dX6_hasSameWord_37 : decode cX6_hasSameWord 37 = .ok (.iadd, 1) := by decide +kernel
theorem dX6_hasSameWord_38 : decode cX6_hasSameWord 38 = .ok (.iaload, 1) := by decide +kernel
theorem dX6_hasSameWord_39 : decode cX6_hasSameWord 39 = .ok (.iconst 1, 1) := by decide +kernel
theorem dX6_hasSameWord_40 : decode cX6_hasSameWord 40 = .ok (.isub, 1) := by decide +kernel
theorem dX6_hasSameWord_41 : decode cX6_hasSameWord 41 = .ok (.iload 5, 2) := by decide +kernel
theorem dX6_hasSameWord_43 : decode cX6_hasSameWord 43 = .ok (.isub, 1) := by decide +kernel
theorem dX6_hasSameWord_44 : decode cX6_hasSameWord 44 = .ok (.iload 6, 2) := by decide +kernel
theorem dX6_hasSameWord_46 : decode cX6_hasSameWord 46 = .ok (.if_icmp .eq 5, 3) := by decide +kernel
theorem dX6_hasSameWord_49 : decode cX6_hasSameWord 49 = .ok (.iconst 0, 1) := by decide +kernel
theorem dX6_hasSameWord_50 : decode cX6_hasSameWord 50 = .ok (.ireturn, 1) := by decide +kernel
theorem dX6_hasSameWord_51 : decode cX6_hasSameWord 51 = .ok (.iconst 0, 1) := by decide +kernel
theorem dX6_hasSameWord_52 : decode cX6_hasSameWord 52 = .ok (.istore 7, 2) := by decide +kernel
theorem dX6_hasSameWord_54 : decode cX6_hasSameWord 54 = .ok (.iload 7, 2) := by decide +kernel
theorem dX6_hasSameWord_56 : decode cX6_hasSameWord 56 = .ok (.iload 6, 2) := by decide +kernel
theorem dX6_hasSameWord_58 : decode cX6_hasSameWord 58 = .ok (.if_icmp .ge 34, 3) := by decide +kernel
theorem dX6_hasSameWord_61 : decode cX6_hasSameWord 61 = .ok (.aload_n 0, 1) := by decide +kernel
theorem dX6_hasSameWord_62 : decode cX6_hasSameWord 62 = .ok (.getfield 9, 3) := by decide +kernel
theorem dX6_hasSameWord_65 : decode cX6_hasSameWord 65 = .ok (.iload 4, 2) := by decide +kernel
theorem dX6_hasSameWord_67 : decode cX6_hasSameWord 67 = .ok (.iload 7, 2) := by decide +kernel
theorem dX6_hasSameWord_69 : decode cX6_hasSameWord 69 = .ok (.iadd, 1) := by decide +kernel
theorem dX6_hasSameWord_70 : decode cX6_hasSameWord 70 = .ok (.caload, 1) := by decide +kernel
theorem dX6_hasSameWord_71 : decode cX6_hasSameWord 71 = .ok (.aload_n 2, 1) := by decide +kernel
theorem dX6_hasSameWord_72 : decode cX6_hasSameWord 72 = .ok (.getfield 9, 3) := by decide +kernel
theorem dX6_hasSameWord_75 : decode cX6_hasSameWord 75 = .ok (.iload 5, 2) := by decide +kernel
theorem dX6_hasSameWord_77 : decode cX6_hasSameWord 77 = .ok (.iload 7, 2) := by decide +kernel
theorem dX6_hasSameWord_79 : decode cX6_hasSameWord 79 = .ok (.iadd, 1) := by decide +kernel
theorem dX6_hasSameWord_80 : decode cX6_hasSameWord 80 = .ok (.caload, 1) := by decide +kernel
theorem dX6_hasSameWord_81 : decode cX6_hasSameWord 81 = .ok (.if_icmp .eq 5, 3) := by decide +kernel
theorem dX6_hasSameWord_84 : decode cX6_hasSameWord 84 = .ok (.iconst 0, 1) := by decide +kernel
theorem dX6_hasSameWord_85 : decode cX6_hasSameWord 85 = .ok (.ireturn, 1) := by decide +kernel
theorem dX6_hasSameWord_86 : decode cX6_hasSameWord 86 = .ok (.iinc 7 1, 3) := by decide +kernel
theorem dX6_hasSameWord_89 : decode cX6_hasSameWord 89 = .ok (.goto (-35), 3) := by decide +kernel
theorem dX6_hasSameWord_92 : decode cX6_hasSameWord 92 = .ok (.iconst 1, 1) := by decide +kernel
theorem dX6_hasSameWord_93 : decode cX6_hasSameWord 93 = .ok (.ireturn, 1) := by decide +kernel
theorem dX6_sharesWordWith_0 : decode cX6_sharesWordWith 0 = .ok (.iconst 0, 1) := by decide +kernel
theorem dX6_sharesWordWith_1 : decode cX6_sharesWordWith 1 = .ok (.istore_n 2, 1) := by decide +kernel
theorem dX6_sharesWordWith_2 : decode cX6_sharesWordWith 2 = .ok (.iload_n 2, 1) := by decide +kernel
theorem dX6_sharesWordWith_3 : decode cX6_sharesWordWith 3 = .ok (.aload_n 0, 1) := by decide +kernel
theorem dX6_sharesWordWith_4 : decode cX6_sharesWordWith 4 = .ok (.getfield 23, 3) := by decide +kernel
theorem dX6_sharesWordWith_7 : decode cX6_sharesWordWith 7 = .ok (.if_icmp .ge 37, 3) := by decide +kernel
theorem dX6_sharesWordWith_10 : decode cX6_sharesWordWith 10 = .ok (.iconst 0, 1) := by decide +kernel
theorem dX6_sharesWordWith_11 : decode cX6_sharesWordWith 11 = .ok (.istore_n 3, 1) := by decide +kernel
theorem dX6_sharesWordWith_12 : decode cX6_sharesWordWith 12 = .ok (.iload_n 3, 1) := by decide +kernel
theorem dX6_sharesWordWith_13 : decode cX6_sharesWordWith 13 = .ok (.aload_n 1, 1) := by decide +kernel
theorem dX6_sharesWordWith_14 : decode cX6_sharesWordWith 14 = .ok (.getfield 23, 3) := by decide +kernel
theorem dX6_sharesWordWith_17 : decode cX6_sharesWordWith 17 = .ok (.if_icmp .ge 21, 3) := by decide +kernel
theorem dX6_sharesWordWith_20 : decode cX6_sharesWordWith 20 = .ok (.aload_n 0, 1) := by decide +kernel
theorem dX6_sharesWordWith_21 : decode cX6_sharesWordWith 21 = .ok (.iload_n 2, 1) := by decide +kernel
theorem dX6_sharesWordWith_22 : decode cX6_sharesWordWith 22 = .ok (.aload_n 1, 1) := by decide +kernel
theorem dX6_sharesWordWith_23 : decode cX6_sharesWordWith 23 = .ok (.iload_n 3, 1) := by decide +kernel
theorem dX6_sharesWordWith_24 : decode cX6_sharesWordWith 24 = .ok (.invokevirtual 38, 3) := by decide +kernel
theorem dX6_sharesWordWith_27 : decode cX6_sharesWordWith 27 = .ok (.ifCond .eq 5, 3) := by decide +kernel
theorem dX6_sharesWordWith_30 : decode cX6_sharesWordWith 30 = .ok (.iconst 1, 1) := by decide +kernel
theorem dX6_sharesWordWith_31 : decode cX6_sharesWordWith 31 = .ok (.ireturn, 1) := by decide +kernel
theorem dX6_sharesWordWith_32 : decode cX6_sharesWordWith 32 = .ok (.iinc 3 1, 3) := by decide +kernel
theorem dX6_sharesWordWith_35 : decode cX6_sharesWordWith 35 = .ok (.goto (-23), 3) := by decide +kernel
theorem dX6_sharesWordWith_38 : decode cX6_sharesWordWith 38 = .ok (.iinc 2 1, 3) := by decide +kernel
theorem dX6_sharesWordWith_41 : decode cX6_sharesWordWith 41 = .ok (.goto (-39), 3) := by decide +kernel
theorem dX6_sharesWordWith_44 : decode cX6_sharesWordWith 44 = .ok (.iconst 0, 1) := by decide +kernel
theorem dX6_sharesWordWith_45 : decode cX6_sharesWordWith 45 = .ok (.ireturn, 1) := by decide +kernel
theorem dX6_distanceTo_0 : decode cX6_distanceTo 0 = .ok (.aload_n 0, 1) := by decide +kernel
theorem dX6_distanceTo_1 : decode cX6_distanceTo 1 = .ok (.getfield 23, 3) := by decide +kernel
theorem dX6_distanceTo_4 : decode cX6_distanceTo 4 = .ok (.aload_n 1, 1) := by decide +kernel
theorem dX6_distanceTo_5 : decode cX6_distanceTo 5 = .ok (.getfield 23, 3) := by decide +kernel
theorem dX6_distanceTo_8 : decode cX6_distanceTo 8 = .ok (.iadd, 1) := by decide +kernel
theorem dX6_distanceTo_9 : decode cX6_distanceTo 9 = .ok (.iconst 2, 1) := by decide +kernel
theorem dX6_distanceTo_10 : decode cX6_distanceTo 10 = .ok (.aload_n 0, 1) := by decide +kernel
theorem dX6_distanceTo_11 : decode cX6_distanceTo 11 = .ok (.aload_n 1, 1) := by decide +kernel
theorem dX6_distanceTo_12 : decode cX6_distanceTo 12 = .ok (.aload_n 2, 1) := by decide +kernel
theorem dX6_distanceTo_13 : decode cX6_distanceTo 13 = .ok (.invokevirtual 42, 3) := by decide +kernel
theorem dX6_distanceTo_16 : decode cX6_distanceTo 16 = .ok (.imul, 1) := by decide +kernel
theorem dX6_distanceTo_17 : decode cX6_distanceTo 17 = .ok (.isub, 1) := by decide +kernel
theorem dX6_distanceTo_18 : decode cX6_distanceTo 18 = .ok (.ireturn, 1) := by decide +kernel
theorem dX6_mostInCommon_0 : decode cX6_mostInCommon 0 = .ok (.aload_n 2, 1) := by decide +kernel
theorem dX6_mostInCommon_1 : decode cX6_mostInCommon 1 = .ok (.iconst 0, 1) := by decide +kernel
theorem dX6_mostInCommon_2 : decode cX6_mostInCommon 2 = .ok (.invokestatic 46, 3) := by decide +kernel
theorem dX6_mostInCommon_5 : decode cX6_mostInCommon 5 = .ok (.iconst 0, 1) := by decide +kernel
theorem dX6_mostInCommon_6 : decode cX6_mostInCommon 6 = .ok (.istore_n 3, 1) := by decide +kernel
theorem dX6_mostInCommon_7 : decode cX6_mostInCommon 7 = .ok (.iload_n 3, 1) := by decide +kernel
theorem dX6_mostInCommon_8 : decode cX6_mostInCommon 8 = .ok (.aload_n 0, 1) := by decide +kernel
theorem dX6_mostInCommon_9 : decode cX6_mostInCommon 9 = .ok (.getfield 23, 3) := by decide +kernel
theorem dX6_mostInCommon_12 : decode cX6_mostInCommon 12 = .ok (.if_icmp .ge 81, 3) := by decide +kernel
theorem dX6_mostInCommon_15 : decode cX6_mostInCommon 15 = .ok (.iconst 0, 1) := by decide +kernel
theorem dX6_mostInCommon_16 : decode cX6_mostInCommon 16 = .ok (.istore 4, 2) := by decide +kernel
theorem dX6_mostInCommon_18 : decode cX6_mostInCommon 18 = .ok (.iconst 0, 1) := by decide +kernel
theorem dX6_mostInCommon_19 : decode cX6_mostInCommon 19 = .ok (.istore 5, 2) := by decide +kernel
theorem dX6_mostInCommon_21 : decode cX6_mostInCommon 21 = .ok (.iload 5, 2) := by decide +kernel
theorem dX6_mostInCommon_23 : decode cX6_mostInCommon 23 = .ok (.aload_n 1, 1) := by decide +kernel
theorem dX6_mostInCommon_24 : decode cX6_mostInCommon 24 = .ok (.getfield 23, 3) := by decide +kernel
theorem dX6_mostInCommon_27 : decode cX6_mostInCommon 27 = .ok (.if_icmp .ge 60, 3) := by decide +kernel
theorem dX6_mostInCommon_30 : decode cX6_mostInCommon 30 = .ok (.aload_n 2, 1) := by decide +kernel
theorem dX6_mostInCommon_31 : decode cX6_mostInCommon 31 = .ok (.iload 5, 2) := by decide +kernel
theorem dX6_mostInCommon_33 : decode cX6_mostInCommon 33 = .ok (.iconst 1, 1) := by decide +kernel
theorem dX6_mostInCommon_34 : decode cX6_mostInCommon 34 = .ok (.iadd, 1) := by decide +kernel
theorem dX6_mostInCommon_35 : decode cX6_mostInCommon 35 = .ok (.iaload, 1) := by decide +kernel
theorem dX6_mostInCommon_36 : decode cX6_mostInCommon 36 = .ok (.istore 6, 2) := by decide +kernel
theorem dX6_mostInCommon_38 : decode cX6_mostInCommon 38 = .ok (.aload_n 0, 1) := by decide +kernel
theorem dX6_mostInCommon_39 : decode cX6_mostInCommon 39 = .ok (.iload_n 3, 1) := by decide +kernel
theorem dX6_mostInCommon_40 : decode cX6_mostInCommon 40 = .ok (.aload_n 1, 1) := by decide +kernel
theorem dX6_mostInCommon_41 : decode cX6_mostInCommon 41 = .ok (.iload 5, 2) := by decide +kernel
theorem dX6_mostInCommon_43 : decode cX6_mostInCommon 43 = .ok (.invokevirtual 38, 3) := by decide +kernel
theorem dX6_mostInCommon_46 : decode cX6_mostInCommon 46 = .ok (.ifCond .eq 16, 3) := by decide +kernel
theorem dX6_mostInCommon_49 : decode cX6_mostInCommon 49 = .ok (.aload_n 2, 1) := by decide +kernel
theorem dX6_mostInCommon_50 : decode cX6_mostInCommon 50 = .ok (.iload 5, 2) := by decide +kernel
theorem dX6_mostInCommon_52 : decode cX6_mostInCommon 52 = .ok (.iconst 1, 1) := by decide +kernel
theorem dX6_mostInCommon_53 : decode cX6_mostInCommon 53 = .ok (.iadd, 1) := by decide +kernel
theorem dX6_mostInCommon_54 : decode cX6_mostInCommon 54 = .ok (.iload 4, 2) := by decide +kernel
theorem dX6_mostInCommon_56 : decode cX6_mostInCommon 56 = .ok (.iconst 1, 1) := by decide +kernel
theorem dX6_mostInCommon_57 : decode cX6_mostInCommon 57 = .ok (.iadd, 1) := by decide +kernel
theorem dX6_mostInCommon_58 : decode cX6_mostInCommon 58 = .ok (.iastore, 1) := by decide +kernel
theorem dX6_mostInCommon_59 : decode cX6_mostInCommon 59 = .ok (.goto 18, 3) := by decide +kernel
theorem dX6_mostInCommon_62 : decode cX6_mostInCommon 62 = .ok (.aload_n 2, 1) := by decide +kernel
theorem dX6_mostInCommon_63 : decode cX6_mostInCommon 63 = .ok (.iload 5, 2) := by decide +kernel
theorem dX6_mostInCommon_65 : decode cX6_mostInCommon 65 = .ok (.iconst 1, 1) := by decide +kernel
theorem dX6_mostInCommon_66 : decode cX6_mostInCommon 66 = .ok (.iadd, 1) := by decide +kernel
theorem dX6_mostInCommon_67 : decode cX6_mostInCommon 67 = .ok (.iload 6, 2) := by decide +kernel
theorem dX6_mostInCommon_69 : decode cX6_mostInCommon 69 = .ok (.aload_n 2, 1) := by decide +kernel
theorem dX6_mostInCommon_70 : decode cX6_mostInCommon 70 = .ok (.iload 5, 2) := by decide +kernel
theorem dX6_mostInCommon_72 : decode cX6_mostInCommon 72 = .ok (.iaload, 1) := by decide +kernel
theorem dX6_mostInCommon_73 : decode cX6_mostInCommon 73 = .ok (.invokestatic 52, 3) := by decide +kernel
theorem dX6_mostInCommon_76 : decode cX6_mostInCommon 76 = .ok (.iastore, 1) := by decide +kernel
theorem dX6_mostInCommon_77 : decode cX6_mostInCommon 77 = .ok (.iload 6, 2) := by decide +kernel
theorem dX6_mostInCommon_79 : decode cX6_mostInCommon 79 = .ok (.istore 4, 2) := by decide +kernel
theorem dX6_mostInCommon_81 : decode cX6_mostInCommon 81 = .ok (.iinc 5 1, 3) := by decide +kernel
theorem dX6_mostInCommon_84 : decode cX6_mostInCommon 84 = .ok (.goto (-63), 3) := by decide +kernel
theorem dX6_mostInCommon_87 : decode cX6_mostInCommon 87 = .ok (.iinc 3 1, 3) := by decide +kernel
theorem dX6_mostInCommon_90 : decode cX6_mostInCommon 90 = .ok (.goto (-83), 3) := by decide +kernel
theorem dX6_mostInCommon_93 : decode cX6_mostInCommon 93 = .ok (.aload_n 2, 1) := by decide +kernel
theorem dX6_mostInCommon_94 : decode cX6_mostInCommon 94 = .ok (.aload_n 1, 1) := by decide +kernel
theorem dX6_mostInCommon_95 : decode cX6_mostInCommon 95 = .ok (.getfield 23, 3) := by decide +kernel
theorem dX6_mostInCommon_98 : decode cX6_mostInCommon 98 = .ok (.iaload, 1) := by decide +kernel
theorem dX6_mostInCommon_99 : decode cX6_mostInCommon 99 = .ok (.ireturn, 1) := by decide +kernel
theorem dX1_init_0 : decode cX1_init 0 = .ok (.aload_n 0, 1) := by decide +kernel
theorem dX1_init_1 : decode cX1_init 1 = .ok (.invokespecial 3, 3) := by decide +kernel
theorem dX1_init_4 : decode cX1_init 4 = .ok (.aload_n 0, 1) := by decide +kernel
theorem dX1_init_5 : decode cX1_init 5 = .ok (.new 9, 3) := by decide +kernel
theorem dX1_init_8 : decode cX1_init 8 = .ok (.dup, 1) := by decide +kernel
theorem dX1_init_9 : decode cX1_init 9 = .ok (.invokespecial 11, 3) := by decide +kernel
theorem dX1_init_12 : decode cX1_init 12 = .ok (.putfield 12, 3) := by decide +kernel
theorem dX1_init_15 : decode cX1_init 15 = .ok (.aload_n 0, 1) := by decide +kernel
theorem dX1_init_16 : decode cX1_init 16 = .ok (.bipush (-5), 2) := by decide +kernel
theorem dX1_init_18 : decode cX1_init 18 = .ok (.putfield 18, 3) := by decide +kernel
theorem dX1_init_21 : decode cX1_init 21 = .ok (.return_, 1) := by decide +kernel
theorem dX1_stands_0 : decode cX1_stands 0 = .ok (.aload_n 0, 1) := by decide +kernel
theorem dX1_stands_1 : decode cX1_stands 1 = .ok (.getfield 12, 3) := by decide +kernel
theorem dX1_stands_4 : decode cX1_stands 4 = .ok (.getfield 22, 3) := by decide +kernel
theorem dX1_stands_7 : decode cX1_stands 7 = .ok (.ifCond .le 7, 3) := by decide +kernel
theorem dX1_stands_10 : decode cX1_stands 10 = .ok (.iconst 1, 1) := by decide +kernel
theorem dX1_stands_11 : decode cX1_stands 11 = .ok (.goto 4, 3) := by decide +kernel
theorem dX1_stands_14 : decode cX1_stands 14 = .ok (.iconst 0, 1) := by decide +kernel
theorem dX1_stands_15 : decode cX1_stands 15 = .ok (.ireturn, 1) := by decide +kernel
theorem dX1_become_0 : decode cX1_become 0 = .ok (.aload_n 0, 1) := by decide +kernel
theorem dX1_become_1 : decode cX1_become 1 = .ok (.getfield 12, 3) := by decide +kernel
theorem dX1_become_4 : decode cX1_become 4 = .ok (.aload_n 1, 1) := by decide +kernel
theorem dX1_become_5 : decode cX1_become 5 = .ok (.invokevirtual 25, 3) := by decide +kernel
theorem dX1_become_8 : decode cX1_become 8 = .ok (.aload_n 0, 1) := by decide +kernel
theorem dX1_become_9 : decode cX1_become 9 = .ok (.iload_n 2, 1) := by decide +kernel
theorem dX1_become_10 : decode cX1_become 10 = .ok (.putfield 18, 3) := by decide +kernel
theorem dX1_become_13 : decode cX1_become 13 = .ok (.aload_n 0, 1) := by decide +kernel
theorem dX1_become_14 : decode cX1_become 14 = .ok (.iload_n 3, 1) := by decide +kernel
theorem dX1_become_15 : decode cX1_become 15 = .ok (.putfield 29, 3) := by decide +kernel
theorem dX1_become_18 : decode cX1_become 18 = .ok (.aload_n 0, 1) := by decide +kernel
theorem dX1_become_19 : decode cX1_become 19 = .ok (.iconst 0, 1) := by decide +kernel
theorem dX1_become_20 : decode cX1_become 20 = .ok (.putfield 32, 3) := by decide +kernel
theorem dX1_become_23 : decode cX1_become 23 = .ok (.return_, 1) := by decide +kernel
theorem dX1_copyFrom_0 : decode cX1_copyFrom 0 = .ok (.aload_n 0, 1) := by decide +kernel
theorem dX1_copyFrom_1 : decode cX1_copyFrom 1 = .ok (.getfield 12, 3) := by decide +kernel
theorem dX1_copyFrom_4 : decode cX1_copyFrom 4 = .ok (.aload_n 1, 1) := by decide +kernel
theorem dX1_copyFrom_5 : decode cX1_copyFrom 5 = .ok (.getfield 12, 3) := by decide +kernel
theorem dX1_copyFrom_8 : decode cX1_copyFrom 8 = .ok (.invokevirtual 25, 3) := by decide +kernel
theorem dX1_copyFrom_11 : decode cX1_copyFrom 11 = .ok (.aload_n 0, 1) := by decide +kernel
theorem dX1_copyFrom_12 : decode cX1_copyFrom 12 = .ok (.aload_n 1, 1) := by decide +kernel
theorem dX1_copyFrom_13 : decode cX1_copyFrom 13 = .ok (.getfield 18, 3) := by decide +kernel
theorem dX1_copyFrom_16 : decode cX1_copyFrom 16 = .ok (.putfield 18, 3) := by decide +kernel
theorem dX1_copyFrom_19 : decode cX1_copyFrom 19 = .ok (.aload_n 0, 1) := by decide +kernel
theorem dX1_copyFrom_20 : decode cX1_copyFrom 20 = .ok (.aload_n 1, 1) := by decide +kernel
theorem dX1_copyFrom_21 : decode cX1_copyFrom 21 = .ok (.getfield 29, 3) := by decide +kernel
theorem dX1_copyFrom_24 : decode cX1_copyFrom 24 = .ok (.putfield 29, 3) := by decide +kernel
theorem dX1_copyFrom_27 : decode cX1_copyFrom 27 = .ok (.aload_n 0, 1) := by decide +kernel
theorem dX1_copyFrom_28 : decode cX1_copyFrom 28 = .ok (.aload_n 1, 1) := by decide +kernel
theorem dX1_copyFrom_29 : decode cX1_copyFrom 29 = .ok (.getfield 32, 3) := by decide +kernel
theorem dX1_copyFrom_32 : decode cX1_copyFrom 32 = .ok (.putfield 32, 3) := by decide +kernel
theorem dX1_copyFrom_35 : decode cX1_copyFrom 35 = .ok (.return_, 1) := by decide +kernel
theorem dX1_cutTo_0 : decode cX1_cutTo 0 = .ok (.aload_n 0, 1) := by decide +kernel
theorem dX1_cutTo_1 : decode cX1_cutTo 1 = .ok (.getfield 12, 3) := by decide +kernel
theorem dX1_cutTo_4 : decode cX1_cutTo 4 = .ok (.getfield 22, 3) := by decide +kernel
theorem dX1_cutTo_7 : decode cX1_cutTo 7 = .ok (.iload_n 1, 1) := by decide +kernel
theorem dX1_cutTo_8 : decode cX1_cutTo 8 = .ok (.if_icmp .gt 5, 3) := by decide +kernel
theorem dX1_cutTo_11 : decode cX1_cutTo 11 = .ok (.iconst 0, 1) := by decide +kernel
theorem dX1_cutTo_12 : decode cX1_cutTo 12 = .ok (.ireturn, 1) := by decide +kernel
theorem dX1_cutTo_13 : decode cX1_cutTo 13 = .ok (.aload_n 0, 1) := by decide +kernel
theorem dX1_cutTo_14 : decode cX1_cutTo 14 = .ok (.getfield 12, 3) := by decide +kernel
theorem dX1_cutTo_17 : decode cX1_cutTo 17 = .ok (.iload_n 1, 1) := by decide +kernel
theorem dX1_cutTo_18 : decode cX1_cutTo 18 = .ok (.invokevirtual 35, 3) := by decide +kernel
theorem dX1_cutTo_21 : decode cX1_cutTo 21 = .ok (.aload_n 0, 1) := by decide +kernel
theorem dX1_cutTo_22 : decode cX1_cutTo 22 = .ok (.dup, 1) := by decide +kernel
theorem dX1_cutTo_23 : decode cX1_cutTo 23 = .ok (.getfield 32, 3) := by decide +kernel
theorem dX1_cutTo_26 : decode cX1_cutTo 26 = .ok (.iconst 1, 1) := by decide +kernel
theorem dX1_cutTo_27 : decode cX1_cutTo 27 = .ok (.iadd, 1) := by decide +kernel
theorem dX1_cutTo_28 : decode cX1_cutTo 28 = .ok (.putfield 32, 3) := by decide +kernel
theorem dX1_cutTo_31 : decode cX1_cutTo 31 = .ok (.iconst 1, 1) := by decide +kernel
theorem dX1_cutTo_32 : decode cX1_cutTo 32 = .ok (.ireturn, 1) := by decide +kernel
theorem dX1_told_0 : decode cX1_told 0 = .ok (.iload_n 1, 1) := by decide +kernel
theorem dX1_told_1 : decode cX1_told 1 = .ok (.tableswitch 57 0 3 #[31, 39, 47, 52], 31) := by decide +kernel
theorem dX1_told_32 : decode cX1_told 32 = .ok (.aload_n 0, 1) := by decide +kernel
theorem dX1_told_33 : decode cX1_told 33 = .ok (.getfield 12, 3) := by decide +kernel
theorem dX1_told_36 : decode cX1_told 36 = .ok (.getfield 22, 3) := by decide +kernel
theorem dX1_told_39 : decode cX1_told 39 = .ok (.ireturn, 1) := by decide +kernel
theorem dX1_told_40 : decode cX1_told 40 = .ok (.aload_n 0, 1) := by decide +kernel
theorem dX1_told_41 : decode cX1_told 41 = .ok (.getfield 12, 3) := by decide +kernel
theorem dX1_told_44 : decode cX1_told 44 = .ok (.getfield 39, 3) := by decide +kernel
theorem dX1_told_47 : decode cX1_told 47 = .ok (.ireturn, 1) := by decide +kernel
theorem dX1_told_48 : decode cX1_told 48 = .ok (.aload_n 0, 1) := by decide +kernel
theorem dX1_told_49 : decode cX1_told 49 = .ok (.getfield 18, 3) := by decide +kernel
theorem dX1_told_52 : decode cX1_told 52 = .ok (.ireturn, 1) := by decide +kernel
theorem dX1_told_53 : decode cX1_told 53 = .ok (.aload_n 0, 1) := by decide +kernel
theorem dX1_told_54 : decode cX1_told 54 = .ok (.getfield 29, 3) := by decide +kernel
theorem dX1_told_57 : decode cX1_told 57 = .ok (.ireturn, 1) := by decide +kernel
theorem dX1_told_58 : decode cX1_told 58 = .ok (.aload_n 0, 1) := by decide +kernel
theorem dX1_told_59 : decode cX1_told 59 = .ok (.getfield 32, 3) := by decide +kernel
theorem dX1_told_62 : decode cX1_told 62 = .ok (.ireturn, 1) := by decide +kernel
theorem dX2_init_0 : decode cX2_init 0 = .ok (.aload_n 0, 1) := by decide +kernel
theorem dX2_init_1 : decode cX2_init 1 = .ok (.invokespecial 1, 3) := by decide +kernel
theorem dX2_init_4 : decode cX2_init 4 = .ok (.aload_n 0, 1) := by decide +kernel
theorem dX2_init_5 : decode cX2_init 5 = .ok (.new 7, 3) := by decide +kernel
theorem dX2_init_8 : decode cX2_init 8 = .ok (.dup, 1) := by decide +kernel
theorem dX2_init_9 : decode cX2_init 9 = .ok (.invokespecial 9, 3) := by decide +kernel
theorem dX2_init_12 : decode cX2_init 12 = .ok (.putfield 10, 3) := by decide +kernel
theorem dX2_init_15 : decode cX2_init 15 = .ok (.return_, 1) := by decide +kernel
theorem dX2_become_0 : decode cX2_become 0 = .ok (.aload_n 0, 1) := by decide +kernel
theorem dX2_become_1 : decode cX2_become 1 = .ok (.getfield 10, 3) := by decide +kernel
theorem dX2_become_4 : decode cX2_become 4 = .ok (.aload 4, 2) := by decide +kernel
theorem dX2_become_6 : decode cX2_become 6 = .ok (.invokevirtual 16, 3) := by decide +kernel
theorem dX2_become_9 : decode cX2_become 9 = .ok (.aload_n 0, 1) := by decide +kernel
theorem dX2_become_10 : decode cX2_become 10 = .ok (.iload_n 1, 1) := by decide +kernel
theorem dX2_become_11 : decode cX2_become 11 = .ok (.putfield 20, 3) := by decide +kernel
theorem dX2_become_14 : decode cX2_become 14 = .ok (.aload_n 0, 1) := by decide +kernel
theorem dX2_become_15 : decode cX2_become 15 = .ok (.iload_n 3, 1) := by decide +kernel
theorem dX2_become_16 : decode cX2_become 16 = .ok (.putfield 24, 3) := by decide +kernel
theorem dX2_become_19 : decode cX2_become 19 = .ok (.aload_n 0, 1) := by decide +kernel
theorem dX2_become_20 : decode cX2_become 20 = .ok (.iload_n 2, 1) := by decide +kernel
theorem dX2_become_21 : decode cX2_become 21 = .ok (.putfield 27, 3) := by decide +kernel
theorem dX2_become_24 : decode cX2_become 24 = .ok (.aload_n 0, 1) := by decide +kernel
theorem dX2_become_25 : decode cX2_become 25 = .ok (.iconst 0, 1) := by decide +kernel
theorem dX2_become_26 : decode cX2_become 26 = .ok (.putfield 30, 3) := by decide +kernel
theorem dX2_become_29 : decode cX2_become 29 = .ok (.aload_n 0, 1) := by decide +kernel
theorem dX2_become_30 : decode cX2_become 30 = .ok (.iconst 0, 1) := by decide +kernel
theorem dX2_become_31 : decode cX2_become 31 = .ok (.putfield 33, 3) := by decide +kernel
theorem dX2_become_34 : decode cX2_become 34 = .ok (.return_, 1) := by decide +kernel
theorem dX2_copyFrom_0 : decode cX2_copyFrom 0 = .ok (.aload_n 0, 1) := by decide +kernel
theorem dX2_copyFrom_1 : decode cX2_copyFrom 1 = .ok (.getfield 10, 3) := by decide +kernel
theorem dX2_copyFrom_4 : decode cX2_copyFrom 4 = .ok (.aload_n 1, 1) := by decide +kernel
theorem dX2_copyFrom_5 : decode cX2_copyFrom 5 = .ok (.getfield 10, 3) := by decide +kernel
theorem dX2_copyFrom_8 : decode cX2_copyFrom 8 = .ok (.invokevirtual 16, 3) := by decide +kernel
theorem dX2_copyFrom_11 : decode cX2_copyFrom 11 = .ok (.aload_n 0, 1) := by decide +kernel
theorem dX2_copyFrom_12 : decode cX2_copyFrom 12 = .ok (.aload_n 1, 1) := by decide +kernel
theorem dX2_copyFrom_13 : decode cX2_copyFrom 13 = .ok (.getfield 20, 3) := by decide +kernel
theorem dX2_copyFrom_16 : decode cX2_copyFrom 16 = .ok (.putfield 20, 3) := by decide +kernel
theorem dX2_copyFrom_19 : decode cX2_copyFrom 19 = .ok (.aload_n 0, 1) := by decide +kernel
theorem dX2_copyFrom_20 : decode cX2_copyFrom 20 = .ok (.aload_n 1, 1) := by decide +kernel
theorem dX2_copyFrom_21 : decode cX2_copyFrom 21 = .ok (.getfield 24, 3) := by decide +kernel
theorem dX2_copyFrom_24 : decode cX2_copyFrom 24 = .ok (.putfield 24, 3) := by decide +kernel
theorem dX2_copyFrom_27 : decode cX2_copyFrom 27 = .ok (.aload_n 0, 1) := by decide +kernel
theorem dX2_copyFrom_28 : decode cX2_copyFrom 28 = .ok (.aload_n 1, 1) := by decide +kernel
theorem dX2_copyFrom_29 : decode cX2_copyFrom 29 = .ok (.getfield 27, 3) := by decide +kernel
theorem dX2_copyFrom_32 : decode cX2_copyFrom 32 = .ok (.putfield 27, 3) := by decide +kernel
theorem dX2_copyFrom_35 : decode cX2_copyFrom 35 = .ok (.aload_n 0, 1) := by decide +kernel
theorem dX2_copyFrom_36 : decode cX2_copyFrom 36 = .ok (.aload_n 1, 1) := by decide +kernel
theorem dX2_copyFrom_37 : decode cX2_copyFrom 37 = .ok (.getfield 30, 3) := by decide +kernel
theorem dX2_copyFrom_40 : decode cX2_copyFrom 40 = .ok (.putfield 30, 3) := by decide +kernel
theorem dX2_copyFrom_43 : decode cX2_copyFrom 43 = .ok (.aload_n 0, 1) := by decide +kernel
theorem dX2_copyFrom_44 : decode cX2_copyFrom 44 = .ok (.aload_n 1, 1) := by decide +kernel
theorem dX2_copyFrom_45 : decode cX2_copyFrom 45 = .ok (.getfield 33, 3) := by decide +kernel
theorem dX2_copyFrom_48 : decode cX2_copyFrom 48 = .ok (.putfield 33, 3) := by decide +kernel
theorem dX2_copyFrom_51 : decode cX2_copyFrom 51 = .ok (.return_, 1) := by decide +kernel
theorem dX2_hasVoteOf_0 : decode cX2_hasVoteOf 0 = .ok (.aload_n 0, 1) := by decide +kernel
theorem dX2_hasVoteOf_1 : decode cX2_hasVoteOf 1 = .ok (.getfield 33, 3) := by decide +kernel
theorem dX2_hasVoteOf_4 : decode cX2_hasVoteOf 4 = .ok (.iconst 1, 1) := by decide +kernel
theorem dX2_hasVoteOf_5 : decode cX2_hasVoteOf 5 = .ok (.iload_n 1, 1) := by decide +kernel
theorem dX2_hasVoteOf_6 : decode cX2_hasVoteOf 6 = .ok (.ishl, 1) := by decide +kernel
theorem dX2_hasVoteOf_7 : decode cX2_hasVoteOf 7 = .ok (.iand, 1) := by decide +kernel
theorem dX2_hasVoteOf_8 : decode cX2_hasVoteOf 8 = .ok (.ifCond .eq 7, 3) := by decide +kernel
theorem dX2_hasVoteOf_11 : decode cX2_hasVoteOf 11 = .ok (.iconst 1, 1) := by decide +kernel
theorem dX2_hasVoteOf_12 : decode cX2_hasVoteOf 12 = .ok (.goto 4, 3) := by decide +kernel
theorem dX2_hasVoteOf_15 : decode cX2_hasVoteOf 15 = .ok (.iconst 0, 1) := by decide +kernel
theorem dX2_hasVoteOf_16 : decode cX2_hasVoteOf 16 = .ok (.ireturn, 1) := by decide +kernel
theorem dX2_votes_0 : decode cX2_votes 0 = .ok (.aload_n 0, 1) := by decide +kernel
theorem dX2_votes_1 : decode cX2_votes 1 = .ok (.getfield 33, 3) := by decide +kernel
theorem dX2_votes_4 : decode cX2_votes 4 = .ok (.invokestatic 36, 3) := by decide +kernel
theorem dX2_votes_7 : decode cX2_votes 7 = .ok (.ireturn, 1) := by decide +kernel
theorem dX2_hasMoreVotesOrLowerNumber_0 : decode cX2_hasMoreVotesOrLowerNumber 0 = .ok (.aload_n 0, 1) := by decide +kernel
theorem dX2_hasMoreVotesOrLowerNumber_1 : decode cX2_hasMoreVotesOrLowerNumber 1 = .ok (.invokevirtual 42, 3) := by decide +kernel
theorem dX2_hasMoreVotesOrLowerNumber_4 : decode cX2_hasMoreVotesOrLowerNumber 4 = .ok (.istore_n 2, 1) := by decide +kernel
theorem dX2_hasMoreVotesOrLowerNumber_5 : decode cX2_hasMoreVotesOrLowerNumber 5 = .ok (.aload_n 1, 1) := by decide +kernel
theorem dX2_hasMoreVotesOrLowerNumber_6 : decode cX2_hasMoreVotesOrLowerNumber 6 = .ok (.invokevirtual 42, 3) := by decide +kernel
theorem dX2_hasMoreVotesOrLowerNumber_9 : decode cX2_hasMoreVotesOrLowerNumber 9 = .ok (.istore_n 3, 1) := by decide +kernel
theorem dX2_hasMoreVotesOrLowerNumber_10 : decode cX2_hasMoreVotesOrLowerNumber 10 = .ok (.iload_n 2, 1) := by decide +kernel
theorem dX2_hasMoreVotesOrLowerNumber_11 : decode cX2_hasMoreVotesOrLowerNumber 11 = .ok (.iload_n 3, 1) := by decide +kernel
theorem dX2_hasMoreVotesOrLowerNumber_12 : decode cX2_hasMoreVotesOrLowerNumber 12 = .ok (.if_icmp .gt 19, 3) := by decide +kernel
theorem dX2_hasMoreVotesOrLowerNumber_15 : decode cX2_hasMoreVotesOrLowerNumber 15 = .ok (.iload_n 2, 1) := by decide +kernel
theorem dX2_hasMoreVotesOrLowerNumber_16 : decode cX2_hasMoreVotesOrLowerNumber 16 = .ok (.iload_n 3, 1) := by decide +kernel
theorem dX2_hasMoreVotesOrLowerNumber_17 : decode cX2_hasMoreVotesOrLowerNumber 17 = .ok (.if_icmp .ne 18, 3) := by decide +kernel
theorem dX2_hasMoreVotesOrLowerNumber_20 : decode cX2_hasMoreVotesOrLowerNumber 20 = .ok (.aload_n 0, 1) := by decide +kernel
theorem dX2_hasMoreVotesOrLowerNumber_21 : decode cX2_hasMoreVotesOrLowerNumber 21 = .ok (.getfield 20, 3) := by decide +kernel
theorem dX2_hasMoreVotesOrLowerNumber_24 : decode cX2_hasMoreVotesOrLowerNumber 24 = .ok (.aload_n 1, 1) := by decide +kernel
theorem dX2_hasMoreVotesOrLowerNumber_25 : decode cX2_hasMoreVotesOrLowerNumber 25 = .ok (.getfield 20, 3) := by decide +kernel
theorem dX2_hasMoreVotesOrLowerNumber_28 : decode cX2_hasMoreVotesOrLowerNumber 28 = .ok (.if_icmp .ge 7, 3) := by decide +kernel
theorem dX2_hasMoreVotesOrLowerNumber_31 : decode cX2_hasMoreVotesOrLowerNumber 31 = .ok (.iconst 1, 1) := by decide +kernel
theorem dX2_hasMoreVotesOrLowerNumber_32 : decode cX2_hasMoreVotesOrLowerNumber 32 = .ok (.goto 4, 3) := by decide +kernel
theorem dX2_hasMoreVotesOrLowerNumber_35 : decode cX2_hasMoreVotesOrLowerNumber 35 = .ok (.iconst 0, 1) := by decide +kernel
theorem dX2_hasMoreVotesOrLowerNumber_36 : decode cX2_hasMoreVotesOrLowerNumber 36 = .ok (.ireturn, 1) := by decide +kernel
theorem dX2_hasMoreVotesOrFewerWords_0 : decode cX2_hasMoreVotesOrFewerWords 0 = .ok (.aload_n 0, 1) := by decide +kernel
theorem dX2_hasMoreVotesOrFewerWords_1 : decode cX2_hasMoreVotesOrFewerWords 1 = .ok (.invokevirtual 42, 3) := by decide +kernel
theorem dX2_hasMoreVotesOrFewerWords_4 : decode cX2_hasMoreVotesOrFewerWords 4 = .ok (.istore_n 2, 1) := by decide +kernel
theorem dX2_hasMoreVotesOrFewerWords_5 : decode cX2_hasMoreVotesOrFewerWords 5 = .ok (.aload_n 1, 1) := by decide +kernel
theorem dX2_hasMoreVotesOrFewerWords_6 : decode cX2_hasMoreVotesOrFewerWords 6 = .ok (.invokevirtual 42, 3) := by decide +kernel
theorem dX2_hasMoreVotesOrFewerWords_9 : decode cX2_hasMoreVotesOrFewerWords 9 = .ok (.istore_n 3, 1) := by decide +kernel
theorem dX2_hasMoreVotesOrFewerWords_10 : decode cX2_hasMoreVotesOrFewerWords 10 = .ok (.iload_n 2, 1) := by decide +kernel
theorem dX2_hasMoreVotesOrFewerWords_11 : decode cX2_hasMoreVotesOrFewerWords 11 = .ok (.iload_n 3, 1) := by decide +kernel
theorem dX2_hasMoreVotesOrFewerWords_12 : decode cX2_hasMoreVotesOrFewerWords 12 = .ok (.if_icmp .gt 25, 3) := by decide +kernel
theorem dX2_hasMoreVotesOrFewerWords_15 : decode cX2_hasMoreVotesOrFewerWords 15 = .ok (.iload_n 2, 1) := by decide +kernel
theorem dX2_hasMoreVotesOrFewerWords_16 : decode cX2_hasMoreVotesOrFewerWords 16 = .ok (.iload_n 3, 1) := by decide +kernel
theorem dX2_hasMoreVotesOrFewerWords_17 : decode cX2_hasMoreVotesOrFewerWords 17 = .ok (.if_icmp .ne 24, 3) := by decide +kernel
theorem dX2_hasMoreVotesOrFewerWords_20 : decode cX2_hasMoreVotesOrFewerWords 20 = .ok (.aload_n 0, 1) := by decide +kernel
theorem dX2_hasMoreVotesOrFewerWords_21 : decode cX2_hasMoreVotesOrFewerWords 21 = .ok (.getfield 10, 3) := by decide +kernel
theorem dX2_hasMoreVotesOrFewerWords_24 : decode cX2_hasMoreVotesOrFewerWords 24 = .ok (.getfield 46, 3) := by decide +kernel
theorem dX2_hasMoreVotesOrFewerWords_27 : decode cX2_hasMoreVotesOrFewerWords 27 = .ok (.aload_n 1, 1) := by decide +kernel
theorem dX2_hasMoreVotesOrFewerWords_28 : decode cX2_hasMoreVotesOrFewerWords 28 = .ok (.getfield 10, 3) := by decide +kernel
theorem dX2_hasMoreVotesOrFewerWords_31 : decode cX2_hasMoreVotesOrFewerWords 31 = .ok (.getfield 46, 3) := by decide +kernel
theorem dX2_hasMoreVotesOrFewerWords_34 : decode cX2_hasMoreVotesOrFewerWords 34 = .ok (.if_icmp .ge 7, 3) := by decide +kernel
theorem dX2_hasMoreVotesOrFewerWords_37 : decode cX2_hasMoreVotesOrFewerWords 37 = .ok (.iconst 1, 1) := by decide +kernel
theorem dX2_hasMoreVotesOrFewerWords_38 : decode cX2_hasMoreVotesOrFewerWords 38 = .ok (.goto 4, 3) := by decide +kernel
theorem dX2_hasMoreVotesOrFewerWords_41 : decode cX2_hasMoreVotesOrFewerWords 41 = .ok (.iconst 0, 1) := by decide +kernel
theorem dX2_hasMoreVotesOrFewerWords_42 : decode cX2_hasMoreVotesOrFewerWords 42 = .ok (.ireturn, 1) := by decide +kernel
theorem dX3_init_0 : decode cX3_init 0 = .ok (.aload_n 0, 1) := by decide +kernel
theorem dX3_init_1 : decode cX3_init 1 = .ok (.invokespecial 3, 3) := by decide +kernel
theorem dX3_init_4 : decode cX3_init 4 = .ok (.aload_n 0, 1) := by decide +kernel
theorem dX3_init_5 : decode cX3_init 5 = .ok (.bipush 16, 2) := by decide +kernel
theorem dX3_init_7 : decode cX3_init 7 = .ok (.anewarray 9, 3) := by decide +kernel
theorem dX3_init_10 : decode cX3_init 10 = .ok (.putfield 11, 3) := by decide +kernel
theorem dX3_init_13 : decode cX3_init 13 = .ok (.iconst 0, 1) := by decide +kernel
theorem dX3_init_14 : decode cX3_init 14 = .ok (.istore_n 1, 1) := by decide +kernel
theorem dX3_init_15 : decode cX3_init 15 = .ok (.iload_n 1, 1) := by decide +kernel
theorem dX3_init_16 : decode cX3_init 16 = .ok (.aload_n 0, 1) := by decide +kernel
theorem dX3_init_17 : decode cX3_init 17 = .ok (.getfield 11, 3) := by decide +kernel
theorem dX3_init_20 : decode cX3_init 20 = .ok (.arraylength, 1) := by decide +kernel
theorem dX3_init_21 : decode cX3_init 21 = .ok (.if_icmp .ge 22, 3) := by decide +kernel
theorem dX3_init_24 : decode cX3_init 24 = .ok (.aload_n 0, 1) := by decide +kernel
theorem dX3_init_25 : decode cX3_init 25 = .ok (.getfield 11, 3) := by decide +kernel
theorem dX3_init_28 : decode cX3_init 28 = .ok (.iload_n 1, 1) := by decide +kernel
theorem dX3_init_29 : decode cX3_init 29 = .ok (.new 9, 3) := by decide +kernel
theorem dX3_init_32 : decode cX3_init 32 = .ok (.dup, 1) := by decide +kernel
theorem dX3_init_33 : decode cX3_init 33 = .ok (.invokespecial 17, 3) := by decide +kernel
theorem dX3_init_36 : decode cX3_init 36 = .ok (.aastore, 1) := by decide +kernel
theorem dX3_init_37 : decode cX3_init 37 = .ok (.iinc 1 1, 3) := by decide +kernel
theorem dX3_init_40 : decode cX3_init 40 = .ok (.goto (-25), 3) := by decide +kernel
theorem dX3_init_43 : decode cX3_init 43 = .ok (.return_, 1) := by decide +kernel
theorem dX3_copyFrom_0 : decode cX3_copyFrom 0 = .ok (.aload_n 0, 1) := by decide +kernel
theorem dX3_copyFrom_1 : decode cX3_copyFrom 1 = .ok (.aload_n 1, 1) := by decide +kernel
theorem dX3_copyFrom_2 : decode cX3_copyFrom 2 = .ok (.getfield 18, 3) := by decide +kernel
theorem dX3_copyFrom_5 : decode cX3_copyFrom 5 = .ok (.putfield 18, 3) := by decide +kernel
theorem dX3_copyFrom_8 : decode cX3_copyFrom 8 = .ok (.aload_n 0, 1) := by decide +kernel
theorem dX3_copyFrom_9 : decode cX3_copyFrom 9 = .ok (.aload_n 1, 1) := by decide +kernel
theorem dX3_copyFrom_10 : decode cX3_copyFrom 10 = .ok (.getfield 22, 3) := by decide +kernel
theorem dX3_copyFrom_13 : decode cX3_copyFrom 13 = .ok (.putfield 22, 3) := by decide +kernel
theorem dX3_copyFrom_16 : decode cX3_copyFrom 16 = .ok (.iconst 0, 1) := by decide +kernel
theorem dX3_copyFrom_17 : decode cX3_copyFrom 17 = .ok (.istore_n 2, 1) := by decide +kernel
theorem dX3_copyFrom_18 : decode cX3_copyFrom 18 = .ok (.iload_n 2, 1) := by decide +kernel
theorem dX3_copyFrom_19 : decode cX3_copyFrom 19 = .ok (.aload_n 0, 1) := by decide +kernel
theorem dX3_copyFrom_20 : decode cX3_copyFrom 20 = .ok (.getfield 18, 3) := by decide +kernel
theorem dX3_copyFrom_23 : decode cX3_copyFrom 23 = .ok (.if_icmp .ge 24, 3) := by decide +kernel
theorem dX3_copyFrom_26 : decode cX3_copyFrom 26 = .ok (.aload_n 0, 1) := by decide +kernel
theorem dX3_copyFrom_27 : decode cX3_copyFrom 27 = .ok (.getfield 11, 3) := by decide +kernel
theorem dX3_copyFrom_30 : decode cX3_copyFrom 30 = .ok (.iload_n 2, 1) := by decide +kernel
theorem dX3_copyFrom_31 : decode cX3_copyFrom 31 = .ok (.aaload, 1) := by decide +kernel
theorem dX3_copyFrom_32 : decode cX3_copyFrom 32 = .ok (.aload_n 1, 1) := by decide +kernel
theorem dX3_copyFrom_33 : decode cX3_copyFrom 33 = .ok (.getfield 11, 3) := by decide +kernel
theorem dX3_copyFrom_36 : decode cX3_copyFrom 36 = .ok (.iload_n 2, 1) := by decide +kernel
theorem dX3_copyFrom_37 : decode cX3_copyFrom 37 = .ok (.aaload, 1) := by decide +kernel
theorem dX3_copyFrom_38 : decode cX3_copyFrom 38 = .ok (.invokevirtual 25, 3) := by decide +kernel
theorem dX3_copyFrom_41 : decode cX3_copyFrom 41 = .ok (.iinc 2 1, 3) := by decide +kernel
theorem dX3_copyFrom_44 : decode cX3_copyFrom 44 = .ok (.goto (-26), 3) := by decide +kernel
theorem dX3_copyFrom_47 : decode cX3_copyFrom 47 = .ok (.return_, 1) := by decide +kernel
theorem dX3_withNumber_0 : decode cX3_withNumber 0 = .ok (.iconst 0, 1) := by decide +kernel
theorem dX3_withNumber_1 : decode cX3_withNumber 1 = .ok (.istore_n 2, 1) := by decide +kernel
theorem dX3_withNumber_2 : decode cX3_withNumber 2 = .ok (.iload_n 2, 1) := by decide +kernel
theorem dX3_withNumber_3 : decode cX3_withNumber 3 = .ok (.aload_n 0, 1) := by decide +kernel
theorem dX3_withNumber_4 : decode cX3_withNumber 4 = .ok (.getfield 18, 3) := by decide +kernel
theorem dX3_withNumber_7 : decode cX3_withNumber 7 = .ok (.if_icmp .ge 29, 3) := by decide +kernel
theorem dX3_withNumber_10 : decode cX3_withNumber 10 = .ok (.aload_n 0, 1) := by decide +kernel
theorem dX3_withNumber_11 : decode cX3_withNumber 11 = .ok (.getfield 11, 3) := by decide +kernel
theorem dX3_withNumber_14 : decode cX3_withNumber 14 = .ok (.iload_n 2, 1) := by decide +kernel
theorem dX3_withNumber_15 : decode cX3_withNumber 15 = .ok (.aaload, 1) := by decide +kernel
theorem dX3_withNumber_16 : decode cX3_withNumber 16 = .ok (.getfield 29, 3) := by decide +kernel
theorem dX3_withNumber_19 : decode cX3_withNumber 19 = .ok (.iload_n 1, 1) := by decide +kernel
theorem dX3_withNumber_20 : decode cX3_withNumber 20 = .ok (.if_icmp .ne 10, 3) := by decide +kernel
theorem dX3_withNumber_23 : decode cX3_withNumber 23 = .ok (.aload_n 0, 1) := by decide +kernel
theorem dX3_withNumber_24 : decode cX3_withNumber 24 = .ok (.getfield 11, 3) := by decide +kernel
theorem dX3_withNumber_27 : decode cX3_withNumber 27 = .ok (.iload_n 2, 1) := by decide +kernel
theorem dX3_withNumber_28 : decode cX3_withNumber 28 = .ok (.aaload, 1) := by decide +kernel
theorem dX3_withNumber_29 : decode cX3_withNumber 29 = .ok (.areturn, 1) := by decide +kernel
theorem dX3_withNumber_30 : decode cX3_withNumber 30 = .ok (.iinc 2 1, 3) := by decide +kernel
theorem dX3_withNumber_33 : decode cX3_withNumber 33 = .ok (.goto (-31), 3) := by decide +kernel
theorem dX3_withNumber_36 : decode cX3_withNumber 36 = .ok (.aconst_null, 1) := by decide +kernel
theorem dX3_withNumber_37 : decode cX3_withNumber 37 = .ok (.areturn, 1) := by decide +kernel
theorem dX3_hasRoomFor_0 : decode cX3_hasRoomFor 0 = .ok (.aload_n 0, 1) := by decide +kernel
theorem dX3_hasRoomFor_1 : decode cX3_hasRoomFor 1 = .ok (.getfield 18, 3) := by decide +kernel
theorem dX3_hasRoomFor_4 : decode cX3_hasRoomFor 4 = .ok (.bipush 16, 2) := by decide +kernel
theorem dX3_hasRoomFor_6 : decode cX3_hasRoomFor 6 = .ok (.if_icmp .lt 12, 3) := by decide +kernel
theorem dX3_hasRoomFor_9 : decode cX3_hasRoomFor 9 = .ok (.aload_n 0, 1) := by decide +kernel
theorem dX3_hasRoomFor_10 : decode cX3_hasRoomFor 10 = .ok (.iload_n 1, 1) := by decide +kernel
theorem dX3_hasRoomFor_11 : decode cX3_hasRoomFor 11 = .ok (.iload_n 2, 1) := by decide +kernel
theorem dX3_hasRoomFor_12 : decode cX3_hasRoomFor 12 = .ok (.invokevirtual 32, 3) := by decide +kernel
theorem dX3_hasRoomFor_15 : decode cX3_hasRoomFor 15 = .ok (.ifCond .lt 7, 3) := by decide +kernel
theorem dX3_hasRoomFor_18 : decode cX3_hasRoomFor 18 = .ok (.iconst 1, 1) := by decide +kernel
theorem dX3_hasRoomFor_19 : decode cX3_hasRoomFor 19 = .ok (.goto 4, 3) := by decide +kernel
theorem dX3_hasRoomFor_22 : decode cX3_hasRoomFor 22 = .ok (.iconst 0, 1) := by decide +kernel
theorem dX3_hasRoomFor_23 : decode cX3_hasRoomFor 23 = .ok (.istore_n 3, 1) := by decide +kernel
theorem dX3_hasRoomFor_24 : decode cX3_hasRoomFor 24 = .ok (.iload_n 3, 1) := by decide +kernel
theorem dX3_hasRoomFor_25 : decode cX3_hasRoomFor 25 = .ok (.ifCond .eq 17, 3) := by decide +kernel
theorem dX3_hasRoomFor_28 : decode cX3_hasRoomFor 28 = .ok (.aload_n 0, 1) := by decide +kernel
theorem dX3_hasRoomFor_29 : decode cX3_hasRoomFor 29 = .ok (.getfield 22, 3) := by decide +kernel
theorem dX3_hasRoomFor_32 : decode cX3_hasRoomFor 32 = .ok (.sipush 200, 3) := by decide +kernel
theorem dX3_hasRoomFor_35 : decode cX3_hasRoomFor 35 = .ok (.if_icmp .ge 7, 3) := by decide +kernel
theorem dX3_hasRoomFor_38 : decode cX3_hasRoomFor 38 = .ok (.iconst 1, 1) := by decide +kernel
theorem dX3_hasRoomFor_39 : decode cX3_hasRoomFor 39 = .ok (.goto 4, 3) := by decide +kernel
theorem dX3_hasRoomFor_42 : decode cX3_hasRoomFor 42 = .ok (.iconst 0, 1) := by decide +kernel
theorem dX3_hasRoomFor_43 : decode cX3_hasRoomFor 43 = .ok (.ireturn, 1) := by decide +kernel
theorem dX3_handIn_0 : decode cX3_handIn 0 = .ok (.aload_n 0, 1) := by decide +kernel
theorem dX3_handIn_1 : decode cX3_handIn 1 = .ok (.iload_n 1, 1) := by decide +kernel
theorem dX3_handIn_2 : decode cX3_handIn 2 = .ok (.iload_n 2, 1) := by decide +kernel
theorem dX3_handIn_3 : decode cX3_handIn 3 = .ok (.invokevirtual 32, 3) := by decide +kernel
theorem dX3_handIn_6 : decode cX3_handIn 6 = .ok (.istore 4, 2) := by decide +kernel
theorem dX3_handIn_8 : decode cX3_handIn 8 = .ok (.iload 4, 2) := by decide +kernel
theorem dX3_handIn_10 : decode cX3_handIn 10 = .ok (.ifCond .lt 9, 3) := by decide +kernel
theorem dX3_handIn_13 : decode cX3_handIn 13 = .ok (.aload_n 0, 1) := by decide +kernel
theorem dX3_handIn_14 : decode cX3_handIn 14 = .ok (.iload 4, 2) := by decide +kernel
theorem dX3_handIn_16 : decode cX3_handIn 16 = .ok (.invokevirtual 36, 3) := by decide +kernel
theorem dX3_handIn_19 : decode cX3_handIn 19 = .ok (.aload_n 0, 1) := by decide +kernel
theorem dX3_handIn_20 : decode cX3_handIn 20 = .ok (.getfield 22, 3) := by decide +kernel
theorem dX3_handIn_23 : decode cX3_handIn 23 = .ok (.istore 5, 2) := by decide +kernel
theorem dX3_handIn_25 : decode cX3_handIn 25 = .ok (.aload_n 0, 1) := by decide +kernel
theorem dX3_handIn_26 : decode cX3_handIn 26 = .ok (.getfield 18, 3) := by decide +kernel
theorem dX3_handIn_29 : decode cX3_handIn 29 = .ok (.bipush 16, 2) := by decide +kernel
theorem dX3_handIn_31 : decode cX3_handIn 31 = .ok (.if_icmp .ge 40, 3) := by decide +kernel
theorem dX3_handIn_34 : decode cX3_handIn 34 = .ok (.aload_n 0, 1) := by decide +kernel
theorem dX3_handIn_35 : decode cX3_handIn 35 = .ok (.getfield 11, 3) := by decide +kernel
theorem dX3_handIn_38 : decode cX3_handIn 38 = .ok (.aload_n 0, 1) := by decide +kernel
theorem dX3_handIn_39 : decode cX3_handIn 39 = .ok (.getfield 18, 3) := by decide +kernel
theorem dX3_handIn_42 : decode cX3_handIn 42 = .ok (.aaload, 1) := by decide +kernel
theorem dX3_handIn_43 : decode cX3_handIn 43 = .ok (.iload 5, 2) := by decide +kernel
theorem dX3_handIn_45 : decode cX3_handIn 45 = .ok (.iload_n 1, 1) := by decide +kernel
theorem dX3_handIn_46 : decode cX3_handIn 46 = .ok (.iload_n 2, 1) := by decide +kernel
theorem dX3_handIn_47 : decode cX3_handIn 47 = .ok (.aload_n 3, 1) := by decide +kernel
theorem dX3_handIn_48 : decode cX3_handIn 48 = .ok (.invokevirtual 40, 3) := by decide +kernel
theorem dX3_handIn_51 : decode cX3_handIn 51 = .ok (.aload_n 0, 1) := by decide +kernel
theorem dX3_handIn_52 : decode cX3_handIn 52 = .ok (.dup, 1) := by decide +kernel
theorem dX3_handIn_53 : decode cX3_handIn 53 = .ok (.getfield 18, 3) := by decide +kernel
theorem dX3_handIn_56 : decode cX3_handIn 56 = .ok (.iconst 1, 1) := by decide +kernel
theorem dX3_handIn_57 : decode cX3_handIn 57 = .ok (.iadd, 1) := by decide +kernel
theorem dX3_handIn_58 : decode cX3_handIn 58 = .ok (.putfield 18, 3) := by decide +kernel
theorem dX3_handIn_61 : decode cX3_handIn 61 = .ok (.aload_n 0, 1) := by decide +kernel
theorem dX3_handIn_62 : decode cX3_handIn 62 = .ok (.dup, 1) := by decide +kernel
theorem dX3_handIn_63 : decode cX3_handIn 63 = .ok (.getfield 22, 3) := by decide +kernel
theorem dX3_handIn_66 : decode cX3_handIn 66 = .ok (.iconst 1, 1) := by decide +kernel
theorem dX3_handIn_67 : decode cX3_handIn 67 = .ok (.iadd, 1) := by decide +kernel
theorem dX3_handIn_68 : decode cX3_handIn 68 = .ok (.putfield 22, 3) := by decide +kernel
theorem dX3_handIn_71 : decode cX3_handIn 71 = .ok (.iload 5, 2) := by decide +kernel
theorem dX3_handIn_73 : decode cX3_handIn 73 = .ok (.ireturn, 1) := by decide +kernel
theorem dX3_indexBy_0 : decode cX3_indexBy 0 = .ok (.iconst 0, 1) := by decide +kernel
theorem dX3_indexBy_1 : decode cX3_indexBy 1 = .ok (.istore_n 3, 1) := by decide +kernel
theorem dX3_indexBy_2 : decode cX3_indexBy 2 = .ok (.iload_n 3, 1) := by decide +kernel
theorem dX3_indexBy_3 : decode cX3_indexBy 3 = .ok (.aload_n 0, 1) := by decide +kernel
theorem dX3_indexBy_4 : decode cX3_indexBy 4 = .ok (.getfield 18, 3) := by decide +kernel
theorem dX3_indexBy_7 : decode cX3_indexBy 7 = .ok (.if_icmp .ge 37, 3) := by decide +kernel
theorem dX3_indexBy_10 : decode cX3_indexBy 10 = .ok (.aload_n 0, 1) := by decide +kernel
theorem dX3_indexBy_11 : decode cX3_indexBy 11 = .ok (.getfield 11, 3) := by decide +kernel
theorem dX3_indexBy_14 : decode cX3_indexBy 14 = .ok (.iload_n 3, 1) := by decide +kernel
theorem dX3_indexBy_15 : decode cX3_indexBy 15 = .ok (.aaload, 1) := by decide +kernel
theorem dX3_indexBy_16 : decode cX3_indexBy 16 = .ok (.getfield 44, 3) := by decide +kernel
theorem dX3_indexBy_19 : decode cX3_indexBy 19 = .ok (.iload_n 1, 1) := by decide +kernel
theorem dX3_indexBy_20 : decode cX3_indexBy 20 = .ok (.if_icmp .ne 18, 3) := by decide +kernel
theorem dX3_indexBy_23 : decode cX3_indexBy 23 = .ok (.aload_n 0, 1) := by decide +kernel
theorem dX3_indexBy_24 : decode cX3_indexBy 24 = .ok (.getfield 11, 3) := by decide +kernel
theorem dX3_indexBy_27 : decode cX3_indexBy 27 = .ok (.iload_n 3, 1) := by decide +kernel
theorem dX3_indexBy_28 : decode cX3_indexBy 28 = .ok (.aaload, 1) := by decide +kernel
theorem dX3_indexBy_29 : decode cX3_indexBy 29 = .ok (.getfield 47, 3) := by decide +kernel
theorem dX3_indexBy_32 : decode cX3_indexBy 32 = .ok (.iload_n 2, 1) := by decide +kernel
theorem dX3_indexBy_33 : decode cX3_indexBy 33 = .ok (.if_icmp .ne 5, 3) := by decide +kernel
theorem dX3_indexBy_36 : decode cX3_indexBy 36 = .ok (.iload_n 3, 1) := by decide +kernel
theorem dX3_indexBy_37 : decode cX3_indexBy 37 = .ok (.ireturn, 1) := by decide +kernel
theorem dX3_indexBy_38 : decode cX3_indexBy 38 = .ok (.iinc 3 1, 3) := by decide +kernel
theorem dX3_indexBy_41 : decode cX3_indexBy 41 = .ok (.goto (-39), 3) := by decide +kernel
theorem dX3_indexBy_44 : decode cX3_indexBy 44 = .ok (.iconst (-1), 1) := by decide +kernel
theorem dX3_indexBy_45 : decode cX3_indexBy 45 = .ok (.ireturn, 1) := by decide +kernel
theorem dX3_removeAt_0 : decode cX3_removeAt 0 = .ok (.aload_n 0, 1) := by decide +kernel
theorem dX3_removeAt_1 : decode cX3_removeAt 1 = .ok (.getfield 11, 3) := by decide +kernel
theorem dX3_removeAt_4 : decode cX3_removeAt 4 = .ok (.iload_n 1, 1) := by decide +kernel
theorem dX3_removeAt_5 : decode cX3_removeAt 5 = .ok (.aaload, 1) := by decide +kernel
theorem dX3_removeAt_6 : decode cX3_removeAt 6 = .ok (.astore_n 2, 1) := by decide +kernel
theorem dX3_removeAt_7 : decode cX3_removeAt 7 = .ok (.iload_n 1, 1) := by decide +kernel
theorem dX3_removeAt_8 : decode cX3_removeAt 8 = .ok (.iconst 1, 1) := by decide +kernel
theorem dX3_removeAt_9 : decode cX3_removeAt 9 = .ok (.iadd, 1) := by decide +kernel
theorem dX3_removeAt_10 : decode cX3_removeAt 10 = .ok (.istore_n 3, 1) := by decide +kernel
theorem dX3_removeAt_11 : decode cX3_removeAt 11 = .ok (.iload_n 3, 1) := by decide +kernel
theorem dX3_removeAt_12 : decode cX3_removeAt 12 = .ok (.aload_n 0, 1) := by decide +kernel
theorem dX3_removeAt_13 : decode cX3_removeAt 13 = .ok (.getfield 18, 3) := by decide +kernel
theorem dX3_removeAt_16 : decode cX3_removeAt 16 = .ok (.if_icmp .ge 23, 3) := by decide +kernel
theorem dX3_removeAt_19 : decode cX3_removeAt 19 = .ok (.aload_n 0, 1) := by decide +kernel
theorem dX3_removeAt_20 : decode cX3_removeAt 20 = .ok (.getfield 11, 3) := by decide +kernel
theorem dX3_removeAt_23 : decode cX3_removeAt 23 = .ok (.iload_n 3, 1) := by decide +kernel
theorem dX3_removeAt_24 : decode cX3_removeAt 24 = .ok (.iconst 1, 1) := by decide +kernel
theorem dX3_removeAt_25 : decode cX3_removeAt 25 = .ok (.isub, 1) := by decide +kernel
theorem dX3_removeAt_26 : decode cX3_removeAt 26 = .ok (.aload_n 0, 1) := by decide +kernel
theorem dX3_removeAt_27 : decode cX3_removeAt 27 = .ok (.getfield 11, 3) := by decide +kernel
theorem dX3_removeAt_30 : decode cX3_removeAt 30 = .ok (.iload_n 3, 1) := by decide +kernel
theorem dX3_removeAt_31 : decode cX3_removeAt 31 = .ok (.aaload, 1) := by decide +kernel
theorem dX3_removeAt_32 : decode cX3_removeAt 32 = .ok (.aastore, 1) := by decide +kernel
theorem dX3_removeAt_33 : decode cX3_removeAt 33 = .ok (.iinc 3 1, 3) := by decide +kernel
theorem dX3_removeAt_36 : decode cX3_removeAt 36 = .ok (.goto (-25), 3) := by decide +kernel
theorem dX3_removeAt_39 : decode cX3_removeAt 39 = .ok (.aload_n 0, 1) := by decide +kernel
theorem dX3_removeAt_40 : decode cX3_removeAt 40 = .ok (.dup, 1) := by decide +kernel
theorem dX3_removeAt_41 : decode cX3_removeAt 41 = .ok (.getfield 18, 3) := by decide +kernel
theorem dX3_removeAt_44 : decode cX3_removeAt 44 = .ok (.iconst 1, 1) := by decide +kernel
theorem dX3_removeAt_45 : decode cX3_removeAt 45 = .ok (.isub, 1) := by decide +kernel
theorem dX3_removeAt_46 : decode cX3_removeAt 46 = .ok (.putfield 18, 3) := by decide +kernel
theorem dX3_removeAt_49 : decode cX3_removeAt 49 = .ok (.aload_n 0, 1) := by decide +kernel
theorem dX3_removeAt_50 : decode cX3_removeAt 50 = .ok (.getfield 11, 3) := by decide +kernel
theorem dX3_removeAt_53 : decode cX3_removeAt 53 = .ok (.aload_n 0, 1) := by decide +kernel
theorem dX3_removeAt_54 : decode cX3_removeAt 54 = .ok (.getfield 18, 3) := by decide +kernel
theorem dX3_removeAt_57 : decode cX3_removeAt 57 = .ok (.aload_n 2, 1) := by decide +kernel
theorem dX3_removeAt_58 : decode cX3_removeAt 58 = .ok (.aastore, 1) := by decide +kernel
theorem dX3_removeAt_59 : decode cX3_removeAt 59 = .ok (.return_, 1) := by decide +kernel
theorem dX3_remove_0 : decode cX3_remove 0 = .ok (.iconst 0, 1) := by decide +kernel
theorem dX3_remove_1 : decode cX3_remove 1 = .ok (.istore_n 2, 1) := by decide +kernel
theorem dX3_remove_2 : decode cX3_remove 2 = .ok (.iload_n 2, 1) := by decide +kernel
theorem dX3_remove_3 : decode cX3_remove 3 = .ok (.aload_n 0, 1) := by decide +kernel
theorem dX3_remove_4 : decode cX3_remove 4 = .ok (.getfield 18, 3) := by decide +kernel
theorem dX3_remove_7 : decode cX3_remove 7 = .ok (.if_icmp .ge 25, 3) := by decide +kernel
theorem dX3_remove_10 : decode cX3_remove 10 = .ok (.aload_n 0, 1) := by decide +kernel
theorem dX3_remove_11 : decode cX3_remove 11 = .ok (.getfield 11, 3) := by decide +kernel
theorem dX3_remove_14 : decode cX3_remove 14 = .ok (.iload_n 2, 1) := by decide +kernel
theorem dX3_remove_15 : decode cX3_remove 15 = .ok (.aaload, 1) := by decide +kernel
theorem dX3_remove_16 : decode cX3_remove 16 = .ok (.aload_n 1, 1) := by decide +kernel
theorem dX3_remove_17 : decode cX3_remove 17 = .ok (.if_acmp .ne 9, 3) := by decide +kernel
theorem dX3_remove_20 : decode cX3_remove 20 = .ok (.aload_n 0, 1) := by decide +kernel
theorem dX3_remove_21 : decode cX3_remove 21 = .ok (.iload_n 2, 1) := by decide +kernel
theorem dX3_remove_22 : decode cX3_remove 22 = .ok (.invokevirtual 36, 3) := by decide +kernel
theorem dX3_remove_25 : decode cX3_remove 25 = .ok (.return_, 1) := by decide +kernel
theorem dX3_remove_26 : decode cX3_remove 26 = .ok (.iinc 2 1, 3) := by decide +kernel
theorem dX3_remove_29 : decode cX3_remove 29 = .ok (.goto (-27), 3) := by decide +kernel
theorem dX3_remove_32 : decode cX3_remove 32 = .ok (.return_, 1) := by decide +kernel
theorem dX3_takeVoteBack_0 : decode cX3_takeVoteBack 0 = .ok (.iconst 0, 1) := by decide +kernel
theorem dX3_takeVoteBack_1 : decode cX3_takeVoteBack 1 = .ok (.istore_n 3, 1) := by decide +kernel
theorem dX3_takeVoteBack_2 : decode cX3_takeVoteBack 2 = .ok (.iload_n 3, 1) := by decide +kernel
theorem dX3_takeVoteBack_3 : decode cX3_takeVoteBack 3 = .ok (.aload_n 0, 1) := by decide +kernel
theorem dX3_takeVoteBack_4 : decode cX3_takeVoteBack 4 = .ok (.getfield 18, 3) := by decide +kernel
theorem dX3_takeVoteBack_7 : decode cX3_takeVoteBack 7 = .ok (.if_icmp .ge 41, 3) := by decide +kernel
theorem dX3_takeVoteBack_10 : decode cX3_takeVoteBack 10 = .ok (.aload_n 0, 1) := by decide +kernel
theorem dX3_takeVoteBack_11 : decode cX3_takeVoteBack 11 = .ok (.getfield 11, 3) := by decide +kernel
theorem dX3_takeVoteBack_14 : decode cX3_takeVoteBack 14 = .ok (.iload_n 3, 1) := by decide +kernel
theorem dX3_takeVoteBack_15 : decode cX3_takeVoteBack 15 = .ok (.aaload, 1) := by decide +kernel
theorem dX3_takeVoteBack_16 : decode cX3_takeVoteBack 16 = .ok (.getfield 47, 3) := by decide +kernel
theorem dX3_takeVoteBack_19 : decode cX3_takeVoteBack 19 = .ok (.iload_n 2, 1) := by decide +kernel
theorem dX3_takeVoteBack_20 : decode cX3_takeVoteBack 20 = .ok (.if_icmp .ne 22, 3) := by decide +kernel
theorem dX3_takeVoteBack_23 : decode cX3_takeVoteBack 23 = .ok (.aload_n 0, 1) := by decide +kernel
theorem dX3_takeVoteBack_24 : decode cX3_takeVoteBack 24 = .ok (.getfield 11, 3) := by decide +kernel
theorem dX3_takeVoteBack_27 : decode cX3_takeVoteBack 27 = .ok (.iload_n 3, 1) := by decide +kernel
theorem dX3_takeVoteBack_28 : decode cX3_takeVoteBack 28 = .ok (.aaload, 1) := by decide +kernel
theorem dX3_takeVoteBack_29 : decode cX3_takeVoteBack 29 = .ok (.dup, 1) := by decide +kernel
theorem dX3_takeVoteBack_30 : decode cX3_takeVoteBack 30 = .ok (.getfield 50, 3) := by decide +kernel
theorem dX3_takeVoteBack_33 : decode cX3_takeVoteBack 33 = .ok (.iconst 1, 1) := by decide +kernel
theorem dX3_takeVoteBack_34 : decode cX3_takeVoteBack 34 = .ok (.iload_n 1, 1) := by decide +kernel
theorem dX3_takeVoteBack_35 : decode cX3_takeVoteBack 35 = .ok (.ishl, 1) := by decide +kernel
theorem dX3_takeVoteBack_36 : decode cX3_takeVoteBack 36 = .ok (.iconst (-1), 1) := by decide +kernel
theorem dX3_takeVoteBack_37 : decode cX3_takeVoteBack 37 = .ok (.ixor, 1) := by decide +kernel
theorem dX3_takeVoteBack_38 : decode cX3_takeVoteBack 38 = .ok (.iand, 1) := by decide +kernel
theorem dX3_takeVoteBack_39 : decode cX3_takeVoteBack 39 = .ok (.putfield 50, 3) := by decide +kernel
theorem dX3_takeVoteBack_42 : decode cX3_takeVoteBack 42 = .ok (.iinc 3 1, 3) := by decide +kernel
theorem dX3_takeVoteBack_45 : decode cX3_takeVoteBack 45 = .ok (.goto (-43), 3) := by decide +kernel
theorem dX3_takeVoteBack_48 : decode cX3_takeVoteBack 48 = .ok (.return_, 1) := by decide +kernel
theorem dX3_bestFor_0 : decode cX3_bestFor 0 = .ok (.aconst_null, 1) := by decide +kernel
theorem dX3_bestFor_1 : decode cX3_bestFor 1 = .ok (.astore 4, 2) := by decide +kernel
theorem dX3_bestFor_3 : decode cX3_bestFor 3 = .ok (.iconst 0, 1) := by decide +kernel
theorem dX3_bestFor_4 : decode cX3_bestFor 4 = .ok (.istore 5, 2) := by decide +kernel
theorem dX3_bestFor_6 : decode cX3_bestFor 6 = .ok (.iload 5, 2) := by decide +kernel
theorem dX3_bestFor_8 : decode cX3_bestFor 8 = .ok (.aload_n 0, 1) := by decide +kernel
theorem dX3_bestFor_9 : decode cX3_bestFor 9 = .ok (.getfield 18, 3) := by decide +kernel
theorem dX3_bestFor_12 : decode cX3_bestFor 12 = .ok (.if_icmp .ge 79, 3) := by decide +kernel
theorem dX3_bestFor_15 : decode cX3_bestFor 15 = .ok (.aload_n 0, 1) := by decide +kernel
theorem dX3_bestFor_16 : decode cX3_bestFor 16 = .ok (.getfield 11, 3) := by decide +kernel
theorem dX3_bestFor_19 : decode cX3_bestFor 19 = .ok (.iload 5, 2) := by decide +kernel
theorem dX3_bestFor_21 : decode cX3_bestFor 21 = .ok (.aaload, 1) := by decide +kernel
theorem dX3_bestFor_22 : decode cX3_bestFor 22 = .ok (.astore 6, 2) := by decide +kernel
theorem dX3_bestFor_24 : decode cX3_bestFor 24 = .ok (.aload 6, 2) := by decide +kernel
theorem dX3_bestFor_26 : decode cX3_bestFor 26 = .ok (.getfield 47, 3) := by decide +kernel
theorem dX3_bestFor_29 : decode cX3_bestFor 29 = .ok (.iload_n 1, 1) := by decide +kernel
theorem dX3_bestFor_30 : decode cX3_bestFor 30 = .ok (.if_icmp .ne 28, 3) := by decide +kernel
theorem dX3_bestFor_33 : decode cX3_bestFor 33 = .ok (.aload 6, 2) := by decide +kernel
theorem dX3_bestFor_35 : decode cX3_bestFor 35 = .ok (.invokevirtual 53, 3) := by decide +kernel
theorem dX3_bestFor_38 : decode cX3_bestFor 38 = .ok (.iload_n 2, 1) := by decide +kernel
theorem dX3_bestFor_39 : decode cX3_bestFor 39 = .ok (.if_icmp .lt 19, 3) := by decide +kernel
theorem dX3_bestFor_42 : decode cX3_bestFor 42 = .ok (.aload 6, 2) := by decide +kernel
theorem dX3_bestFor_44 : decode cX3_bestFor 44 = .ok (.getfield 57, 3) := by decide +kernel
theorem dX3_bestFor_47 : decode cX3_bestFor 47 = .ok (.getfield 61, 3) := by decide +kernel
theorem dX3_bestFor_50 : decode cX3_bestFor 50 = .ok (.iload_n 3, 1) := by decide +kernel
theorem dX3_bestFor_51 : decode cX3_bestFor 51 = .ok (.if_icmp .gt 7, 3) := by decide +kernel
theorem dX3_bestFor_54 : decode cX3_bestFor 54 = .ok (.iconst 1, 1) := by decide +kernel
theorem dX3_bestFor_55 : decode cX3_bestFor 55 = .ok (.goto 4, 3) := by decide +kernel
theorem dX3_bestFor_58 : decode cX3_bestFor 58 = .ok (.iconst 0, 1) := by decide +kernel
theorem dX3_bestFor_59 : decode cX3_bestFor 59 = .ok (.istore 7, 2) := by decide +kernel
theorem dX3_bestFor_61 : decode cX3_bestFor 61 = .ok (.iload 7, 2) := by decide +kernel
theorem dX3_bestFor_63 : decode cX3_bestFor 63 = .ok (.ifCond .eq 22, 3) := by decide +kernel
theorem dX3_bestFor_66 : decode cX3_bestFor 66 = .ok (.aload 4, 2) := by decide +kernel
theorem dX3_bestFor_68 : decode cX3_bestFor 68 = .ok (.ifnull 13, 3) := by decide +kernel
theorem dX3_bestFor_71 : decode cX3_bestFor 71 = .ok (.aload 6, 2) := by decide +kernel
theorem dX3_bestFor_73 : decode cX3_bestFor 73 = .ok (.aload 4, 2) := by decide +kernel
theorem dX3_bestFor_75 : decode cX3_bestFor 75 = .ok (.invokevirtual 64, 3) := by decide +kernel
theorem dX3_bestFor_78 : decode cX3_bestFor 78 = .ok (.ifCond .eq 7, 3) := by decide +kernel
theorem dX3_bestFor_81 : decode cX3_bestFor 81 = .ok (.aload 6, 2) := by decide +kernel
theorem dX3_bestFor_83 : decode cX3_bestFor 83 = .ok (.astore 4, 2) := by decide +kernel
theorem dX3_bestFor_85 : decode cX3_bestFor 85 = .ok (.iinc 5 1, 3) := by decide +kernel
theorem dX3_bestFor_88 : decode cX3_bestFor 88 = .ok (.goto (-82), 3) := by decide +kernel
theorem dX3_bestFor_91 : decode cX3_bestFor 91 = .ok (.aload 4, 2) := by decide +kernel
theorem dX3_bestFor_93 : decode cX3_bestFor 93 = .ok (.areturn, 1) := by decide +kernel
theorem dX3_atRank_0 : decode cX3_atRank 0 = .ok (.iconst 0, 1) := by decide +kernel
theorem dX3_atRank_1 : decode cX3_atRank 1 = .ok (.istore_n 3, 1) := by decide +kernel
theorem dX3_atRank_2 : decode cX3_atRank 2 = .ok (.iload_n 3, 1) := by decide +kernel
theorem dX3_atRank_3 : decode cX3_atRank 3 = .ok (.aload_n 0, 1) := by decide +kernel
theorem dX3_atRank_4 : decode cX3_atRank 4 = .ok (.getfield 18, 3) := by decide +kernel
theorem dX3_atRank_7 : decode cX3_atRank 7 = .ok (.if_icmp .ge 43, 3) := by decide +kernel
theorem dX3_atRank_10 : decode cX3_atRank 10 = .ok (.aload_n 0, 1) := by decide +kernel
theorem dX3_atRank_11 : decode cX3_atRank 11 = .ok (.getfield 11, 3) := by decide +kernel
theorem dX3_atRank_14 : decode cX3_atRank 14 = .ok (.iload_n 3, 1) := by decide +kernel
theorem dX3_atRank_15 : decode cX3_atRank 15 = .ok (.aaload, 1) := by decide +kernel
theorem dX3_atRank_16 : decode cX3_atRank 16 = .ok (.getfield 47, 3) := by decide +kernel
theorem dX3_atRank_19 : decode cX3_atRank 19 = .ok (.iload_n 1, 1) := by decide +kernel
theorem dX3_atRank_20 : decode cX3_atRank 20 = .ok (.if_icmp .ne 24, 3) := by decide +kernel
theorem dX3_atRank_23 : decode cX3_atRank 23 = .ok (.aload_n 0, 1) := by decide +kernel
theorem dX3_atRank_24 : decode cX3_atRank 24 = .ok (.aload_n 0, 1) := by decide +kernel
theorem dX3_atRank_25 : decode cX3_atRank 25 = .ok (.getfield 11, 3) := by decide +kernel
theorem dX3_atRank_28 : decode cX3_atRank 28 = .ok (.iload_n 3, 1) := by decide +kernel
theorem dX3_atRank_29 : decode cX3_atRank 29 = .ok (.aaload, 1) := by decide +kernel
theorem dX3_atRank_30 : decode cX3_atRank 30 = .ok (.invokevirtual 68, 3) := by decide +kernel
theorem dX3_atRank_33 : decode cX3_atRank 33 = .ok (.iload_n 2, 1) := by decide +kernel
theorem dX3_atRank_34 : decode cX3_atRank 34 = .ok (.if_icmp .ne 10, 3) := by decide +kernel
theorem dX3_atRank_37 : decode cX3_atRank 37 = .ok (.aload_n 0, 1) := by decide +kernel
theorem dX3_atRank_38 : decode cX3_atRank 38 = .ok (.getfield 11, 3) := by decide +kernel
theorem dX3_atRank_41 : decode cX3_atRank 41 = .ok (.iload_n 3, 1) := by decide +kernel
theorem dX3_atRank_42 : decode cX3_atRank 42 = .ok (.aaload, 1) := by decide +kernel
theorem dX3_atRank_43 : decode cX3_atRank 43 = .ok (.areturn, 1) := by decide +kernel
theorem dX3_atRank_44 : decode cX3_atRank 44 = .ok (.iinc 3 1, 3) := by decide +kernel
theorem dX3_atRank_47 : decode cX3_atRank 47 = .ok (.goto (-45), 3) := by decide +kernel
theorem dX3_atRank_50 : decode cX3_atRank 50 = .ok (.aconst_null, 1) := by decide +kernel
theorem dX3_atRank_51 : decode cX3_atRank 51 = .ok (.areturn, 1) := by decide +kernel
theorem dX3_aheadOf_0 : decode cX3_aheadOf 0 = .ok (.iconst 0, 1) := by decide +kernel
theorem dX3_aheadOf_1 : decode cX3_aheadOf 1 = .ok (.istore_n 2, 1) := by decide +kernel
theorem dX3_aheadOf_2 : decode cX3_aheadOf 2 = .ok (.iconst 0, 1) := by decide +kernel
theorem dX3_aheadOf_3 : decode cX3_aheadOf 3 = .ok (.istore_n 3, 1) := by decide +kernel
theorem dX3_aheadOf_4 : decode cX3_aheadOf 4 = .ok (.iload_n 3, 1) := by decide +kernel
theorem dX3_aheadOf_5 : decode cX3_aheadOf 5 = .ok (.aload_n 0, 1) := by decide +kernel
theorem dX3_aheadOf_6 : decode cX3_aheadOf 6 = .ok (.getfield 18, 3) := by decide +kernel
theorem dX3_aheadOf_9 : decode cX3_aheadOf 9 = .ok (.if_icmp .ge 41, 3) := by decide +kernel
theorem dX3_aheadOf_12 : decode cX3_aheadOf 12 = .ok (.aload_n 0, 1) := by decide +kernel
theorem dX3_aheadOf_13 : decode cX3_aheadOf 13 = .ok (.getfield 11, 3) := by decide +kernel
theorem dX3_aheadOf_16 : decode cX3_aheadOf 16 = .ok (.iload_n 3, 1) := by decide +kernel
theorem dX3_aheadOf_17 : decode cX3_aheadOf 17 = .ok (.aaload, 1) := by decide +kernel
theorem dX3_aheadOf_18 : decode cX3_aheadOf 18 = .ok (.getfield 47, 3) := by decide +kernel
theorem dX3_aheadOf_21 : decode cX3_aheadOf 21 = .ok (.aload_n 1, 1) := by decide +kernel
theorem dX3_aheadOf_22 : decode cX3_aheadOf 22 = .ok (.getfield 47, 3) := by decide +kernel
theorem dX3_aheadOf_25 : decode cX3_aheadOf 25 = .ok (.if_icmp .ne 19, 3) := by decide +kernel
theorem dX3_aheadOf_28 : decode cX3_aheadOf 28 = .ok (.aload_n 0, 1) := by decide +kernel
theorem dX3_aheadOf_29 : decode cX3_aheadOf 29 = .ok (.getfield 11, 3) := by decide +kernel
theorem dX3_aheadOf_32 : decode cX3_aheadOf 32 = .ok (.iload_n 3, 1) := by decide +kernel
theorem dX3_aheadOf_33 : decode cX3_aheadOf 33 = .ok (.aaload, 1) := by decide +kernel
theorem dX3_aheadOf_34 : decode cX3_aheadOf 34 = .ok (.aload_n 1, 1) := by decide +kernel
theorem dX3_aheadOf_35 : decode cX3_aheadOf 35 = .ok (.invokevirtual 72, 3) := by decide +kernel
theorem dX3_aheadOf_38 : decode cX3_aheadOf 38 = .ok (.ifCond .eq 6, 3) := by decide +kernel
theorem dX3_aheadOf_41 : decode cX3_aheadOf 41 = .ok (.iinc 2 1, 3) := by decide +kernel
theorem dX3_aheadOf_44 : decode cX3_aheadOf 44 = .ok (.iinc 3 1, 3) := by decide +kernel
theorem dX3_aheadOf_47 : decode cX3_aheadOf 47 = .ok (.goto (-43), 3) := by decide +kernel
theorem dX3_aheadOf_50 : decode cX3_aheadOf 50 = .ok (.iload_n 2, 1) := by decide +kernel
theorem dX3_aheadOf_51 : decode cX3_aheadOf 51 = .ok (.ireturn, 1) := by decide +kernel
theorem dX3_growOlder_0 : decode cX3_growOlder 0 = .ok (.iconst 0, 1) := by decide +kernel
theorem dX3_growOlder_1 : decode cX3_growOlder 1 = .ok (.istore_n 1, 1) := by decide +kernel
theorem dX3_growOlder_2 : decode cX3_growOlder 2 = .ok (.aload_n 0, 1) := by decide +kernel
theorem dX3_growOlder_3 : decode cX3_growOlder 3 = .ok (.getfield 18, 3) := by decide +kernel
theorem dX3_growOlder_6 : decode cX3_growOlder 6 = .ok (.iconst 1, 1) := by decide +kernel
theorem dX3_growOlder_7 : decode cX3_growOlder 7 = .ok (.isub, 1) := by decide +kernel
theorem dX3_growOlder_8 : decode cX3_growOlder 8 = .ok (.istore_n 2, 1) := by decide +kernel
theorem dX3_growOlder_9 : decode cX3_growOlder 9 = .ok (.iload_n 2, 1) := by decide +kernel
theorem dX3_growOlder_10 : decode cX3_growOlder 10 = .ok (.ifCond .lt 45, 3) := by decide +kernel
theorem dX3_growOlder_13 : decode cX3_growOlder 13 = .ok (.aload_n 0, 1) := by decide +kernel
theorem dX3_growOlder_14 : decode cX3_growOlder 14 = .ok (.getfield 11, 3) := by decide +kernel
theorem dX3_growOlder_17 : decode cX3_growOlder 17 = .ok (.iload_n 2, 1) := by decide +kernel
theorem dX3_growOlder_18 : decode cX3_growOlder 18 = .ok (.aaload, 1) := by decide +kernel
theorem dX3_growOlder_19 : decode cX3_growOlder 19 = .ok (.dup, 1) := by decide +kernel
theorem dX3_growOlder_20 : decode cX3_growOlder 20 = .ok (.getfield 75, 3) := by decide +kernel
theorem dX3_growOlder_23 : decode cX3_growOlder 23 = .ok (.iconst 1, 1) := by decide +kernel
theorem dX3_growOlder_24 : decode cX3_growOlder 24 = .ok (.iadd, 1) := by decide +kernel
theorem dX3_growOlder_25 : decode cX3_growOlder 25 = .ok (.putfield 75, 3) := by decide +kernel
theorem dX3_growOlder_28 : decode cX3_growOlder 28 = .ok (.aload_n 0, 1) := by decide +kernel
theorem dX3_growOlder_29 : decode cX3_growOlder 29 = .ok (.getfield 11, 3) := by decide +kernel
theorem dX3_growOlder_32 : decode cX3_growOlder 32 = .ok (.iload_n 2, 1) := by decide +kernel
theorem dX3_growOlder_33 : decode cX3_growOlder 33 = .ok (.aaload, 1) := by decide +kernel
theorem dX3_growOlder_34 : decode cX3_growOlder 34 = .ok (.getfield 75, 3) := by decide +kernel
theorem dX3_growOlder_37 : decode cX3_growOlder 37 = .ok (.iconst 3, 1) := by decide +kernel
theorem dX3_growOlder_38 : decode cX3_growOlder 38 = .ok (.if_icmp .lt 11, 3) := by decide +kernel
theorem dX3_growOlder_41 : decode cX3_growOlder 41 = .ok (.aload_n 0, 1) := by decide +kernel
theorem dX3_growOlder_42 : decode cX3_growOlder 42 = .ok (.iload_n 2, 1) := by decide +kernel
theorem dX3_growOlder_43 : decode cX3_growOlder 43 = .ok (.invokevirtual 36, 3) := by decide +kernel
theorem dX3_growOlder_46 : decode cX3_growOlder 46 = .ok (.iinc 1 1, 3) := by decide +kernel
theorem dX3_growOlder_49 : decode cX3_growOlder 49 = .ok (.iinc 2 (-1), 3) := by decide +kernel
theorem dX3_growOlder_52 : decode cX3_growOlder 52 = .ok (.goto (-43), 3) := by decide +kernel
theorem dX3_growOlder_55 : decode cX3_growOlder 55 = .ok (.iload_n 1, 1) := by decide +kernel
theorem dX3_growOlder_56 : decode cX3_growOlder 56 = .ok (.ireturn, 1) := by decide +kernel
theorem dX3_handedInBy_0 : decode cX3_handedInBy 0 = .ok (.iconst 0, 1) := by decide +kernel
theorem dX3_handedInBy_1 : decode cX3_handedInBy 1 = .ok (.istore_n 2, 1) := by decide +kernel
theorem dX3_handedInBy_2 : decode cX3_handedInBy 2 = .ok (.iconst 0, 1) := by decide +kernel
theorem dX3_handedInBy_3 : decode cX3_handedInBy 3 = .ok (.istore_n 3, 1) := by decide +kernel
theorem dX3_handedInBy_4 : decode cX3_handedInBy 4 = .ok (.iload_n 3, 1) := by decide +kernel
theorem dX3_handedInBy_5 : decode cX3_handedInBy 5 = .ok (.aload_n 0, 1) := by decide +kernel
theorem dX3_handedInBy_6 : decode cX3_handedInBy 6 = .ok (.getfield 18, 3) := by decide +kernel
theorem dX3_handedInBy_9 : decode cX3_handedInBy 9 = .ok (.if_icmp .ge 25, 3) := by decide +kernel
theorem dX3_handedInBy_12 : decode cX3_handedInBy 12 = .ok (.aload_n 0, 1) := by decide +kernel
theorem dX3_handedInBy_13 : decode cX3_handedInBy 13 = .ok (.getfield 11, 3) := by decide +kernel
theorem dX3_handedInBy_16 : decode cX3_handedInBy 16 = .ok (.iload_n 3, 1) := by decide +kernel
theorem dX3_handedInBy_17 : decode cX3_handedInBy 17 = .ok (.aaload, 1) := by decide +kernel
theorem dX3_handedInBy_18 : decode cX3_handedInBy 18 = .ok (.getfield 44, 3) := by decide +kernel
theorem dX3_handedInBy_21 : decode cX3_handedInBy 21 = .ok (.iload_n 1, 1) := by decide +kernel
theorem dX3_handedInBy_22 : decode cX3_handedInBy 22 = .ok (.if_icmp .ne 6, 3) := by decide +kernel
theorem dX3_handedInBy_25 : decode cX3_handedInBy 25 = .ok (.iinc 2 1, 3) := by decide +kernel
theorem dX3_handedInBy_28 : decode cX3_handedInBy 28 = .ok (.iinc 3 1, 3) := by decide +kernel
theorem dX3_handedInBy_31 : decode cX3_handedInBy 31 = .ok (.goto (-27), 3) := by decide +kernel
theorem dX3_handedInBy_34 : decode cX3_handedInBy 34 = .ok (.iload_n 2, 1) := by decide +kernel
theorem dX3_handedInBy_35 : decode cX3_handedInBy 35 = .ok (.ireturn, 1) := by decide +kernel
theorem dX3_votesOf_0 : decode cX3_votesOf 0 = .ok (.iconst 0, 1) := by decide +kernel
theorem dX3_votesOf_1 : decode cX3_votesOf 1 = .ok (.istore_n 2, 1) := by decide +kernel
theorem dX3_votesOf_2 : decode cX3_votesOf 2 = .ok (.iconst 0, 1) := by decide +kernel
theorem dX3_votesOf_3 : decode cX3_votesOf 3 = .ok (.istore_n 3, 1) := by decide +kernel
theorem dX3_votesOf_4 : decode cX3_votesOf 4 = .ok (.iload_n 3, 1) := by decide +kernel
theorem dX3_votesOf_5 : decode cX3_votesOf 5 = .ok (.aload_n 0, 1) := by decide +kernel
theorem dX3_votesOf_6 : decode cX3_votesOf 6 = .ok (.getfield 18, 3) := by decide +kernel
theorem dX3_votesOf_9 : decode cX3_votesOf 9 = .ok (.if_icmp .ge 25, 3) := by decide +kernel
theorem dX3_votesOf_12 : decode cX3_votesOf 12 = .ok (.aload_n 0, 1) := by decide +kernel
theorem dX3_votesOf_13 : decode cX3_votesOf 13 = .ok (.getfield 11, 3) := by decide +kernel
theorem dX3_votesOf_16 : decode cX3_votesOf 16 = .ok (.iload_n 3, 1) := by decide +kernel
theorem dX3_votesOf_17 : decode cX3_votesOf 17 = .ok (.aaload, 1) := by decide +kernel
theorem dX3_votesOf_18 : decode cX3_votesOf 18 = .ok (.iload_n 1, 1) := by decide +kernel
theorem dX3_votesOf_19 : decode cX3_votesOf 19 = .ok (.invokevirtual 78, 3) := by decide +kernel
theorem dX3_votesOf_22 : decode cX3_votesOf 22 = .ok (.ifCond .eq 6, 3) := by decide +kernel
theorem dX3_votesOf_25 : decode cX3_votesOf 25 = .ok (.iinc 2 1, 3) := by decide +kernel
theorem dX3_votesOf_28 : decode cX3_votesOf 28 = .ok (.iinc 3 1, 3) := by decide +kernel
theorem dX3_votesOf_31 : decode cX3_votesOf 31 = .ok (.goto (-27), 3) := by decide +kernel
theorem dX3_votesOf_34 : decode cX3_votesOf 34 = .ok (.iload_n 2, 1) := by decide +kernel
theorem dX3_votesOf_35 : decode cX3_votesOf 35 = .ok (.ireturn, 1) := by decide +kernel
theorem dX3_allVotes_0 : decode cX3_allVotes 0 = .ok (.iconst 0, 1) := by decide +kernel
theorem dX3_allVotes_1 : decode cX3_allVotes 1 = .ok (.istore_n 1, 1) := by decide +kernel
theorem dX3_allVotes_2 : decode cX3_allVotes 2 = .ok (.iconst 0, 1) := by decide +kernel
theorem dX3_allVotes_3 : decode cX3_allVotes 3 = .ok (.istore_n 2, 1) := by decide +kernel
theorem dX3_allVotes_4 : decode cX3_allVotes 4 = .ok (.iload_n 2, 1) := by decide +kernel
theorem dX3_allVotes_5 : decode cX3_allVotes 5 = .ok (.aload_n 0, 1) := by decide +kernel
theorem dX3_allVotes_6 : decode cX3_allVotes 6 = .ok (.getfield 18, 3) := by decide +kernel
theorem dX3_allVotes_9 : decode cX3_allVotes 9 = .ok (.if_icmp .ge 21, 3) := by decide +kernel
theorem dX3_allVotes_12 : decode cX3_allVotes 12 = .ok (.iload_n 1, 1) := by decide +kernel
theorem dX3_allVotes_13 : decode cX3_allVotes 13 = .ok (.aload_n 0, 1) := by decide +kernel
theorem dX3_allVotes_14 : decode cX3_allVotes 14 = .ok (.getfield 11, 3) := by decide +kernel
theorem dX3_allVotes_17 : decode cX3_allVotes 17 = .ok (.iload_n 2, 1) := by decide +kernel
theorem dX3_allVotes_18 : decode cX3_allVotes 18 = .ok (.aaload, 1) := by decide +kernel
theorem dX3_allVotes_19 : decode cX3_allVotes 19 = .ok (.invokevirtual 53, 3) := by decide +kernel
theorem dX3_allVotes_22 : decode cX3_allVotes 22 = .ok (.iadd, 1) := by decide +kernel
theorem dX3_allVotes_23 : decode cX3_allVotes 23 = .ok (.istore_n 1, 1) := by decide +kernel
theorem dX3_allVotes_24 : decode cX3_allVotes 24 = .ok (.iinc 2 1, 3) := by decide +kernel
theorem dX3_allVotes_27 : decode cX3_allVotes 27 = .ok (.goto (-23), 3) := by decide +kernel
theorem dX3_allVotes_30 : decode cX3_allVotes 30 = .ok (.iload_n 1, 1) := by decide +kernel
theorem dX3_allVotes_31 : decode cX3_allVotes 31 = .ok (.ireturn, 1) := by decide +kernel
theorem dX4_init_0 : decode cX4_init 0 = .ok (.aload_n 0, 1) := by decide +kernel
theorem dX4_init_1 : decode cX4_init 1 = .ok (.invokespecial 3, 3) := by decide +kernel
theorem dX4_init_4 : decode cX4_init 4 = .ok (.aload_n 0, 1) := by decide +kernel
theorem dX4_init_5 : decode cX4_init 5 = .ok (.iconst 4, 1) := by decide +kernel
theorem dX4_init_6 : decode cX4_init 6 = .ok (.newarray .int, 2) := by decide +kernel
theorem dX4_init_8 : decode cX4_init 8 = .ok (.putfield 9, 3) := by decide +kernel
theorem dX4_init_11 : decode cX4_init 11 = .ok (.aload_n 0, 1) := by decide +kernel
theorem dX4_init_12 : decode cX4_init 12 = .ok (.iconst 4, 1) := by decide +kernel
theorem dX4_init_13 : decode cX4_init 13 = .ok (.newarray .int, 2) := by decide +kernel
theorem dX4_init_15 : decode cX4_init 15 = .ok (.putfield 15, 3) := by decide +kernel
theorem dX4_init_18 : decode cX4_init 18 = .ok (.aload_n 0, 1) := by decide +kernel
theorem dX4_init_19 : decode cX4_init 19 = .ok (.bipush 8, 2) := by decide +kernel
theorem dX4_init_21 : decode cX4_init 21 = .ok (.newarray .int, 2) := by decide +kernel
theorem dX4_init_23 : decode cX4_init 23 = .ok (.putfield 18, 3) := by decide +kernel
theorem dX4_init_26 : decode cX4_init 26 = .ok (.aload_n 0, 1) := by decide +kernel
theorem dX4_init_27 : decode cX4_init 27 = .ok (.bipush 10, 2) := by decide +kernel
theorem dX4_init_29 : decode cX4_init 29 = .ok (.newarray .int, 2) := by decide +kernel
theorem dX4_init_31 : decode cX4_init 31 = .ok (.putfield 21, 3) := by decide +kernel
theorem dX4_init_34 : decode cX4_init 34 = .ok (.aload_n 0, 1) := by decide +kernel
theorem dX4_init_35 : decode cX4_init 35 = .ok (.bipush 24, 2) := by decide +kernel
theorem dX4_init_37 : decode cX4_init 37 = .ok (.anewarray 24, 3) := by decide +kernel
theorem dX4_init_40 : decode cX4_init 40 = .ok (.putfield 26, 3) := by decide +kernel
theorem dX4_init_43 : decode cX4_init 43 = .ok (.aload_n 0, 1) := by decide +kernel
theorem dX4_init_44 : decode cX4_init 44 = .ok (.new 30, 3) := by decide +kernel
theorem dX4_init_47 : decode cX4_init 47 = .ok (.dup, 1) := by decide +kernel
theorem dX4_init_48 : decode cX4_init 48 = .ok (.invokespecial 32, 3) := by decide +kernel
theorem dX4_init_51 : decode cX4_init 51 = .ok (.putfield 33, 3) := by decide +kernel
theorem dX4_init_54 : decode cX4_init 54 = .ok (.aload_n 0, 1) := by decide +kernel
theorem dX4_init_55 : decode cX4_init 55 = .ok (.iconst 2, 1) := by decide +kernel
theorem dX4_init_56 : decode cX4_init 56 = .ok (.putfield 37, 3) := by decide +kernel
theorem dX4_init_59 : decode cX4_init 59 = .ok (.aload_n 0, 1) := by decide +kernel
theorem dX4_init_60 : decode cX4_init 60 = .ok (.getfield 9, 3) := by decide +kernel
theorem dX4_init_63 : decode cX4_init 63 = .ok (.bipush 10, 2) := by decide +kernel
theorem dX4_init_65 : decode cX4_init 65 = .ok (.invokestatic 41, 3) := by decide +kernel
theorem dX4_init_68 : decode cX4_init 68 = .ok (.aload_n 0, 1) := by decide +kernel
theorem dX4_init_69 : decode cX4_init 69 = .ok (.getfield 15, 3) := by decide +kernel
theorem dX4_init_72 : decode cX4_init 72 = .ok (.iconst 1, 1) := by decide +kernel
theorem dX4_init_73 : decode cX4_init 73 = .ok (.invokestatic 41, 3) := by decide +kernel
theorem dX4_init_76 : decode cX4_init 76 = .ok (.iconst 0, 1) := by decide +kernel
theorem dX4_init_77 : decode cX4_init 77 = .ok (.istore_n 1, 1) := by decide +kernel
theorem dX4_init_78 : decode cX4_init 78 = .ok (.iload_n 1, 1) := by decide +kernel
theorem dX4_init_79 : decode cX4_init 79 = .ok (.bipush 8, 2) := by decide +kernel
theorem dX4_init_81 : decode cX4_init 81 = .ok (.if_icmp .ge 18, 3) := by decide +kernel
theorem dX4_init_84 : decode cX4_init 84 = .ok (.aload_n 0, 1) := by decide +kernel
theorem dX4_init_85 : decode cX4_init 85 = .ok (.getfield 18, 3) := by decide +kernel
theorem dX4_init_88 : decode cX4_init 88 = .ok (.iload_n 1, 1) := by decide +kernel
theorem dX4_init_89 : decode cX4_init 89 = .ok (.iload_n 1, 1) := by decide +kernel
theorem dX4_init_90 : decode cX4_init 90 = .ok (.iconst 4, 1) := by decide +kernel
theorem dX4_init_91 : decode cX4_init 91 = .ok (.irem, 1) := by decide +kernel
theorem dX4_init_92 : decode cX4_init 92 = .ok (.iastore, 1) := by decide +kernel
theorem dX4_init_93 : decode cX4_init 93 = .ok (.iinc 1 1, 3) := by decide +kernel
theorem dX4_init_96 : decode cX4_init 96 = .ok (.goto (-18), 3) := by decide +kernel
theorem dX4_init_99 : decode cX4_init 99 = .ok (.iconst 0, 1) := by decide +kernel
theorem dX4_init_100 : decode cX4_init 100 = .ok (.istore_n 1, 1) := by decide +kernel
theorem dX4_init_101 : decode cX4_init 101 = .ok (.iload_n 1, 1) := by decide +kernel
theorem dX4_init_102 : decode cX4_init 102 = .ok (.bipush 24, 2) := by decide +kernel
theorem dX4_init_104 : decode cX4_init 104 = .ok (.if_icmp .ge 22, 3) := by decide +kernel
theorem dX4_init_107 : decode cX4_init 107 = .ok (.aload_n 0, 1) := by decide +kernel
theorem dX4_init_108 : decode cX4_init 108 = .ok (.getfield 26, 3) := by decide +kernel
theorem dX4_init_111 : decode cX4_init 111 = .ok (.iload_n 1, 1) := by decide +kernel
theorem dX4_init_112 : decode cX4_init 112 = .ok (.new 24, 3) := by decide +kernel
theorem dX4_init_115 : decode cX4_init 115 = .ok (.dup, 1) := by decide +kernel
theorem dX4_init_116 : decode cX4_init 116 = .ok (.invokespecial 47, 3) := by decide +kernel
theorem dX4_init_119 : decode cX4_init 119 = .ok (.aastore, 1) := by decide +kernel
theorem dX4_init_120 : decode cX4_init 120 = .ok (.iinc 1 1, 3) := by decide +kernel
theorem dX4_init_123 : decode cX4_init 123 = .ok (.goto (-22), 3) := by decide +kernel
theorem dX4_init_126 : decode cX4_init 126 = .ok (.return_, 1) := by decide +kernel
theorem dX4_copyFrom_0 : decode cX4_copyFrom 0 = .ok (.aload_n 1, 1) := by decide +kernel
theorem dX4_copyFrom_1 : decode cX4_copyFrom 1 = .ok (.getfield 9, 3) := by decide +kernel
theorem dX4_copyFrom_4 : decode cX4_copyFrom 4 = .ok (.iconst 0, 1) := by decide +kernel
theorem dX4_copyFrom_5 : decode cX4_copyFrom 5 = .ok (.aload_n 0, 1) := by decide +kernel
theorem dX4_copyFrom_6 : decode cX4_copyFrom 6 = .ok (.getfield 9, 3) := by decide +kernel
theorem dX4_copyFrom_9 : decode cX4_copyFrom 9 = .ok (.iconst 0, 1) := by decide +kernel
theorem dX4_copyFrom_10 : decode cX4_copyFrom 10 = .ok (.iconst 4, 1) := by decide +kernel
theorem dX4_copyFrom_11 : decode cX4_copyFrom 11 = .ok (.invokestatic 48, 3) := by decide +kernel
theorem dX4_copyFrom_14 : decode cX4_copyFrom 14 = .ok (.aload_n 1, 1) := by decide +kernel
theorem dX4_copyFrom_15 : decode cX4_copyFrom 15 = .ok (.getfield 15, 3) := by decide +kernel
theorem dX4_copyFrom_18 : decode cX4_copyFrom 18 = .ok (.iconst 0, 1) := by decide +kernel
theorem dX4_copyFrom_19 : decode cX4_copyFrom 19 = .ok (.aload_n 0, 1) := by decide +kernel
theorem dX4_copyFrom_20 : decode cX4_copyFrom 20 = .ok (.getfield 15, 3) := by decide +kernel
theorem dX4_copyFrom_23 : decode cX4_copyFrom 23 = .ok (.iconst 0, 1) := by decide +kernel
theorem dX4_copyFrom_24 : decode cX4_copyFrom 24 = .ok (.iconst 4, 1) := by decide +kernel
theorem dX4_copyFrom_25 : decode cX4_copyFrom 25 = .ok (.invokestatic 48, 3) := by decide +kernel
theorem dX4_copyFrom_28 : decode cX4_copyFrom 28 = .ok (.aload_n 1, 1) := by decide +kernel
theorem dX4_copyFrom_29 : decode cX4_copyFrom 29 = .ok (.getfield 18, 3) := by decide +kernel
theorem dX4_copyFrom_32 : decode cX4_copyFrom 32 = .ok (.iconst 0, 1) := by decide +kernel
theorem dX4_copyFrom_33 : decode cX4_copyFrom 33 = .ok (.aload_n 0, 1) := by decide +kernel
theorem dX4_copyFrom_34 : decode cX4_copyFrom 34 = .ok (.getfield 18, 3) := by decide +kernel
theorem dX4_copyFrom_37 : decode cX4_copyFrom 37 = .ok (.iconst 0, 1) := by decide +kernel
theorem dX4_copyFrom_38 : decode cX4_copyFrom 38 = .ok (.bipush 8, 2) := by decide +kernel
theorem dX4_copyFrom_40 : decode cX4_copyFrom 40 = .ok (.invokestatic 48, 3) := by decide +kernel
theorem dX4_copyFrom_43 : decode cX4_copyFrom 43 = .ok (.aload_n 1, 1) := by decide +kernel
theorem dX4_copyFrom_44 : decode cX4_copyFrom 44 = .ok (.getfield 21, 3) := by decide +kernel
theorem dX4_copyFrom_47 : decode cX4_copyFrom 47 = .ok (.iconst 0, 1) := by decide +kernel
theorem dX4_copyFrom_48 : decode cX4_copyFrom 48 = .ok (.aload_n 0, 1) := by decide +kernel
theorem dX4_copyFrom_49 : decode cX4_copyFrom 49 = .ok (.getfield 21, 3) := by decide +kernel
theorem dX4_copyFrom_52 : decode cX4_copyFrom 52 = .ok (.iconst 0, 1) := by decide +kernel
theorem dX4_copyFrom_53 : decode cX4_copyFrom 53 = .ok (.bipush 10, 2) := by decide +kernel
theorem dX4_copyFrom_55 : decode cX4_copyFrom 55 = .ok (.invokestatic 48, 3) := by decide +kernel
theorem dX4_copyFrom_58 : decode cX4_copyFrom 58 = .ok (.iconst 0, 1) := by decide +kernel
theorem dX4_copyFrom_59 : decode cX4_copyFrom 59 = .ok (.istore_n 2, 1) := by decide +kernel
theorem dX4_copyFrom_60 : decode cX4_copyFrom 60 = .ok (.iload_n 2, 1) := by decide +kernel
theorem dX4_copyFrom_61 : decode cX4_copyFrom 61 = .ok (.bipush 24, 2) := by decide +kernel
theorem dX4_copyFrom_63 : decode cX4_copyFrom 63 = .ok (.if_icmp .ge 24, 3) := by decide +kernel
theorem dX4_copyFrom_66 : decode cX4_copyFrom 66 = .ok (.aload_n 0, 1) := by decide +kernel
theorem dX4_copyFrom_67 : decode cX4_copyFrom 67 = .ok (.getfield 26, 3) := by decide +kernel
theorem dX4_copyFrom_70 : decode cX4_copyFrom 70 = .ok (.iload_n 2, 1) := by decide +kernel
theorem dX4_copyFrom_71 : decode cX4_copyFrom 71 = .ok (.aaload, 1) := by decide +kernel
theorem dX4_copyFrom_72 : decode cX4_copyFrom 72 = .ok (.aload_n 1, 1) := by decide +kernel
theorem dX4_copyFrom_73 : decode cX4_copyFrom 73 = .ok (.getfield 26, 3) := by decide +kernel
theorem dX4_copyFrom_76 : decode cX4_copyFrom 76 = .ok (.iload_n 2, 1) := by decide +kernel
theorem dX4_copyFrom_77 : decode cX4_copyFrom 77 = .ok (.aaload, 1) := by decide +kernel
theorem dX4_copyFrom_78 : decode cX4_copyFrom 78 = .ok (.invokevirtual 54, 3) := by decide +kernel
theorem dX4_copyFrom_81 : decode cX4_copyFrom 81 = .ok (.iinc 2 1, 3) := by decide +kernel
theorem dX4_copyFrom_84 : decode cX4_copyFrom 84 = .ok (.goto (-24), 3) := by decide +kernel
theorem dX4_copyFrom_87 : decode cX4_copyFrom 87 = .ok (.aload_n 0, 1) := by decide +kernel
theorem dX4_copyFrom_88 : decode cX4_copyFrom 88 = .ok (.getfield 33, 3) := by decide +kernel
theorem dX4_copyFrom_91 : decode cX4_copyFrom 91 = .ok (.aload_n 1, 1) := by decide +kernel
theorem dX4_copyFrom_92 : decode cX4_copyFrom 92 = .ok (.getfield 33, 3) := by decide +kernel
theorem dX4_copyFrom_95 : decode cX4_copyFrom 95 = .ok (.invokevirtual 58, 3) := by decide +kernel
theorem dX4_copyFrom_98 : decode cX4_copyFrom 98 = .ok (.aload_n 0, 1) := by decide +kernel
theorem dX4_copyFrom_99 : decode cX4_copyFrom 99 = .ok (.aload_n 1, 1) := by decide +kernel
theorem dX4_copyFrom_100 : decode cX4_copyFrom 100 = .ok (.getfield 37, 3) := by decide +kernel
theorem dX4_copyFrom_103 : decode cX4_copyFrom 103 = .ok (.putfield 37, 3) := by decide +kernel
theorem dX4_copyFrom_106 : decode cX4_copyFrom 106 = .ok (.aload_n 0, 1) := by decide +kernel
theorem dX4_copyFrom_107 : decode cX4_copyFrom 107 = .ok (.aload_n 1, 1) := by decide +kernel
theorem dX4_copyFrom_108 : decode cX4_copyFrom 108 = .ok (.getfield 61, 3) := by decide +kernel
theorem dX4_copyFrom_111 : decode cX4_copyFrom 111 = .ok (.putfield 61, 3) := by decide +kernel
theorem dX4_copyFrom_114 : decode cX4_copyFrom 114 = .ok (.aload_n 0, 1) := by decide +kernel
theorem dX4_copyFrom_115 : decode cX4_copyFrom 115 = .ok (.aload_n 1, 1) := by decide +kernel
theorem dX4_copyFrom_116 : decode cX4_copyFrom 116 = .ok (.getfield 64, 3) := by decide +kernel
theorem dX4_copyFrom_119 : decode cX4_copyFrom 119 = .ok (.putfield 64, 3) := by decide +kernel
theorem dX4_copyFrom_122 : decode cX4_copyFrom 122 = .ok (.aload_n 0, 1) := by decide +kernel
theorem dX4_copyFrom_123 : decode cX4_copyFrom 123 = .ok (.aload_n 1, 1) := by decide +kernel
theorem dX4_copyFrom_124 : decode cX4_copyFrom 124 = .ok (.getfield 67, 3) := by decide +kernel
theorem dX4_copyFrom_127 : decode cX4_copyFrom 127 = .ok (.putfield 67, 3) := by decide +kernel
theorem dX4_copyFrom_130 : decode cX4_copyFrom 130 = .ok (.aload_n 0, 1) := by decide +kernel
theorem dX4_copyFrom_131 : decode cX4_copyFrom 131 = .ok (.aload_n 1, 1) := by decide +kernel
theorem dX4_copyFrom_132 : decode cX4_copyFrom 132 = .ok (.getfield 70, 3) := by decide +kernel
theorem dX4_copyFrom_135 : decode cX4_copyFrom 135 = .ok (.putfield 70, 3) := by decide +kernel
theorem dX4_copyFrom_138 : decode cX4_copyFrom 138 = .ok (.return_, 1) := by decide +kernel
theorem dX4_limitOf_0 : decode cX4_limitOf 0 = .ok (.aload_n 0, 1) := by decide +kernel
theorem dX4_limitOf_1 : decode cX4_limitOf 1 = .ok (.getfield 9, 3) := by decide +kernel
theorem dX4_limitOf_4 : decode cX4_limitOf 4 = .ok (.aload_n 0, 1) := by decide +kernel
theorem dX4_limitOf_5 : decode cX4_limitOf 5 = .ok (.getfield 18, 3) := by decide +kernel
theorem dX4_limitOf_8 : decode cX4_limitOf 8 = .ok (.iload_n 1, 1) := by decide +kernel
theorem dX4_limitOf_9 : decode cX4_limitOf 9 = .ok (.iaload, 1) := by decide +kernel
theorem dX4_limitOf_10 : decode cX4_limitOf 10 = .ok (.iaload, 1) := by decide +kernel
theorem dX4_limitOf_11 : decode cX4_limitOf 11 = .ok (.ireturn, 1) := by decide +kernel
theorem dX4_asksFor_0 : decode cX4_asksFor 0 = .ok (.aload_n 0, 1) := by decide +kernel
theorem dX4_asksFor_1 : decode cX4_asksFor 1 = .ok (.getfield 15, 3) := by decide +kernel
theorem dX4_asksFor_4 : decode cX4_asksFor 4 = .ok (.iload_n 1, 1) := by decide +kernel
theorem dX4_asksFor_5 : decode cX4_asksFor 5 = .ok (.iaload, 1) := by decide +kernel
theorem dX4_asksFor_6 : decode cX4_asksFor 6 = .ok (.iconst 1, 1) := by decide +kernel
theorem dX4_asksFor_7 : decode cX4_asksFor 7 = .ok (.iload_n 2, 1) := by decide +kernel
theorem dX4_asksFor_8 : decode cX4_asksFor 8 = .ok (.ishl, 1) := by decide +kernel
theorem dX4_asksFor_9 : decode cX4_asksFor 9 = .ok (.iand, 1) := by decide +kernel
theorem dX4_asksFor_10 : decode cX4_asksFor 10 = .ok (.ifCond .eq 7, 3) := by decide +kernel
theorem dX4_asksFor_13 : decode cX4_asksFor 13 = .ok (.iconst 1, 1) := by decide +kernel
theorem dX4_asksFor_14 : decode cX4_asksFor 14 = .ok (.goto 4, 3) := by decide +kernel
theorem dX4_asksFor_17 : decode cX4_asksFor 17 = .ok (.iconst 0, 1) := by decide +kernel
theorem dX4_asksFor_18 : decode cX4_asksFor 18 = .ok (.ireturn, 1) := by decide +kernel
theorem dX4_changeLimit_0 : decode cX4_changeLimit 0 = .ok (.aload_n 0, 1) := by decide +kernel
theorem dX4_changeLimit_1 : decode cX4_changeLimit 1 = .ok (.getfield 9, 3) := by decide +kernel
theorem dX4_changeLimit_4 : decode cX4_changeLimit 4 = .ok (.iload_n 1, 1) := by decide +kernel
theorem dX4_changeLimit_5 : decode cX4_changeLimit 5 = .ok (.iload_n 2, 1) := by decide +kernel
theorem dX4_changeLimit_6 : decode cX4_changeLimit 6 = .ok (.iastore, 1) := by decide +kernel
theorem dX4_changeLimit_7 : decode cX4_changeLimit 7 = .ok (.iconst 0, 1) := by decide +kernel
theorem dX4_changeLimit_8 : decode cX4_changeLimit 8 = .ok (.istore_n 3, 1) := by decide +kernel
theorem dX4_changeLimit_9 : decode cX4_changeLimit 9 = .ok (.iconst 0, 1) := by decide +kernel
theorem dX4_changeLimit_10 : decode cX4_changeLimit 10 = .ok (.istore 4, 2) := by decide +kernel
theorem dX4_changeLimit_12 : decode cX4_changeLimit 12 = .ok (.iload 4, 2) := by decide +kernel
theorem dX4_changeLimit_14 : decode cX4_changeLimit 14 = .ok (.bipush 8, 2) := by decide +kernel
theorem dX4_changeLimit_16 : decode cX4_changeLimit 16 = .ok (.if_icmp .ge 29, 3) := by decide +kernel
theorem dX4_changeLimit_19 : decode cX4_changeLimit 19 = .ok (.aload_n 0, 1) := by decide +kernel
theorem dX4_changeLimit_20 : decode cX4_changeLimit 20 = .ok (.getfield 18, 3) := by decide +kernel
theorem dX4_changeLimit_23 : decode cX4_changeLimit 23 = .ok (.iload 4, 2) := by decide +kernel
theorem dX4_changeLimit_25 : decode cX4_changeLimit 25 = .ok (.iaload, 1) := by decide +kernel
theorem dX4_changeLimit_26 : decode cX4_changeLimit 26 = .ok (.iload_n 1, 1) := by decide +kernel
theorem dX4_changeLimit_27 : decode cX4_changeLimit 27 = .ok (.if_icmp .ne 12, 3) := by decide +kernel
theorem dX4_changeLimit_30 : decode cX4_changeLimit 30 = .ok (.iload_n 3, 1) := by decide +kernel
theorem dX4_changeLimit_31 : decode cX4_changeLimit 31 = .ok (.aload_n 0, 1) := by decide +kernel
theorem dX4_changeLimit_32 : decode cX4_changeLimit 32 = .ok (.iload 4, 2) := by decide +kernel
theorem dX4_changeLimit_34 : decode cX4_changeLimit 34 = .ok (.invokevirtual 73, 3) := by decide +kernel
theorem dX4_changeLimit_37 : decode cX4_changeLimit 37 = .ok (.iadd, 1) := by decide +kernel
theorem dX4_changeLimit_38 : decode cX4_changeLimit 38 = .ok (.istore_n 3, 1) := by decide +kernel
theorem dX4_changeLimit_39 : decode cX4_changeLimit 39 = .ok (.iinc 4 1, 3) := by decide +kernel
theorem dX4_changeLimit_42 : decode cX4_changeLimit 42 = .ok (.goto (-30), 3) := by decide +kernel
theorem dX4_changeLimit_45 : decode cX4_changeLimit 45 = .ok (.iload_n 3, 1) := by decide +kernel
theorem dX4_changeLimit_46 : decode cX4_changeLimit 46 = .ok (.ireturn, 1) := by decide +kernel
theorem dX4_cutLabelsOf_0 : decode cX4_cutLabelsOf 0 = .ok (.aload_n 0, 1) := by decide +kernel
theorem dX4_cutLabelsOf_1 : decode cX4_cutLabelsOf 1 = .ok (.iload_n 1, 1) := by decide +kernel
theorem dX4_cutLabelsOf_2 : decode cX4_cutLabelsOf 2 = .ok (.invokevirtual 77, 3) := by decide +kernel
theorem dX4_cutLabelsOf_5 : decode cX4_cutLabelsOf 5 = .ok (.istore_n 2, 1) := by decide +kernel
theorem dX4_cutLabelsOf_6 : decode cX4_cutLabelsOf 6 = .ok (.iconst 0, 1) := by decide +kernel
theorem dX4_cutLabelsOf_7 : decode cX4_cutLabelsOf 7 = .ok (.istore_n 3, 1) := by decide +kernel
theorem dX4_cutLabelsOf_8 : decode cX4_cutLabelsOf 8 = .ok (.iconst 0, 1) := by decide +kernel
theorem dX4_cutLabelsOf_9 : decode cX4_cutLabelsOf 9 = .ok (.istore 4, 2) := by decide +kernel
theorem dX4_cutLabelsOf_11 : decode cX4_cutLabelsOf 11 = .ok (.iload 4, 2) := by decide +kernel
theorem dX4_cutLabelsOf_13 : decode cX4_cutLabelsOf 13 = .ok (.iconst 3, 1) := by decide +kernel
theorem dX4_cutLabelsOf_14 : decode cX4_cutLabelsOf 14 = .ok (.if_icmp .ge 30, 3) := by decide +kernel
theorem dX4_cutLabelsOf_17 : decode cX4_cutLabelsOf 17 = .ok (.aload_n 0, 1) := by decide +kernel
theorem dX4_cutLabelsOf_18 : decode cX4_cutLabelsOf 18 = .ok (.getfield 26, 3) := by decide +kernel
theorem dX4_cutLabelsOf_21 : decode cX4_cutLabelsOf 21 = .ok (.iload_n 1, 1) := by decide +kernel
theorem dX4_cutLabelsOf_22 : decode cX4_cutLabelsOf 22 = .ok (.iload 4, 2) := by decide +kernel
theorem dX4_cutLabelsOf_24 : decode cX4_cutLabelsOf 24 = .ok (.invokestatic 80, 3) := by decide +kernel
theorem dX4_cutLabelsOf_27 : decode cX4_cutLabelsOf 27 = .ok (.aaload, 1) := by decide +kernel
theorem dX4_cutLabelsOf_28 : decode cX4_cutLabelsOf 28 = .ok (.iload_n 2, 1) := by decide +kernel
theorem dX4_cutLabelsOf_29 : decode cX4_cutLabelsOf 29 = .ok (.invokevirtual 84, 3) := by decide +kernel
theorem dX4_cutLabelsOf_32 : decode cX4_cutLabelsOf 32 = .ok (.ifCond .eq 6, 3) := by decide +kernel
theorem dX4_cutLabelsOf_35 : decode cX4_cutLabelsOf 35 = .ok (.iinc 3 1, 3) := by decide +kernel
theorem dX4_cutLabelsOf_38 : decode cX4_cutLabelsOf 38 = .ok (.iinc 4 1, 3) := by decide +kernel
theorem dX4_cutLabelsOf_41 : decode cX4_cutLabelsOf 41 = .ok (.goto (-30), 3) := by decide +kernel
theorem dX4_cutLabelsOf_44 : decode cX4_cutLabelsOf 44 = .ok (.aload_n 0, 1) := by decide +kernel
theorem dX4_cutLabelsOf_45 : decode cX4_cutLabelsOf 45 = .ok (.dup, 1) := by decide +kernel
theorem dX4_cutLabelsOf_46 : decode cX4_cutLabelsOf 46 = .ok (.getfield 70, 3) := by decide +kernel
theorem dX4_cutLabelsOf_49 : decode cX4_cutLabelsOf 49 = .ok (.iload_n 3, 1) := by decide +kernel
theorem dX4_cutLabelsOf_50 : decode cX4_cutLabelsOf 50 = .ok (.iadd, 1) := by decide +kernel
theorem dX4_cutLabelsOf_51 : decode cX4_cutLabelsOf 51 = .ok (.putfield 70, 3) := by decide +kernel
theorem dX4_cutLabelsOf_54 : decode cX4_cutLabelsOf 54 = .ok (.iload_n 3, 1) := by decide +kernel
theorem dX4_cutLabelsOf_55 : decode cX4_cutLabelsOf 55 = .ok (.ireturn, 1) := by decide +kernel
theorem dX4_bestRewriteFor_0 : decode cX4_bestRewriteFor 0 = .ok (.aload_n 0, 1) := by decide +kernel
theorem dX4_bestRewriteFor_1 : decode cX4_bestRewriteFor 1 = .ok (.getfield 33, 3) := by decide +kernel
theorem dX4_bestRewriteFor_4 : decode cX4_bestRewriteFor 4 = .ok (.iload_n 1, 1) := by decide +kernel
theorem dX4_bestRewriteFor_5 : decode cX4_bestRewriteFor 5 = .ok (.aload_n 0, 1) := by decide +kernel
theorem dX4_bestRewriteFor_6 : decode cX4_bestRewriteFor 6 = .ok (.getfield 37, 3) := by decide +kernel
theorem dX4_bestRewriteFor_9 : decode cX4_bestRewriteFor 9 = .ok (.aload_n 0, 1) := by decide +kernel
theorem dX4_bestRewriteFor_10 : decode cX4_bestRewriteFor 10 = .ok (.iload_n 1, 1) := by decide +kernel
theorem dX4_bestRewriteFor_11 : decode cX4_bestRewriteFor 11 = .ok (.iconst 3, 1) := by decide +kernel
theorem dX4_bestRewriteFor_12 : decode cX4_bestRewriteFor 12 = .ok (.idiv, 1) := by decide +kernel
theorem dX4_bestRewriteFor_13 : decode cX4_bestRewriteFor 13 = .ok (.invokevirtual 77, 3) := by decide +kernel
theorem dX4_bestRewriteFor_16 : decode cX4_bestRewriteFor 16 = .ok (.invokevirtual 88, 3) := by decide +kernel
theorem dX4_bestRewriteFor_19 : decode cX4_bestRewriteFor 19 = .ok (.areturn, 1) := by decide +kernel
theorem dX4_passWeek_0 : decode cX4_passWeek 0 = .ok (.iconst 0, 1) := by decide +kernel
theorem dX4_passWeek_1 : decode cX4_passWeek 1 = .ok (.istore_n 1, 1) := by decide +kernel
theorem dX4_passWeek_2 : decode cX4_passWeek 2 = .ok (.iconst 0, 1) := by decide +kernel
theorem dX4_passWeek_3 : decode cX4_passWeek 3 = .ok (.istore_n 2, 1) := by decide +kernel
theorem dX4_passWeek_4 : decode cX4_passWeek 4 = .ok (.iload_n 2, 1) := by decide +kernel
theorem dX4_passWeek_5 : decode cX4_passWeek 5 = .ok (.bipush 24, 2) := by decide +kernel
theorem dX4_passWeek_7 : decode cX4_passWeek 7 = .ok (.if_icmp .ge 27, 3) := by decide +kernel
theorem dX4_passWeek_10 : decode cX4_passWeek 10 = .ok (.aload_n 0, 1) := by decide +kernel
theorem dX4_passWeek_11 : decode cX4_passWeek 11 = .ok (.iload_n 2, 1) := by decide +kernel
theorem dX4_passWeek_12 : decode cX4_passWeek 12 = .ok (.invokevirtual 92, 3) := by decide +kernel
theorem dX4_passWeek_15 : decode cX4_passWeek 15 = .ok (.astore_n 3, 1) := by decide +kernel
theorem dX4_passWeek_16 : decode cX4_passWeek 16 = .ok (.aload_n 3, 1) := by decide +kernel
theorem dX4_passWeek_17 : decode cX4_passWeek 17 = .ok (.ifnull 11, 3) := by decide +kernel
theorem dX4_passWeek_20 : decode cX4_passWeek 20 = .ok (.aload_n 0, 1) := by decide +kernel
theorem dX4_passWeek_21 : decode cX4_passWeek 21 = .ok (.aload_n 3, 1) := by decide +kernel
theorem dX4_passWeek_22 : decode cX4_passWeek 22 = .ok (.invokevirtual 96, 3) := by decide +kernel
theorem dX4_passWeek_25 : decode cX4_passWeek 25 = .ok (.iinc 1 1, 3) := by decide +kernel
theorem dX4_passWeek_28 : decode cX4_passWeek 28 = .ok (.iinc 2 1, 3) := by decide +kernel
theorem dX4_passWeek_31 : decode cX4_passWeek 31 = .ok (.goto (-27), 3) := by decide +kernel
theorem dX4_passWeek_34 : decode cX4_passWeek 34 = .ok (.aload_n 0, 1) := by decide +kernel
theorem dX4_passWeek_35 : decode cX4_passWeek 35 = .ok (.dup, 1) := by decide +kernel
theorem dX4_passWeek_36 : decode cX4_passWeek 36 = .ok (.getfield 64, 3) := by decide +kernel
theorem dX4_passWeek_39 : decode cX4_passWeek 39 = .ok (.iload_n 1, 1) := by decide +kernel
theorem dX4_passWeek_40 : decode cX4_passWeek 40 = .ok (.iadd, 1) := by decide +kernel
theorem dX4_passWeek_41 : decode cX4_passWeek 41 = .ok (.putfield 64, 3) := by decide +kernel
theorem dX4_passWeek_44 : decode cX4_passWeek 44 = .ok (.aload_n 0, 1) := by decide +kernel
theorem dX4_passWeek_45 : decode cX4_passWeek 45 = .ok (.dup, 1) := by decide +kernel
theorem dX4_passWeek_46 : decode cX4_passWeek 46 = .ok (.getfield 67, 3) := by decide +kernel
theorem dX4_passWeek_49 : decode cX4_passWeek 49 = .ok (.aload_n 0, 1) := by decide +kernel
theorem dX4_passWeek_50 : decode cX4_passWeek 50 = .ok (.getfield 33, 3) := by decide +kernel
theorem dX4_passWeek_53 : decode cX4_passWeek 53 = .ok (.invokevirtual 100, 3) := by decide +kernel
theorem dX4_passWeek_56 : decode cX4_passWeek 56 = .ok (.iadd, 1) := by decide +kernel
theorem dX4_passWeek_57 : decode cX4_passWeek 57 = .ok (.putfield 67, 3) := by decide +kernel
theorem dX4_passWeek_60 : decode cX4_passWeek 60 = .ok (.aload_n 0, 1) := by decide +kernel
theorem dX4_passWeek_61 : decode cX4_passWeek 61 = .ok (.dup, 1) := by decide +kernel
theorem dX4_passWeek_62 : decode cX4_passWeek 62 = .ok (.getfield 61, 3) := by decide +kernel
theorem dX4_passWeek_65 : decode cX4_passWeek 65 = .ok (.iconst 1, 1) := by decide +kernel
theorem dX4_passWeek_66 : decode cX4_passWeek 66 = .ok (.iadd, 1) := by decide +kernel
theorem dX4_passWeek_67 : decode cX4_passWeek 67 = .ok (.putfield 61, 3) := by decide +kernel
theorem dX4_passWeek_70 : decode cX4_passWeek 70 = .ok (.iload_n 1, 1) := by decide +kernel
theorem dX4_passWeek_71 : decode cX4_passWeek 71 = .ok (.ireturn, 1) := by decide +kernel
theorem dX4_accept_0 : decode cX4_accept 0 = .ok (.aload_n 0, 1) := by decide +kernel
theorem dX4_accept_1 : decode cX4_accept 1 = .ok (.getfield 26, 3) := by decide +kernel
theorem dX4_accept_4 : decode cX4_accept 4 = .ok (.aload_n 1, 1) := by decide +kernel
theorem dX4_accept_5 : decode cX4_accept 5 = .ok (.getfield 104, 3) := by decide +kernel
theorem dX4_accept_8 : decode cX4_accept 8 = .ok (.aaload, 1) := by decide +kernel
theorem dX4_accept_9 : decode cX4_accept 9 = .ok (.aload_n 1, 1) := by decide +kernel
theorem dX4_accept_10 : decode cX4_accept 10 = .ok (.getfield 109, 3) := by decide +kernel
theorem dX4_accept_13 : decode cX4_accept 13 = .ok (.aload_n 1, 1) := by decide +kernel
theorem dX4_accept_14 : decode cX4_accept 14 = .ok (.getfield 113, 3) := by decide +kernel
theorem dX4_accept_17 : decode cX4_accept 17 = .ok (.aload_n 0, 1) := by decide +kernel
theorem dX4_accept_18 : decode cX4_accept 18 = .ok (.getfield 61, 3) := by decide +kernel
theorem dX4_accept_21 : decode cX4_accept 21 = .ok (.invokevirtual 116, 3) := by decide +kernel
theorem dX4_accept_24 : decode cX4_accept 24 = .ok (.aload_n 0, 1) := by decide +kernel
theorem dX4_accept_25 : decode cX4_accept 25 = .ok (.getfield 21, 3) := by decide +kernel
theorem dX4_accept_28 : decode cX4_accept 28 = .ok (.aload_n 1, 1) := by decide +kernel
theorem dX4_accept_29 : decode cX4_accept 29 = .ok (.getfield 113, 3) := by decide +kernel
theorem dX4_accept_32 : decode cX4_accept 32 = .ok (.dup2, 1) := by decide +kernel
theorem dX4_accept_33 : decode cX4_accept 33 = .ok (.iaload, 1) := by decide +kernel
theorem dX4_accept_34 : decode cX4_accept 34 = .ok (.iconst 1, 1) := by decide +kernel
theorem dX4_accept_35 : decode cX4_accept 35 = .ok (.iadd, 1) := by decide +kernel
theorem dX4_accept_36 : decode cX4_accept 36 = .ok (.iastore, 1) := by decide +kernel
theorem dX4_accept_37 : decode cX4_accept 37 = .ok (.aload_n 0, 1) := by decide +kernel
theorem dX4_accept_38 : decode cX4_accept 38 = .ok (.getfield 33, 3) := by decide +kernel
theorem dX4_accept_41 : decode cX4_accept 41 = .ok (.aload_n 1, 1) := by decide +kernel
theorem dX4_accept_42 : decode cX4_accept 42 = .ok (.invokevirtual 120, 3) := by decide +kernel
theorem dX4_accept_45 : decode cX4_accept 45 = .ok (.return_, 1) := by decide +kernel
theorem dX4_allLabels_0 : decode cX4_allLabels 0 = .ok (.iconst 0, 1) := by decide +kernel
theorem dX4_allLabels_1 : decode cX4_allLabels 1 = .ok (.istore_n 1, 1) := by decide +kernel
theorem dX4_allLabels_2 : decode cX4_allLabels 2 = .ok (.iconst 0, 1) := by decide +kernel
theorem dX4_allLabels_3 : decode cX4_allLabels 3 = .ok (.istore_n 2, 1) := by decide +kernel
theorem dX4_allLabels_4 : decode cX4_allLabels 4 = .ok (.iload_n 2, 1) := by decide +kernel
theorem dX4_allLabels_5 : decode cX4_allLabels 5 = .ok (.bipush 24, 2) := by decide +kernel
theorem dX4_allLabels_7 : decode cX4_allLabels 7 = .ok (.if_icmp .ge 24, 3) := by decide +kernel
theorem dX4_allLabels_10 : decode cX4_allLabels 10 = .ok (.aload_n 0, 1) := by decide +kernel
theorem dX4_allLabels_11 : decode cX4_allLabels 11 = .ok (.getfield 26, 3) := by decide +kernel
theorem dX4_allLabels_14 : decode cX4_allLabels 14 = .ok (.iload_n 2, 1) := by decide +kernel
theorem dX4_allLabels_15 : decode cX4_allLabels 15 = .ok (.aaload, 1) := by decide +kernel
theorem dX4_allLabels_16 : decode cX4_allLabels 16 = .ok (.invokevirtual 123, 3) := by decide +kernel
theorem dX4_allLabels_19 : decode cX4_allLabels 19 = .ok (.ifCond .eq 6, 3) := by decide +kernel
theorem dX4_allLabels_22 : decode cX4_allLabels 22 = .ok (.iinc 1 1, 3) := by decide +kernel
theorem dX4_allLabels_25 : decode cX4_allLabels 25 = .ok (.iinc 2 1, 3) := by decide +kernel
theorem dX4_allLabels_28 : decode cX4_allLabels 28 = .ok (.goto (-24), 3) := by decide +kernel
theorem dX4_allLabels_31 : decode cX4_allLabels 31 = .ok (.iload_n 1, 1) := by decide +kernel
theorem dX4_allLabels_32 : decode cX4_allLabels 32 = .ok (.ireturn, 1) := by decide +kernel
theorem dX4_labelsBy_0 : decode cX4_labelsBy 0 = .ok (.iconst 0, 1) := by decide +kernel
theorem dX4_labelsBy_1 : decode cX4_labelsBy 1 = .ok (.istore_n 2, 1) := by decide +kernel
theorem dX4_labelsBy_2 : decode cX4_labelsBy 2 = .ok (.iconst 0, 1) := by decide +kernel
theorem dX4_labelsBy_3 : decode cX4_labelsBy 3 = .ok (.istore_n 3, 1) := by decide +kernel
theorem dX4_labelsBy_4 : decode cX4_labelsBy 4 = .ok (.iload_n 3, 1) := by decide +kernel
theorem dX4_labelsBy_5 : decode cX4_labelsBy 5 = .ok (.bipush 24, 2) := by decide +kernel
theorem dX4_labelsBy_7 : decode cX4_labelsBy 7 = .ok (.if_icmp .ge 37, 3) := by decide +kernel
theorem dX4_labelsBy_10 : decode cX4_labelsBy 10 = .ok (.aload_n 0, 1) := by decide +kernel
theorem dX4_labelsBy_11 : decode cX4_labelsBy 11 = .ok (.getfield 26, 3) := by decide +kernel
theorem dX4_labelsBy_14 : decode cX4_labelsBy 14 = .ok (.iload_n 3, 1) := by decide +kernel
theorem dX4_labelsBy_15 : decode cX4_labelsBy 15 = .ok (.aaload, 1) := by decide +kernel
theorem dX4_labelsBy_16 : decode cX4_labelsBy 16 = .ok (.invokevirtual 123, 3) := by decide +kernel
theorem dX4_labelsBy_19 : decode cX4_labelsBy 19 = .ok (.ifCond .eq 19, 3) := by decide +kernel
theorem dX4_labelsBy_22 : decode cX4_labelsBy 22 = .ok (.aload_n 0, 1) := by decide +kernel
theorem dX4_labelsBy_23 : decode cX4_labelsBy 23 = .ok (.getfield 26, 3) := by decide +kernel
theorem dX4_labelsBy_26 : decode cX4_labelsBy 26 = .ok (.iload_n 3, 1) := by decide +kernel
theorem dX4_labelsBy_27 : decode cX4_labelsBy 27 = .ok (.aaload, 1) := by decide +kernel
theorem dX4_labelsBy_28 : decode cX4_labelsBy 28 = .ok (.getfield 127, 3) := by decide +kernel
theorem dX4_labelsBy_31 : decode cX4_labelsBy 31 = .ok (.iload_n 1, 1) := by decide +kernel
theorem dX4_labelsBy_32 : decode cX4_labelsBy 32 = .ok (.if_icmp .ne 6, 3) := by decide +kernel
theorem dX4_labelsBy_35 : decode cX4_labelsBy 35 = .ok (.iinc 2 1, 3) := by decide +kernel
theorem dX4_labelsBy_38 : decode cX4_labelsBy 38 = .ok (.iinc 3 1, 3) := by decide +kernel
theorem dX4_labelsBy_41 : decode cX4_labelsBy 41 = .ok (.goto (-37), 3) := by decide +kernel
theorem dX4_labelsBy_44 : decode cX4_labelsBy 44 = .ok (.iload_n 2, 1) := by decide +kernel
theorem dX4_labelsBy_45 : decode cX4_labelsBy 45 = .ok (.ireturn, 1) := by decide +kernel
theorem dX4_labelsSharing_0 : decode cX4_labelsSharing 0 = .ok (.iconst 0, 1) := by decide +kernel
theorem dX4_labelsSharing_1 : decode cX4_labelsSharing 1 = .ok (.istore_n 3, 1) := by decide +kernel
theorem dX4_labelsSharing_2 : decode cX4_labelsSharing 2 = .ok (.iconst 0, 1) := by decide +kernel
theorem dX4_labelsSharing_3 : decode cX4_labelsSharing 3 = .ok (.istore 4, 2) := by decide +kernel
theorem dX4_labelsSharing_5 : decode cX4_labelsSharing 5 = .ok (.iload 4, 2) := by decide +kernel
theorem dX4_labelsSharing_7 : decode cX4_labelsSharing 7 = .ok (.bipush 8, 2) := by decide +kernel
theorem dX4_labelsSharing_9 : decode cX4_labelsSharing 9 = .ok (.if_icmp .ge 33, 3) := by decide +kernel
theorem dX4_labelsSharing_12 : decode cX4_labelsSharing 12 = .ok (.aload_n 0, 1) := by decide +kernel
theorem dX4_labelsSharing_13 : decode cX4_labelsSharing 13 = .ok (.getfield 26, 3) := by decide +kernel
theorem dX4_labelsSharing_16 : decode cX4_labelsSharing 16 = .ok (.iload 4, 2) := by decide +kernel
theorem dX4_labelsSharing_18 : decode cX4_labelsSharing 18 = .ok (.iload_n 1, 1) := by decide +kernel
theorem dX4_labelsSharing_19 : decode cX4_labelsSharing 19 = .ok (.invokestatic 80, 3) := by decide +kernel
theorem dX4_labelsSharing_22 : decode cX4_labelsSharing 22 = .ok (.aaload, 1) := by decide +kernel
theorem dX4_labelsSharing_23 : decode cX4_labelsSharing 23 = .ok (.getfield 128, 3) := by decide +kernel
theorem dX4_labelsSharing_26 : decode cX4_labelsSharing 26 = .ok (.aload_n 2, 1) := by decide +kernel
theorem dX4_labelsSharing_27 : decode cX4_labelsSharing 27 = .ok (.invokevirtual 129, 3) := by decide +kernel
theorem dX4_labelsSharing_30 : decode cX4_labelsSharing 30 = .ok (.ifCond .eq 6, 3) := by decide +kernel
theorem dX4_labelsSharing_33 : decode cX4_labelsSharing 33 = .ok (.iinc 3 1, 3) := by decide +kernel
theorem dX4_labelsSharing_36 : decode cX4_labelsSharing 36 = .ok (.iinc 4 1, 3) := by decide +kernel
theorem dX4_labelsSharing_39 : decode cX4_labelsSharing 39 = .ok (.goto (-34), 3) := by decide +kernel
theorem dX4_labelsSharing_42 : decode cX4_labelsSharing 42 = .ok (.iload_n 3, 1) := by decide +kernel
theorem dX4_labelsSharing_43 : decode cX4_labelsSharing 43 = .ok (.ireturn, 1) := by decide +kernel
theorem dX4_worksIn_0 : decode cX4_worksIn 0 = .ok (.iconst 0, 1) := by decide +kernel
theorem dX4_worksIn_1 : decode cX4_worksIn 1 = .ok (.istore_n 2, 1) := by decide +kernel
theorem dX4_worksIn_2 : decode cX4_worksIn 2 = .ok (.iconst 0, 1) := by decide +kernel
theorem dX4_worksIn_3 : decode cX4_worksIn 3 = .ok (.istore_n 3, 1) := by decide +kernel
theorem dX4_worksIn_4 : decode cX4_worksIn 4 = .ok (.iload_n 3, 1) := by decide +kernel
theorem dX4_worksIn_5 : decode cX4_worksIn 5 = .ok (.bipush 8, 2) := by decide +kernel
theorem dX4_worksIn_7 : decode cX4_worksIn 7 = .ok (.if_icmp .ge 22, 3) := by decide +kernel
theorem dX4_worksIn_10 : decode cX4_worksIn 10 = .ok (.aload_n 0, 1) := by decide +kernel
theorem dX4_worksIn_11 : decode cX4_worksIn 11 = .ok (.getfield 18, 3) := by decide +kernel
theorem dX4_worksIn_14 : decode cX4_worksIn 14 = .ok (.iload_n 3, 1) := by decide +kernel
theorem dX4_worksIn_15 : decode cX4_worksIn 15 = .ok (.iaload, 1) := by decide +kernel
theorem dX4_worksIn_16 : decode cX4_worksIn 16 = .ok (.iload_n 1, 1) := by decide +kernel
theorem dX4_worksIn_17 : decode cX4_worksIn 17 = .ok (.if_icmp .ne 6, 3) := by decide +kernel
theorem dX4_worksIn_20 : decode cX4_worksIn 20 = .ok (.iinc 2 1, 3) := by decide +kernel
theorem dX4_worksIn_23 : decode cX4_worksIn 23 = .ok (.iinc 3 1, 3) := by decide +kernel
theorem dX4_worksIn_26 : decode cX4_worksIn 26 = .ok (.goto (-22), 3) := by decide +kernel
theorem dX4_worksIn_29 : decode cX4_worksIn 29 = .ok (.iload_n 2, 1) := by decide +kernel
theorem dX4_worksIn_30 : decode cX4_worksIn 30 = .ok (.ireturn, 1) := by decide +kernel
theorem dX4_labelsIn_0 : decode cX4_labelsIn 0 = .ok (.iconst 0, 1) := by decide +kernel
theorem dX4_labelsIn_1 : decode cX4_labelsIn 1 = .ok (.istore_n 3, 1) := by decide +kernel
theorem dX4_labelsIn_2 : decode cX4_labelsIn 2 = .ok (.iconst 0, 1) := by decide +kernel
theorem dX4_labelsIn_3 : decode cX4_labelsIn 3 = .ok (.istore 4, 2) := by decide +kernel
theorem dX4_labelsIn_5 : decode cX4_labelsIn 5 = .ok (.iload 4, 2) := by decide +kernel
theorem dX4_labelsIn_7 : decode cX4_labelsIn 7 = .ok (.bipush 24, 2) := by decide +kernel
theorem dX4_labelsIn_9 : decode cX4_labelsIn 9 = .ok (.if_icmp .ge 75, 3) := by decide +kernel
theorem dX4_labelsIn_12 : decode cX4_labelsIn 12 = .ok (.aload_n 0, 1) := by decide +kernel
theorem dX4_labelsIn_13 : decode cX4_labelsIn 13 = .ok (.getfield 18, 3) := by decide +kernel
theorem dX4_labelsIn_16 : decode cX4_labelsIn 16 = .ok (.iload 4, 2) := by decide +kernel
theorem dX4_labelsIn_18 : decode cX4_labelsIn 18 = .ok (.iconst 3, 1) := by decide +kernel
theorem dX4_labelsIn_19 : decode cX4_labelsIn 19 = .ok (.idiv, 1) := by decide +kernel
theorem dX4_labelsIn_20 : decode cX4_labelsIn 20 = .ok (.iaload, 1) := by decide +kernel
theorem dX4_labelsIn_21 : decode cX4_labelsIn 21 = .ok (.iload_n 1, 1) := by decide +kernel
theorem dX4_labelsIn_22 : decode cX4_labelsIn 22 = .ok (.if_icmp .ne 7, 3) := by decide +kernel
theorem dX4_labelsIn_25 : decode cX4_labelsIn 25 = .ok (.iconst 1, 1) := by decide +kernel
theorem dX4_labelsIn_26 : decode cX4_labelsIn 26 = .ok (.goto 4, 3) := by decide +kernel
theorem dX4_labelsIn_29 : decode cX4_labelsIn 29 = .ok (.iconst 0, 1) := by decide +kernel
theorem dX4_labelsIn_30 : decode cX4_labelsIn 30 = .ok (.istore 5, 2) := by decide +kernel
theorem dX4_labelsIn_32 : decode cX4_labelsIn 32 = .ok (.aload_n 0, 1) := by decide +kernel
theorem dX4_labelsIn_33 : decode cX4_labelsIn 33 = .ok (.iload_n 1, 1) := by decide +kernel
theorem dX4_labelsIn_34 : decode cX4_labelsIn 34 = .ok (.iload 4, 2) := by decide +kernel
theorem dX4_labelsIn_36 : decode cX4_labelsIn 36 = .ok (.iconst 3, 1) := by decide +kernel
theorem dX4_labelsIn_37 : decode cX4_labelsIn 37 = .ok (.irem, 1) := by decide +kernel
theorem dX4_labelsIn_38 : decode cX4_labelsIn 38 = .ok (.invokevirtual 135, 3) := by decide +kernel
theorem dX4_labelsIn_41 : decode cX4_labelsIn 41 = .ok (.iload_n 2, 1) := by decide +kernel
theorem dX4_labelsIn_42 : decode cX4_labelsIn 42 = .ok (.if_icmp .ne 7, 3) := by decide +kernel
theorem dX4_labelsIn_45 : decode cX4_labelsIn 45 = .ok (.iconst 1, 1) := by decide +kernel
theorem dX4_labelsIn_46 : decode cX4_labelsIn 46 = .ok (.goto 4, 3) := by decide +kernel
theorem dX4_labelsIn_49 : decode cX4_labelsIn 49 = .ok (.iconst 0, 1) := by decide +kernel
theorem dX4_labelsIn_50 : decode cX4_labelsIn 50 = .ok (.istore 6, 2) := by decide +kernel
theorem dX4_labelsIn_52 : decode cX4_labelsIn 52 = .ok (.iload 5, 2) := by decide +kernel
theorem dX4_labelsIn_54 : decode cX4_labelsIn 54 = .ok (.ifCond .eq 24, 3) := by decide +kernel
theorem dX4_labelsIn_57 : decode cX4_labelsIn 57 = .ok (.iload 6, 2) := by decide +kernel
theorem dX4_labelsIn_59 : decode cX4_labelsIn 59 = .ok (.ifCond .eq 19, 3) := by decide +kernel
theorem dX4_labelsIn_62 : decode cX4_labelsIn 62 = .ok (.aload_n 0, 1) := by decide +kernel
theorem dX4_labelsIn_63 : decode cX4_labelsIn 63 = .ok (.getfield 26, 3) := by decide +kernel
theorem dX4_labelsIn_66 : decode cX4_labelsIn 66 = .ok (.iload 4, 2) := by decide +kernel
theorem dX4_labelsIn_68 : decode cX4_labelsIn 68 = .ok (.aaload, 1) := by decide +kernel
theorem dX4_labelsIn_69 : decode cX4_labelsIn 69 = .ok (.invokevirtual 123, 3) := by decide +kernel
theorem dX4_labelsIn_72 : decode cX4_labelsIn 72 = .ok (.ifCond .eq 6, 3) := by decide +kernel
theorem dX4_labelsIn_75 : decode cX4_labelsIn 75 = .ok (.iinc 3 1, 3) := by decide +kernel
theorem dX4_labelsIn_78 : decode cX4_labelsIn 78 = .ok (.iinc 4 1, 3) := by decide +kernel
theorem dX4_labelsIn_81 : decode cX4_labelsIn 81 = .ok (.goto (-76), 3) := by decide +kernel
theorem dX4_labelsIn_84 : decode cX4_labelsIn 84 = .ok (.iload_n 3, 1) := by decide +kernel
theorem dX4_labelsIn_85 : decode cX4_labelsIn 85 = .ok (.ireturn, 1) := by decide +kernel
theorem dX4_missingIn_0 : decode cX4_missingIn 0 = .ok (.aload_n 0, 1) := by decide +kernel
theorem dX4_missingIn_1 : decode cX4_missingIn 1 = .ok (.iload_n 1, 1) := by decide +kernel
theorem dX4_missingIn_2 : decode cX4_missingIn 2 = .ok (.invokevirtual 139, 3) := by decide +kernel
theorem dX4_missingIn_5 : decode cX4_missingIn 5 = .ok (.aload_n 0, 1) := by decide +kernel
theorem dX4_missingIn_6 : decode cX4_missingIn 6 = .ok (.getfield 15, 3) := by decide +kernel
theorem dX4_missingIn_9 : decode cX4_missingIn 9 = .ok (.iload_n 1, 1) := by decide +kernel
theorem dX4_missingIn_10 : decode cX4_missingIn 10 = .ok (.iaload, 1) := by decide +kernel
theorem dX4_missingIn_11 : decode cX4_missingIn 11 = .ok (.invokestatic 142, 3) := by decide +kernel
theorem dX4_missingIn_14 : decode cX4_missingIn 14 = .ok (.imul, 1) := by decide +kernel
theorem dX4_missingIn_15 : decode cX4_missingIn 15 = .ok (.aload_n 0, 1) := by decide +kernel
theorem dX4_missingIn_16 : decode cX4_missingIn 16 = .ok (.iload_n 1, 1) := by decide +kernel
theorem dX4_missingIn_17 : decode cX4_missingIn 17 = .ok (.iconst 1, 1) := by decide +kernel
theorem dX4_missingIn_18 : decode cX4_missingIn 18 = .ok (.invokevirtual 147, 3) := by decide +kernel
theorem dX4_missingIn_21 : decode cX4_missingIn 21 = .ok (.isub, 1) := by decide +kernel
theorem dX4_missingIn_22 : decode cX4_missingIn 22 = .ok (.ireturn, 1) := by decide +kernel
theorem dX4_allMissing_0 : decode cX4_allMissing 0 = .ok (.iconst 0, 1) := by decide +kernel
theorem dX4_allMissing_1 : decode cX4_allMissing 1 = .ok (.istore_n 1, 1) := by decide +kernel
theorem dX4_allMissing_2 : decode cX4_allMissing 2 = .ok (.iconst 0, 1) := by decide +kernel
theorem dX4_allMissing_3 : decode cX4_allMissing 3 = .ok (.istore_n 2, 1) := by decide +kernel
theorem dX4_allMissing_4 : decode cX4_allMissing 4 = .ok (.iload_n 2, 1) := by decide +kernel
theorem dX4_allMissing_5 : decode cX4_allMissing 5 = .ok (.iconst 4, 1) := by decide +kernel
theorem dX4_allMissing_6 : decode cX4_allMissing 6 = .ok (.if_icmp .ge 17, 3) := by decide +kernel
theorem dX4_allMissing_9 : decode cX4_allMissing 9 = .ok (.iload_n 1, 1) := by decide +kernel
theorem dX4_allMissing_10 : decode cX4_allMissing 10 = .ok (.aload_n 0, 1) := by decide +kernel
theorem dX4_allMissing_11 : decode cX4_allMissing 11 = .ok (.iload_n 2, 1) := by decide +kernel
theorem dX4_allMissing_12 : decode cX4_allMissing 12 = .ok (.invokevirtual 151, 3) := by decide +kernel
theorem dX4_allMissing_15 : decode cX4_allMissing 15 = .ok (.iadd, 1) := by decide +kernel
theorem dX4_allMissing_16 : decode cX4_allMissing 16 = .ok (.istore_n 1, 1) := by decide +kernel
theorem dX4_allMissing_17 : decode cX4_allMissing 17 = .ok (.iinc 2 1, 3) := by decide +kernel
theorem dX4_allMissing_20 : decode cX4_allMissing 20 = .ok (.goto (-16), 3) := by decide +kernel
theorem dX4_allMissing_23 : decode cX4_allMissing 23 = .ok (.iload_n 1, 1) := by decide +kernel
theorem dX4_allMissing_24 : decode cX4_allMissing 24 = .ok (.ireturn, 1) := by decide +kernel
theorem dX4_longestIn_0 : decode cX4_longestIn 0 = .ok (.iconst 0, 1) := by decide +kernel
theorem dX4_longestIn_1 : decode cX4_longestIn 1 = .ok (.istore_n 2, 1) := by decide +kernel
theorem dX4_longestIn_2 : decode cX4_longestIn 2 = .ok (.iconst 0, 1) := by decide +kernel
theorem dX4_longestIn_3 : decode cX4_longestIn 3 = .ok (.istore_n 3, 1) := by decide +kernel
theorem dX4_longestIn_4 : decode cX4_longestIn 4 = .ok (.iload_n 3, 1) := by decide +kernel
theorem dX4_longestIn_5 : decode cX4_longestIn 5 = .ok (.bipush 24, 2) := by decide +kernel
theorem dX4_longestIn_7 : decode cX4_longestIn 7 = .ok (.if_icmp .ge 38, 3) := by decide +kernel
theorem dX4_longestIn_10 : decode cX4_longestIn 10 = .ok (.aload_n 0, 1) := by decide +kernel
theorem dX4_longestIn_11 : decode cX4_longestIn 11 = .ok (.getfield 18, 3) := by decide +kernel
theorem dX4_longestIn_14 : decode cX4_longestIn 14 = .ok (.iload_n 3, 1) := by decide +kernel
theorem dX4_longestIn_15 : decode cX4_longestIn 15 = .ok (.iconst 3, 1) := by decide +kernel
theorem dX4_longestIn_16 : decode cX4_longestIn 16 = .ok (.idiv, 1) := by decide +kernel
theorem dX4_longestIn_17 : decode cX4_longestIn 17 = .ok (.iaload, 1) := by decide +kernel
theorem dX4_longestIn_18 : decode cX4_longestIn 18 = .ok (.iload_n 1, 1) := by decide +kernel
theorem dX4_longestIn_19 : decode cX4_longestIn 19 = .ok (.if_icmp .ne 20, 3) := by decide +kernel
theorem dX4_longestIn_22 : decode cX4_longestIn 22 = .ok (.iload_n 2, 1) := by decide +kernel
theorem dX4_longestIn_23 : decode cX4_longestIn 23 = .ok (.aload_n 0, 1) := by decide +kernel
theorem dX4_longestIn_24 : decode cX4_longestIn 24 = .ok (.getfield 26, 3) := by decide +kernel
theorem dX4_longestIn_27 : decode cX4_longestIn 27 = .ok (.iload_n 3, 1) := by decide +kernel
theorem dX4_longestIn_28 : decode cX4_longestIn 28 = .ok (.aaload, 1) := by decide +kernel
theorem dX4_longestIn_29 : decode cX4_longestIn 29 = .ok (.getfield 128, 3) := by decide +kernel
theorem dX4_longestIn_32 : decode cX4_longestIn 32 = .ok (.getfield 154, 3) := by decide +kernel
theorem dX4_longestIn_35 : decode cX4_longestIn 35 = .ok (.invokestatic 157, 3) := by decide +kernel
theorem dX4_longestIn_38 : decode cX4_longestIn 38 = .ok (.istore_n 2, 1) := by decide +kernel
theorem dX4_longestIn_39 : decode cX4_longestIn 39 = .ok (.iinc 3 1, 3) := by decide +kernel
theorem dX4_longestIn_42 : decode cX4_longestIn 42 = .ok (.goto (-38), 3) := by decide +kernel
theorem dX4_longestIn_45 : decode cX4_longestIn 45 = .ok (.iload_n 2, 1) := by decide +kernel
theorem dX4_longestIn_46 : decode cX4_longestIn 46 = .ok (.ireturn, 1) := by decide +kernel
theorem dX0_init_0 : decode cX0_init 0 = .ok (.aload_n 0, 1) := by decide +kernel
theorem dX0_init_1 : decode cX0_init 1 = .ok (.invokespecial 3, 3) := by decide +kernel
theorem dX0_init_4 : decode cX0_init 4 = .ok (.aload_n 0, 1) := by decide +kernel
theorem dX0_init_5 : decode cX0_init 5 = .ok (.iconst 4, 1) := by decide +kernel
theorem dX0_init_6 : decode cX0_init 6 = .ok (.anewarray 9, 3) := by decide +kernel
theorem dX0_init_9 : decode cX0_init 9 = .ok (.putfield 11, 3) := by decide +kernel
theorem dX0_init_12 : decode cX0_init 12 = .ok (.iconst 0, 1) := by decide +kernel
theorem dX0_init_13 : decode cX0_init 13 = .ok (.istore_n 1, 1) := by decide +kernel
theorem dX0_init_14 : decode cX0_init 14 = .ok (.iload_n 1, 1) := by decide +kernel
theorem dX0_init_15 : decode cX0_init 15 = .ok (.aload_n 0, 1) := by decide +kernel
theorem dX0_init_16 : decode cX0_init 16 = .ok (.getfield 11, 3) := by decide +kernel
theorem dX0_init_19 : decode cX0_init 19 = .ok (.arraylength, 1) := by decide +kernel
theorem dX0_init_20 : decode cX0_init 20 = .ok (.if_icmp .ge 22, 3) := by decide +kernel
theorem dX0_init_23 : decode cX0_init 23 = .ok (.aload_n 0, 1) := by decide +kernel
theorem dX0_init_24 : decode cX0_init 24 = .ok (.getfield 11, 3) := by decide +kernel
theorem dX0_init_27 : decode cX0_init 27 = .ok (.iload_n 1, 1) := by decide +kernel
theorem dX0_init_28 : decode cX0_init 28 = .ok (.new 9, 3) := by decide +kernel
theorem dX0_init_31 : decode cX0_init 31 = .ok (.dup, 1) := by decide +kernel
theorem dX0_init_32 : decode cX0_init 32 = .ok (.invokespecial 17, 3) := by decide +kernel
theorem dX0_init_35 : decode cX0_init 35 = .ok (.aastore, 1) := by decide +kernel
theorem dX0_init_36 : decode cX0_init 36 = .ok (.iinc 1 1, 3) := by decide +kernel
theorem dX0_init_39 : decode cX0_init 39 = .ok (.goto (-25), 3) := by decide +kernel
theorem dX0_init_42 : decode cX0_init 42 = .ok (.return_, 1) := by decide +kernel
theorem dX0_push_0 : decode cX0_push 0 = .ok (.aload_n 0, 1) := by decide +kernel
theorem dX0_push_1 : decode cX0_push 1 = .ok (.getfield 11, 3) := by decide +kernel
theorem dX0_push_4 : decode cX0_push 4 = .ok (.aload_n 0, 1) := by decide +kernel
theorem dX0_push_5 : decode cX0_push 5 = .ok (.getfield 18, 3) := by decide +kernel
theorem dX0_push_8 : decode cX0_push 8 = .ok (.aaload, 1) := by decide +kernel
theorem dX0_push_9 : decode cX0_push 9 = .ok (.aload_n 1, 1) := by decide +kernel
theorem dX0_push_10 : decode cX0_push 10 = .ok (.invokevirtual 22, 3) := by decide +kernel
theorem dX0_push_13 : decode cX0_push 13 = .ok (.aload_n 0, 1) := by decide +kernel
theorem dX0_push_14 : decode cX0_push 14 = .ok (.aload_n 0, 1) := by decide +kernel
theorem dX0_push_15 : decode cX0_push 15 = .ok (.getfield 18, 3) := by decide +kernel
theorem dX0_push_18 : decode cX0_push 18 = .ok (.iconst 1, 1) := by decide +kernel
theorem dX0_push_19 : decode cX0_push 19 = .ok (.iadd, 1) := by decide +kernel
theorem dX0_push_20 : decode cX0_push 20 = .ok (.iconst 4, 1) := by decide +kernel
theorem dX0_push_21 : decode cX0_push 21 = .ok (.irem, 1) := by decide +kernel
theorem dX0_push_22 : decode cX0_push 22 = .ok (.putfield 18, 3) := by decide +kernel
theorem dX0_push_25 : decode cX0_push 25 = .ok (.aload_n 0, 1) := by decide +kernel
theorem dX0_push_26 : decode cX0_push 26 = .ok (.getfield 26, 3) := by decide +kernel
theorem dX0_push_29 : decode cX0_push 29 = .ok (.iconst 4, 1) := by decide +kernel
theorem dX0_push_30 : decode cX0_push 30 = .ok (.if_icmp .ge 13, 3) := by decide +kernel
theorem dX0_push_33 : decode cX0_push 33 = .ok (.aload_n 0, 1) := by decide +kernel
theorem dX0_push_34 : decode cX0_push 34 = .ok (.dup, 1) := by decide +kernel
theorem dX0_push_35 : decode cX0_push 35 = .ok (.getfield 26, 3) := by decide +kernel
theorem dX0_push_38 : decode cX0_push 38 = .ok (.iconst 1, 1) := by decide +kernel
theorem dX0_push_39 : decode cX0_push 39 = .ok (.iadd, 1) := by decide +kernel
theorem dX0_push_40 : decode cX0_push 40 = .ok (.putfield 26, 3) := by decide +kernel
theorem dX0_push_43 : decode cX0_push 43 = .ok (.return_, 1) := by decide +kernel
theorem dX0_popInto_0 : decode cX0_popInto 0 = .ok (.aload_n 0, 1) := by decide +kernel
theorem dX0_popInto_1 : decode cX0_popInto 1 = .ok (.aload_n 0, 1) := by decide +kernel
theorem dX0_popInto_2 : decode cX0_popInto 2 = .ok (.getfield 18, 3) := by decide +kernel
theorem dX0_popInto_5 : decode cX0_popInto 5 = .ok (.iconst 4, 1) := by decide +kernel
theorem dX0_popInto_6 : decode cX0_popInto 6 = .ok (.iadd, 1) := by decide +kernel
theorem dX0_popInto_7 : decode cX0_popInto 7 = .ok (.iconst 1, 1) := by decide +kernel
theorem dX0_popInto_8 : decode cX0_popInto 8 = .ok (.isub, 1) := by decide +kernel
theorem dX0_popInto_9 : decode cX0_popInto 9 = .ok (.iconst 4, 1) := by decide +kernel
theorem dX0_popInto_10 : decode cX0_popInto 10 = .ok (.irem, 1) := by decide +kernel
theorem dX0_popInto_11 : decode cX0_popInto 11 = .ok (.putfield 18, 3) := by decide +kernel
theorem dX0_popInto_14 : decode cX0_popInto 14 = .ok (.aload_n 0, 1) := by decide +kernel
theorem dX0_popInto_15 : decode cX0_popInto 15 = .ok (.dup, 1) := by decide +kernel
theorem dX0_popInto_16 : decode cX0_popInto 16 = .ok (.getfield 26, 3) := by decide +kernel
theorem dX0_popInto_19 : decode cX0_popInto 19 = .ok (.iconst 1, 1) := by decide +kernel
theorem dX0_popInto_20 : decode cX0_popInto 20 = .ok (.isub, 1) := by decide +kernel
theorem dX0_popInto_21 : decode cX0_popInto 21 = .ok (.putfield 26, 3) := by decide +kernel
theorem dX0_popInto_24 : decode cX0_popInto 24 = .ok (.aload_n 1, 1) := by decide +kernel
theorem dX0_popInto_25 : decode cX0_popInto 25 = .ok (.aload_n 0, 1) := by decide +kernel
theorem dX0_popInto_26 : decode cX0_popInto 26 = .ok (.getfield 11, 3) := by decide +kernel
theorem dX0_popInto_29 : decode cX0_popInto 29 = .ok (.aload_n 0, 1) := by decide +kernel
theorem dX0_popInto_30 : decode cX0_popInto 30 = .ok (.getfield 18, 3) := by decide +kernel
theorem dX0_popInto_33 : decode cX0_popInto 33 = .ok (.aaload, 1) := by decide +kernel
theorem dX0_popInto_34 : decode cX0_popInto 34 = .ok (.invokevirtual 22, 3) := by decide +kernel
theorem dX0_popInto_37 : decode cX0_popInto 37 = .ok (.return_, 1) := by decide +kernel
theorem dJ6_bitCount_0f7a4_0 : decode cJ6_bitCount_0f7a4 0 = .ok (.iload_n 0, 1) := by decide +kernel
theorem dJ6_bitCount_0f7a4_1 : decode cJ6_bitCount_0f7a4 1 = .ok (.iload_n 0, 1) := by decide +kernel
theorem dJ6_bitCount_0f7a4_2 : decode cJ6_bitCount_0f7a4 2 = .ok (.iconst 1, 1) := by decide +kernel
theorem dJ6_bitCount_0f7a4_3 : decode cJ6_bitCount_0f7a4 3 = .ok (.iushr, 1) := by decide +kernel
theorem dJ6_bitCount_0f7a4_4 : decode cJ6_bitCount_0f7a4 4 = .ok (.ldc_w 265, 3) := by decide +kernel
theorem dJ6_bitCount_0f7a4_7 : decode cJ6_bitCount_0f7a4 7 = .ok (.iand, 1) := by decide +kernel
theorem dJ6_bitCount_0f7a4_8 : decode cJ6_bitCount_0f7a4 8 = .ok (.isub, 1) := by decide +kernel
theorem dJ6_bitCount_0f7a4_9 : decode cJ6_bitCount_0f7a4 9 = .ok (.istore_n 0, 1) := by decide +kernel
theorem dJ6_bitCount_0f7a4_10 : decode cJ6_bitCount_0f7a4 10 = .ok (.iload_n 0, 1) := by decide +kernel
theorem dJ6_bitCount_0f7a4_11 : decode cJ6_bitCount_0f7a4 11 = .ok (.ldc_w 266, 3) := by decide +kernel
theorem dJ6_bitCount_0f7a4_14 : decode cJ6_bitCount_0f7a4 14 = .ok (.iand, 1) := by decide +kernel
theorem dJ6_bitCount_0f7a4_15 : decode cJ6_bitCount_0f7a4 15 = .ok (.iload_n 0, 1) := by decide +kernel
theorem dJ6_bitCount_0f7a4_16 : decode cJ6_bitCount_0f7a4 16 = .ok (.iconst 2, 1) := by decide +kernel
theorem dJ6_bitCount_0f7a4_17 : decode cJ6_bitCount_0f7a4 17 = .ok (.iushr, 1) := by decide +kernel
theorem dJ6_bitCount_0f7a4_18 : decode cJ6_bitCount_0f7a4 18 = .ok (.ldc_w 266, 3) := by decide +kernel
theorem dJ6_bitCount_0f7a4_21 : decode cJ6_bitCount_0f7a4 21 = .ok (.iand, 1) := by decide +kernel
theorem dJ6_bitCount_0f7a4_22 : decode cJ6_bitCount_0f7a4 22 = .ok (.iadd, 1) := by decide +kernel
theorem dJ6_bitCount_0f7a4_23 : decode cJ6_bitCount_0f7a4 23 = .ok (.istore_n 0, 1) := by decide +kernel
theorem dJ6_bitCount_0f7a4_24 : decode cJ6_bitCount_0f7a4 24 = .ok (.iload_n 0, 1) := by decide +kernel
theorem dJ6_bitCount_0f7a4_25 : decode cJ6_bitCount_0f7a4 25 = .ok (.iload_n 0, 1) := by decide +kernel
theorem dJ6_bitCount_0f7a4_26 : decode cJ6_bitCount_0f7a4 26 = .ok (.iconst 4, 1) := by decide +kernel
theorem dJ6_bitCount_0f7a4_27 : decode cJ6_bitCount_0f7a4 27 = .ok (.iushr, 1) := by decide +kernel
theorem dJ6_bitCount_0f7a4_28 : decode cJ6_bitCount_0f7a4 28 = .ok (.iadd, 1) := by decide +kernel
theorem dJ6_bitCount_0f7a4_29 : decode cJ6_bitCount_0f7a4 29 = .ok (.ldc_w 267, 3) := by decide +kernel
theorem dJ6_bitCount_0f7a4_32 : decode cJ6_bitCount_0f7a4 32 = .ok (.iand, 1) := by decide +kernel
theorem dJ6_bitCount_0f7a4_33 : decode cJ6_bitCount_0f7a4 33 = .ok (.istore_n 0, 1) := by decide +kernel
theorem dJ6_bitCount_0f7a4_34 : decode cJ6_bitCount_0f7a4 34 = .ok (.iload_n 0, 1) := by decide +kernel
theorem dJ6_bitCount_0f7a4_35 : decode cJ6_bitCount_0f7a4 35 = .ok (.iload_n 0, 1) := by decide +kernel
theorem dJ6_bitCount_0f7a4_36 : decode cJ6_bitCount_0f7a4 36 = .ok (.bipush 8, 2) := by decide +kernel
theorem dJ6_bitCount_0f7a4_38 : decode cJ6_bitCount_0f7a4 38 = .ok (.iushr, 1) := by decide +kernel
theorem dJ6_bitCount_0f7a4_39 : decode cJ6_bitCount_0f7a4 39 = .ok (.iadd, 1) := by decide +kernel
theorem dJ6_bitCount_0f7a4_40 : decode cJ6_bitCount_0f7a4 40 = .ok (.istore_n 0, 1) := by decide +kernel
theorem dJ6_bitCount_0f7a4_41 : decode cJ6_bitCount_0f7a4 41 = .ok (.iload_n 0, 1) := by decide +kernel
theorem dJ6_bitCount_0f7a4_42 : decode cJ6_bitCount_0f7a4 42 = .ok (.iload_n 0, 1) := by decide +kernel
theorem dJ6_bitCount_0f7a4_43 : decode cJ6_bitCount_0f7a4 43 = .ok (.bipush 16, 2) := by decide +kernel
theorem dJ6_bitCount_0f7a4_45 : decode cJ6_bitCount_0f7a4 45 = .ok (.iushr, 1) := by decide +kernel
theorem dJ6_bitCount_0f7a4_46 : decode cJ6_bitCount_0f7a4 46 = .ok (.iadd, 1) := by decide +kernel
theorem dJ6_bitCount_0f7a4_47 : decode cJ6_bitCount_0f7a4 47 = .ok (.istore_n 0, 1) := by decide +kernel
theorem dJ6_bitCount_0f7a4_48 : decode cJ6_bitCount_0f7a4 48 = .ok (.iload_n 0, 1) := by decide +kernel
theorem dJ6_bitCount_0f7a4_49 : decode cJ6_bitCount_0f7a4 49 = .ok (.bipush 63, 2) := by decide +kernel
theorem dJ6_bitCount_0f7a4_51 : decode cJ6_bitCount_0f7a4 51 = .ok (.iand, 1) := by decide +kernel
theorem dJ6_bitCount_0f7a4_52 : decode cJ6_bitCount_0f7a4 52 = .ok (.ireturn, 1) := by decide +kernel
theorem dJ9_max_7cf53_0 : decode cJ9_max_7cf53 0 = .ok (.iload_n 0, 1) := by decide +kernel
theorem dJ9_max_7cf53_1 : decode cJ9_max_7cf53 1 = .ok (.iload_n 1, 1) := by decide +kernel
theorem dJ9_max_7cf53_2 : decode cJ9_max_7cf53 2 = .ok (.if_icmp .lt 7, 3) := by decide +kernel
theorem dJ9_max_7cf53_5 : decode cJ9_max_7cf53 5 = .ok (.iload_n 0, 1) := by decide +kernel
theorem dJ9_max_7cf53_6 : decode cJ9_max_7cf53 6 = .ok (.goto 4, 3) := by decide +kernel
theorem dJ9_max_7cf53_9 : decode cJ9_max_7cf53 9 = .ok (.iload_n 1, 1) := by decide +kernel
theorem dJ9_max_7cf53_10 : decode cJ9_max_7cf53 10 = .ok (.ireturn, 1) := by decide +kernel
theorem dJ7_fill_53178_0 : decode cJ7_fill_53178 0 = .ok (.iconst 0, 1) := by decide +kernel
theorem dJ7_fill_53178_1 : decode cJ7_fill_53178 1 = .ok (.istore_n 2, 1) := by decide +kernel
theorem dJ7_fill_53178_2 : decode cJ7_fill_53178 2 = .ok (.aload_n 0, 1) := by decide +kernel
theorem dJ7_fill_53178_3 : decode cJ7_fill_53178 3 = .ok (.arraylength, 1) := by decide +kernel
theorem dJ7_fill_53178_4 : decode cJ7_fill_53178 4 = .ok (.istore_n 3, 1) := by decide +kernel
theorem dJ7_fill_53178_5 : decode cJ7_fill_53178 5 = .ok (.iload_n 2, 1) := by decide +kernel
theorem dJ7_fill_53178_6 : decode cJ7_fill_53178 6 = .ok (.iload_n 3, 1) := by decide +kernel
theorem dJ7_fill_53178_7 : decode cJ7_fill_53178 7 = .ok (.if_icmp .ge 13, 3) := by decide +kernel
theorem dJ7_fill_53178_10 : decode cJ7_fill_53178 10 = .ok (.aload_n 0, 1) := by decide +kernel
theorem dJ7_fill_53178_11 : decode cJ7_fill_53178 11 = .ok (.iload_n 2, 1) := by decide +kernel
theorem dJ7_fill_53178_12 : decode cJ7_fill_53178 12 = .ok (.iload_n 1, 1) := by decide +kernel
theorem dJ7_fill_53178_13 : decode cJ7_fill_53178 13 = .ok (.iastore, 1) := by decide +kernel
theorem dJ7_fill_53178_14 : decode cJ7_fill_53178 14 = .ok (.iinc 2 1, 3) := by decide +kernel
theorem dJ7_fill_53178_17 : decode cJ7_fill_53178 17 = .ok (.goto (-12), 3) := by decide +kernel
theorem dJ7_fill_53178_20 : decode cJ7_fill_53178 20 = .ok (.return_, 1) := by decide +kernel
