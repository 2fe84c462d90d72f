theorem dX5_addToType_23 : decode cX5_addToType 23 = .ok (.ifCond .ne 17, 3) := by decide +kernel
theorem dX5_addToType_26 : decode cX5_addToType 26 = .ok (.iload 4, 2) := by decide +kernel
theorem dX5_addToType_28 : decode cX5_addToType 28 = .ok (.aload_n 0, 1) := by decide +kernel
theorem dX5_addToType_29 : decode cX5_addToType 29 = .ok (.getfield 31, 3) := by decide +kernel
theorem dX5_addToType_32 : decode cX5_addToType 32 = .ok (.iload_n 1, 1) := by decide +kernel
theorem dX5_addToType_33 : decode cX5_addToType 33 = .ok (.iaload, 1) := by decide +kernel
theorem dX5_addToType_34 : decode cX5_addToType 34 = .ok (.iconst (-1), 1) := by decide +kernel
theorem dX5_addToType_35 : decode cX5_addToType 35 = .ok (.ixor, 1) := by decide +kernel
theorem dX5_addToType_36 : decode cX5_addToType 36 = .ok (.iand, 1) := by decide +kernel
theorem dX5_addToType_37 : decode cX5_addToType 37 = .ok (.ifCond .eq 7, 3) := by decide +kernel
theorem dX5_addToType_40 : decode cX5_addToType 40 = .ok (.iconst 1, 1) := by decide +kernel
theorem dX5_addToType_41 : decode cX5_addToType 41 = .ok (.goto 4, 3) := by decide +kernel
theorem dX5_addToType_44 : decode cX5_addToType 44 = .ok (.iconst 0, 1) := by decide +kernel
theorem dX5_addToType_45 : decode cX5_addToType 45 = .ok (.istore 5, 2) := by decide +kernel
theorem dX5_addToType_47 : decode cX5_addToType 47 = .ok (.aload_n 0, 1) := by decide +kernel
theorem dX5_addToType_48 : decode cX5_addToType 48 = .ok (.getfield 25, 3) := by decide +kernel
theorem dX5_addToType_51 : decode cX5_addToType 51 = .ok (.iload_n 1, 1) := by decide +kernel
theorem dX5_addToType_52 : decode cX5_addToType 52 = .ok (.aload_n 0, 1) := by decide +kernel
theorem dX5_addToType_53 : decode cX5_addToType 53 = .ok (.getfield 25, 3) := by decide +kernel
theorem dX5_addToType_56 : decode cX5_addToType 56 = .ok (.iload_n 1, 1) := by decide +kernel
theorem dX5_addToType_57 : decode cX5_addToType 57 = .ok (.baload, 1) := by decide +kernel
theorem dX5_addToType_58 : decode cX5_addToType 58 = .ok (.ifCond .ne 7, 3) := by decide +kernel
theorem dX5_addToType_61 : decode cX5_addToType 61 = .ok (.iload_n 2, 1) := by decide +kernel
theorem dX5_addToType_62 : decode cX5_addToType 62 = .ok (.ifCond .eq 7, 3) := by decide +kernel
theorem dX5_addToType_65 : decode cX5_addToType 65 = .ok (.iconst 1, 1) := by decide +kernel
theorem dX5_addToType_66 : decode cX5_addToType 66 = .ok (.goto 4, 3) := by decide +kernel
theorem dX5_addToType_69 : decode cX5_addToType 69 = .ok (.iconst 0, 1) := by decide +kernel
theorem dX5_addToType_70 : decode cX5_addToType 70 = .ok (.bastore, 1) := by decide +kernel
theorem dX5_addToType_71 : decode cX5_addToType 71 = .ok (.aload_n 0, 1) := by decide +kernel
theorem dX5_addToType_72 : decode cX5_addToType 72 = .ok (.getfield 28, 3) := by decide +kernel
theorem dX5_addToType_75 : decode cX5_addToType 75 = .ok (.iload_n 1, 1) := by decide +kernel
theorem dX5_addToType_76 : decode cX5_addToType 76 = .ok (.dup2, 1) := by decide +kernel
theorem dX5_addToType_77 : decode cX5_addToType 77 = .ok (.iaload, 1) := by decide +kernel
theorem dX5_addToType_78 : decode cX5_addToType 78 = .ok (.iload_n 3, 1) := by decide +kernel
theorem dX5_addToType_79 : decode cX5_addToType 79 = .ok (.ior, 1) := by decide +kernel
theorem dX5_addToType_80 : decode cX5_addToType 80 = .ok (.iastore, 1) := by decide +kernel
theorem dX5_addToType_81 : decode cX5_addToType 81 = .ok (.aload_n 0, 1) := by decide +kernel
theorem dX5_addToType_82 : decode cX5_addToType 82 = .ok (.getfield 31, 3) := by decide +kernel
theorem dX5_addToType_85 : decode cX5_addToType 85 = .ok (.iload_n 1, 1) := by decide +kernel
theorem dX5_addToType_86 : decode cX5_addToType 86 = .ok (.dup2, 1) := by decide +kernel
theorem dX5_addToType_87 : decode cX5_addToType 87 = .ok (.iaload, 1) := by decide +kernel
theorem dX5_addToType_88 : decode cX5_addToType 88 = .ok (.iload 4, 2) := by decide +kernel
theorem dX5_addToType_90 : decode cX5_addToType 90 = .ok (.ior, 1) := by decide +kernel
theorem dX5_addToType_91 : decode cX5_addToType 91 = .ok (.iastore, 1) := by decide +kernel
theorem dX5_addToType_92 : decode cX5_addToType 92 = .ok (.iload 5, 2) := by decide +kernel
theorem dX5_addToType_94 : decode cX5_addToType 94 = .ok (.ireturn, 1) := by decide +kernel
theorem dX5_faultAt_0 : decode cX5_faultAt 0 = .ok (.aload_n 0, 1) := by decide +kernel
theorem dX5_faultAt_1 : decode cX5_faultAt 1 = .ok (.getfield 38, 3) := by decide +kernel
theorem dX5_faultAt_4 : decode cX5_faultAt 4 = .ok (.iload_n 1, 1) := by decide +kernel
theorem dX5_faultAt_5 : decode cX5_faultAt 5 = .ok (.invokevirtual 65, 3) := by decide +kernel
theorem dX5_faultAt_8 : decode cX5_faultAt 8 = .ok (.tableswitch 113 3 5 #[55, 84, 28], 28) := by decide +kernel
theorem dX5_faultAt_36 : decode cX5_faultAt 36 = .ok (.aload_n 0, 1) := by decide +kernel
theorem dX5_faultAt_37 : decode cX5_faultAt 37 = .ok (.getfield 18, 3) := by decide +kernel
theorem dX5_faultAt_40 : decode cX5_faultAt 40 = .ok (.iload_n 1, 1) := by decide +kernel
theorem dX5_faultAt_41 : decode cX5_faultAt 41 = .ok (.iaload, 1) := by decide +kernel
theorem dX5_faultAt_42 : decode cX5_faultAt 42 = .ok (.iconst (-1), 1) := by decide +kernel
theorem dX5_faultAt_43 : decode cX5_faultAt 43 = .ok (.if_icmp .ne 5, 3) := by decide +kernel
theorem dX5_faultAt_46 : decode cX5_faultAt 46 = .ok (.iconst 1, 1) := by decide +kernel
theorem dX5_faultAt_47 : decode cX5_faultAt 47 = .ok (.ireturn, 1) := by decide +kernel
theorem dX5_faultAt_48 : decode cX5_faultAt 48 = .ok (.aload_n 0, 1) := by decide +kernel
theorem dX5_faultAt_49 : decode cX5_faultAt 49 = .ok (.getfield 21, 3) := by decide +kernel
theorem dX5_faultAt_52 : decode cX5_faultAt 52 = .ok (.iload_n 1, 1) := by decide +kernel
theorem dX5_faultAt_53 : decode cX5_faultAt 53 = .ok (.baload, 1) := by decide +kernel
theorem dX5_faultAt_54 : decode cX5_faultAt 54 = .ok (.ifCond .eq 7, 3) := by decide +kernel
theorem dX5_faultAt_57 : decode cX5_faultAt 57 = .ok (.iconst 0, 1) := by decide +kernel
theorem dX5_faultAt_58 : decode cX5_faultAt 58 = .ok (.goto 4, 3) := by decide +kernel
theorem dX5_faultAt_61 : decode cX5_faultAt 61 = .ok (.iconst 2, 1) := by decide +kernel
theorem dX5_faultAt_62 : decode cX5_faultAt 62 = .ok (.ireturn, 1) := by decide +kernel
theorem dX5_faultAt_63 : decode cX5_faultAt 63 = .ok (.aload_n 0, 1) := by decide +kernel
theorem dX5_faultAt_64 : decode cX5_faultAt 64 = .ok (.aload_n 0, 1) := by decide +kernel
theorem dX5_faultAt_65 : decode cX5_faultAt 65 = .ok (.getfield 38, 3) := by decide +kernel
theorem dX5_faultAt_68 : decode cX5_faultAt 68 = .ok (.iload_n 1, 1) := by decide +kernel
theorem dX5_faultAt_69 : decode cX5_faultAt 69 = .ok (.invokevirtual 53, 3) := by decide +kernel
theorem dX5_faultAt_72 : decode cX5_faultAt 72 = .ok (.aload_n 0, 1) := by decide +kernel
theorem dX5_faultAt_73 : decode cX5_faultAt 73 = .ok (.getfield 38, 3) := by decide +kernel
theorem dX5_faultAt_76 : decode cX5_faultAt 76 = .ok (.iload_n 1, 1) := by decide +kernel
theorem dX5_faultAt_77 : decode cX5_faultAt 77 = .ok (.invokevirtual 59, 3) := by decide +kernel
theorem dX5_faultAt_80 : decode cX5_faultAt 80 = .ok (.invokevirtual 90, 3) := by decide +kernel
theorem dX5_faultAt_83 : decode cX5_faultAt 83 = .ok (.ifCond .eq 7, 3) := by decide +kernel
theorem dX5_faultAt_86 : decode cX5_faultAt 86 = .ok (.iconst 3, 1) := by decide +kernel
theorem dX5_faultAt_87 : decode cX5_faultAt 87 = .ok (.goto 4, 3) := by decide +kernel
theorem dX5_faultAt_90 : decode cX5_faultAt 90 = .ok (.iconst 0, 1) := by decide +kernel
theorem dX5_faultAt_91 : decode cX5_faultAt 91 = .ok (.ireturn, 1) := by decide +kernel
theorem dX5_faultAt_92 : decode cX5_faultAt 92 = .ok (.aload_n 0, 1) := by decide +kernel
theorem dX5_faultAt_93 : decode cX5_faultAt 93 = .ok (.aload_n 0, 1) := by decide +kernel
theorem dX5_faultAt_94 : decode cX5_faultAt 94 = .ok (.getfield 38, 3) := by decide +kernel
theorem dX5_faultAt_97 : decode cX5_faultAt 97 = .ok (.iload_n 1, 1) := by decide +kernel
theorem dX5_faultAt_98 : decode cX5_faultAt 98 = .ok (.invokevirtual 53, 3) := by decide +kernel
theorem dX5_faultAt_101 : decode cX5_faultAt 101 = .ok (.aload_n 0, 1) := by decide +kernel
theorem dX5_faultAt_102 : decode cX5_faultAt 102 = .ok (.getfield 38, 3) := by decide +kernel
theorem dX5_faultAt_105 : decode cX5_faultAt 105 = .ok (.iload_n 1, 1) := by decide +kernel
theorem dX5_faultAt_106 : decode cX5_faultAt 106 = .ok (.invokevirtual 59, 3) := by decide +kernel
theorem dX5_faultAt_109 : decode cX5_faultAt 109 = .ok (.invokevirtual 93, 3) := by decide +kernel
theorem dX5_faultAt_112 : decode cX5_faultAt 112 = .ok (.ifCond .eq 7, 3) := by decide +kernel
theorem dX5_faultAt_115 : decode cX5_faultAt 115 = .ok (.iconst 4, 1) := by decide +kernel
theorem dX5_faultAt_116 : decode cX5_faultAt 116 = .ok (.goto 4, 3) := by decide +kernel
theorem dX5_faultAt_119 : decode cX5_faultAt 119 = .ok (.iconst 0, 1) := by decide +kernel
theorem dX5_faultAt_120 : decode cX5_faultAt 120 = .ok (.ireturn, 1) := by decide +kernel
theorem dX5_faultAt_121 : decode cX5_faultAt 121 = .ok (.iconst 0, 1) := by decide +kernel
theorem dX5_faultAt_122 : decode cX5_faultAt 122 = .ok (.ireturn, 1) := by decide +kernel
theorem dX5_isLoose_0 : decode cX5_isLoose 0 = .ok (.aload_n 0, 1) := by decide +kernel
theorem dX5_isLoose_1 : decode cX5_isLoose 1 = .ok (.getfield 25, 3) := by decide +kernel
theorem dX5_isLoose_4 : decode cX5_isLoose 4 = .ok (.iload_n 1, 1) := by decide +kernel
theorem dX5_isLoose_5 : decode cX5_isLoose 5 = .ok (.baload, 1) := by decide +kernel
theorem dX5_isLoose_6 : decode cX5_isLoose 6 = .ok (.ifCond .ne 19, 3) := by decide +kernel
theorem dX5_isLoose_9 : decode cX5_isLoose 9 = .ok (.aload_n 0, 1) := by decide +kernel
theorem dX5_isLoose_10 : decode cX5_isLoose 10 = .ok (.getfield 31, 3) := by decide +kernel
theorem dX5_isLoose_13 : decode cX5_isLoose 13 = .ok (.iload_n 1, 1) := by decide +kernel
theorem dX5_isLoose_14 : decode cX5_isLoose 14 = .ok (.iaload, 1) := by decide +kernel
theorem dX5_isLoose_15 : decode cX5_isLoose 15 = .ok (.aload_n 0, 1) := by decide +kernel
theorem dX5_isLoose_16 : decode cX5_isLoose 16 = .ok (.getfield 28, 3) := by decide +kernel
theorem dX5_isLoose_19 : decode cX5_isLoose 19 = .ok (.iload_n 2, 1) := by decide +kernel
theorem dX5_isLoose_20 : decode cX5_isLoose 20 = .ok (.iaload, 1) := by decide +kernel
theorem dX5_isLoose_21 : decode cX5_isLoose 21 = .ok (.iand, 1) := by decide +kernel
theorem dX5_isLoose_22 : decode cX5_isLoose 22 = .ok (.ifCond .eq 7, 3) := by decide +kernel
theorem dX5_isLoose_25 : decode cX5_isLoose 25 = .ok (.iconst 1, 1) := by decide +kernel
theorem dX5_isLoose_26 : decode cX5_isLoose 26 = .ok (.goto 4, 3) := by decide +kernel
theorem dX5_isLoose_29 : decode cX5_isLoose 29 = .ok (.iconst 0, 1) := by decide +kernel
theorem dX5_isLoose_30 : decode cX5_isLoose 30 = .ok (.ireturn, 1) := by decide +kernel
theorem dX5_isDouble_0 : decode cX5_isDouble 0 = .ok (.aload_n 0, 1) := by decide +kernel
theorem dX5_isDouble_1 : decode cX5_isDouble 1 = .ok (.getfield 25, 3) := by decide +kernel
theorem dX5_isDouble_4 : decode cX5_isDouble 4 = .ok (.iload_n 1, 1) := by decide +kernel
theorem dX5_isDouble_5 : decode cX5_isDouble 5 = .ok (.baload, 1) := by decide +kernel
theorem dX5_isDouble_6 : decode cX5_isDouble 6 = .ok (.ifCond .eq 12, 3) := by decide +kernel
theorem dX5_isDouble_9 : decode cX5_isDouble 9 = .ok (.aload_n 0, 1) := by decide +kernel
theorem dX5_isDouble_10 : decode cX5_isDouble 10 = .ok (.getfield 25, 3) := by decide +kernel
theorem dX5_isDouble_13 : decode cX5_isDouble 13 = .ok (.iload_n 2, 1) := by decide +kernel
theorem dX5_isDouble_14 : decode cX5_isDouble 14 = .ok (.baload, 1) := by decide +kernel
theorem dX5_isDouble_15 : decode cX5_isDouble 15 = .ok (.ifCond .ne 19, 3) := by decide +kernel
theorem dX5_isDouble_18 : decode cX5_isDouble 18 = .ok (.aload_n 0, 1) := by decide +kernel
theorem dX5_isDouble_19 : decode cX5_isDouble 19 = .ok (.getfield 28, 3) := by decide +kernel
theorem dX5_isDouble_22 : decode cX5_isDouble 22 = .ok (.iload_n 1, 1) := by decide +kernel
theorem dX5_isDouble_23 : decode cX5_isDouble 23 = .ok (.iaload, 1) := by decide +kernel
theorem dX5_isDouble_24 : decode cX5_isDouble 24 = .ok (.aload_n 0, 1) := by decide +kernel
theorem dX5_isDouble_25 : decode cX5_isDouble 25 = .ok (.getfield 28, 3) := by decide +kernel
theorem dX5_isDouble_28 : decode cX5_isDouble 28 = .ok (.iload_n 2, 1) := by decide +kernel
theorem dX5_isDouble_29 : decode cX5_isDouble 29 = .ok (.iaload, 1) := by decide +kernel
theorem dX5_isDouble_30 : decode cX5_isDouble 30 = .ok (.iand, 1) := by decide +kernel
theorem dX5_isDouble_31 : decode cX5_isDouble 31 = .ok (.ifCond .eq 7, 3) := by decide +kernel
theorem dX5_isDouble_34 : decode cX5_isDouble 34 = .ok (.iconst 1, 1) := by decide +kernel
theorem dX5_isDouble_35 : decode cX5_isDouble 35 = .ok (.goto 4, 3) := by decide +kernel
theorem dX5_isDouble_38 : decode cX5_isDouble 38 = .ok (.iconst 0, 1) := by decide +kernel
theorem dX5_isDouble_39 : decode cX5_isDouble 39 = .ok (.ireturn, 1) := by decide +kernel
theorem dX6_init_0 : decode cX6_init 0 = .ok (.aload_n 0, 1) := by decide +kernel
theorem dX6_init_1 : decode cX6_init 1 = .ok (.invokespecial 3, 3) := by decide +kernel
theorem dX6_init_4 : decode cX6_init 4 = .ok (.aload_n 0, 1) := by decide +kernel
theorem dX6_init_5 : decode cX6_init 5 = .ok (.bipush 40, 2) := by decide +kernel
theorem dX6_init_7 : decode cX6_init 7 = .ok (.newarray .int, 2) := by decide +kernel
theorem dX6_init_9 : decode cX6_init 9 = .ok (.putfield 9, 3) := by decide +kernel
theorem dX6_init_12 : decode cX6_init 12 = .ok (.aload_n 0, 1) := by decide +kernel
theorem dX6_init_13 : decode cX6_init 13 = .ok (.iconst 0, 1) := by decide +kernel
theorem dX6_init_14 : decode cX6_init 14 = .ok (.putfield 15, 3) := by decide +kernel
theorem dX6_init_17 : decode cX6_init 17 = .ok (.return_, 1) := by decide +kernel
theorem dX6_add_0 : decode cX6_add 0 = .ok (.aload_n 0, 1) := by decide +kernel
theorem dX6_add_1 : decode cX6_add 1 = .ok (.getfield 9, 3) := by decide +kernel
theorem dX6_add_4 : decode cX6_add 4 = .ok (.aload_n 0, 1) := by decide +kernel
theorem dX6_add_5 : decode cX6_add 5 = .ok (.getfield 15, 3) := by decide +kernel
theorem dX6_add_8 : decode cX6_add 8 = .ok (.iload_n 1, 1) := by decide +kernel
theorem dX6_add_9 : decode cX6_add 9 = .ok (.iastore, 1) := by decide +kernel
theorem dX6_add_10 : decode cX6_add 10 = .ok (.aload_n 0, 1) := by decide +kernel
theorem dX6_add_11 : decode cX6_add 11 = .ok (.dup, 1) := by decide +kernel
theorem dX6_add_12 : decode cX6_add 12 = .ok (.getfield 15, 3) := by decide +kernel
theorem dX6_add_15 : decode cX6_add 15 = .ok (.iconst 1, 1) := by decide +kernel
theorem dX6_add_16 : decode cX6_add 16 = .ok (.iadd, 1) := by decide +kernel
theorem dX6_add_17 : decode cX6_add 17 = .ok (.putfield 15, 3) := by decide +kernel
theorem dX6_add_20 : decode cX6_add 20 = .ok (.return_, 1) := by decide +kernel
theorem dX6_keep_0 : decode cX6_keep 0 = .ok (.aload_n 0, 1) := by decide +kernel
theorem dX6_keep_1 : decode cX6_keep 1 = .ok (.iload_n 1, 1) := by decide +kernel
theorem dX6_keep_2 : decode cX6_keep 2 = .ok (.putfield 15, 3) := by decide +kernel
theorem dX6_keep_5 : decode cX6_keep 5 = .ok (.return_, 1) := by decide +kernel
theorem dX6_size_0 : decode cX6_size 0 = .ok (.aload_n 0, 1) := by decide +kernel
theorem dX6_size_1 : decode cX6_size 1 = .ok (.getfield 15, 3) := by decide +kernel
theorem dX6_size_4 : decode cX6_size 4 = .ok (.ireturn, 1) := by decide +kernel
theorem dX6_isFull_0 : decode cX6_isFull 0 = .ok (.aload_n 0, 1) := by decide +kernel
theorem dX6_isFull_1 : decode cX6_isFull 1 = .ok (.getfield 15, 3) := by decide +kernel
theorem dX6_isFull_4 : decode cX6_isFull 4 = .ok (.bipush 40, 2) := by decide +kernel
theorem dX6_isFull_6 : decode cX6_isFull 6 = .ok (.if_icmp .lt 7, 3) := by decide +kernel
theorem dX6_isFull_9 : decode cX6_isFull 9 = .ok (.iconst 1, 1) := by decide +kernel
theorem dX6_isFull_10 : decode cX6_isFull 10 = .ok (.goto 4, 3) := by decide +kernel
theorem dX6_isFull_13 : decode cX6_isFull 13 = .ok (.iconst 0, 1) := by decide +kernel
theorem dX6_isFull_14 : decode cX6_isFull 14 = .ok (.ireturn, 1) := by decide +kernel
theorem dX6_at_0 : decode cX6_at 0 = .ok (.aload_n 0, 1) := by decide +kernel
theorem dX6_at_1 : decode cX6_at 1 = .ok (.getfield 9, 3) := by decide +kernel
theorem dX6_at_4 : decode cX6_at 4 = .ok (.iload_n 1, 1) := by decide +kernel
theorem dX6_at_5 : decode cX6_at 5 = .ok (.iaload, 1) := by decide +kernel
theorem dX6_at_6 : decode cX6_at 6 = .ok (.ireturn, 1) := by decide +kernel
theorem dX7_init_0 : decode cX7_init 0 = .ok (.aload_n 0, 1) := by decide +kernel
theorem dX7_init_1 : decode cX7_init 1 = .ok (.invokespecial 3, 3) := by decide +kernel
theorem dX7_init_4 : decode cX7_init 4 = .ok (.aload_n 0, 1) := by decide +kernel
theorem dX7_init_5 : decode cX7_init 5 = .ok (.new 9, 3) := by decide +kernel
theorem dX7_init_8 : decode cX7_init 8 = .ok (.dup, 1) := by decide +kernel
theorem dX7_init_9 : decode cX7_init 9 = .ok (.invokespecial 11, 3) := by decide +kernel
theorem dX7_init_12 : decode cX7_init 12 = .ok (.putfield 12, 3) := by decide +kernel
theorem dX7_init_15 : decode cX7_init 15 = .ok (.aload_n 0, 1) := by decide +kernel
theorem dX7_init_16 : decode cX7_init 16 = .ok (.new 16, 3) := by decide +kernel
theorem dX7_init_19 : decode cX7_init 19 = .ok (.dup, 1) := by decide +kernel
theorem dX7_init_20 : decode cX7_init 20 = .ok (.aload_n 0, 1) := by decide +kernel
theorem dX7_init_21 : decode cX7_init 21 = .ok (.getfield 12, 3) := by decide +kernel
theorem dX7_init_24 : decode cX7_init 24 = .ok (.invokespecial 18, 3) := by decide +kernel
theorem dX7_init_27 : decode cX7_init 27 = .ok (.putfield 21, 3) := by decide +kernel
theorem dX7_init_30 : decode cX7_init 30 = .ok (.aload_n 0, 1) := by decide +kernel
theorem dX7_init_31 : decode cX7_init 31 = .ok (.new 25, 3) := by decide +kernel
theorem dX7_init_34 : decode cX7_init 34 = .ok (.dup, 1) := by decide +kernel
theorem dX7_init_35 : decode cX7_init 35 = .ok (.invokespecial 27, 3) := by decide +kernel
theorem dX7_init_38 : decode cX7_init 38 = .ok (.putfield 28, 3) := by decide +kernel
theorem dX7_init_41 : decode cX7_init 41 = .ok (.aload_n 0, 1) := by decide +kernel
theorem dX7_init_42 : decode cX7_init 42 = .ok (.new 32, 3) := by decide +kernel
theorem dX7_init_45 : decode cX7_init 45 = .ok (.dup, 1) := by decide +kernel
theorem dX7_init_46 : decode cX7_init 46 = .ok (.aload_n 0, 1) := by decide +kernel
theorem dX7_init_47 : decode cX7_init 47 = .ok (.getfield 12, 3) := by decide +kernel
theorem dX7_init_50 : decode cX7_init 50 = .ok (.aload_n 0, 1) := by decide +kernel
theorem dX7_init_51 : decode cX7_init 51 = .ok (.getfield 21, 3) := by decide +kernel
theorem dX7_init_54 : decode cX7_init 54 = .ok (.invokespecial 34, 3) := by decide +kernel
theorem dX7_init_57 : decode cX7_init 57 = .ok (.putfield 37, 3) := by decide +kernel
theorem dX7_init_60 : decode cX7_init 60 = .ok (.aload_n 0, 1) := by decide +kernel
theorem dX7_init_61 : decode cX7_init 61 = .ok (.new 41, 3) := by decide +kernel
theorem dX7_init_64 : decode cX7_init 64 = .ok (.dup, 1) := by decide +kernel
theorem dX7_init_65 : decode cX7_init 65 = .ok (.aload_n 0, 1) := by decide +kernel
theorem dX7_init_66 : decode cX7_init 66 = .ok (.getfield 12, 3) := by decide +kernel
theorem dX7_init_69 : decode cX7_init 69 = .ok (.aload_n 0, 1) := by decide +kernel
theorem dX7_init_70 : decode cX7_init 70 = .ok (.getfield 21, 3) := by decide +kernel
theorem dX7_init_73 : decode cX7_init 73 = .ok (.invokespecial 43, 3) := by decide +kernel
theorem dX7_init_76 : decode cX7_init 76 = .ok (.putfield 44, 3) := by decide +kernel
theorem dX7_init_79 : decode cX7_init 79 = .ok (.aload_n 0, 1) := by decide +kernel
theorem dX7_init_80 : decode cX7_init 80 = .ok (.new 48, 3) := by decide +kernel
theorem dX7_init_83 : decode cX7_init 83 = .ok (.dup, 1) := by decide +kernel
theorem dX7_init_84 : decode cX7_init 84 = .ok (.aload_n 0, 1) := by decide +kernel
theorem dX7_init_85 : decode cX7_init 85 = .ok (.getfield 12, 3) := by decide +kernel
theorem dX7_init_88 : decode cX7_init 88 = .ok (.aload_n 0, 1) := by decide +kernel
theorem dX7_init_89 : decode cX7_init 89 = .ok (.getfield 21, 3) := by decide +kernel
theorem dX7_init_92 : decode cX7_init 92 = .ok (.aload_n 0, 1) := by decide +kernel
theorem dX7_init_93 : decode cX7_init 93 = .ok (.getfield 44, 3) := by decide +kernel
theorem dX7_init_96 : decode cX7_init 96 = .ok (.invokespecial 50, 3) := by decide +kernel
theorem dX7_init_99 : decode cX7_init 99 = .ok (.putfield 53, 3) := by decide +kernel
theorem dX7_init_102 : decode cX7_init 102 = .ok (.aload_n 0, 1) := by decide +kernel
theorem dX7_init_103 : decode cX7_init 103 = .ok (.iconst (-1), 1) := by decide +kernel
theorem dX7_init_104 : decode cX7_init 104 = .ok (.putfield 57, 3) := by decide +kernel
theorem dX7_init_107 : decode cX7_init 107 = .ok (.return_, 1) := by decide +kernel
theorem dX7_leaf_0 : decode cX7_leaf 0 = .ok (.iload_n 1, 1) := by decide +kernel
theorem dX7_leaf_1 : decode cX7_leaf 1 = .ok (.bipush (-2), 2) := by decide +kernel
theorem dX7_leaf_3 : decode cX7_leaf 3 = .ok (.if_icmp .lt 9, 3) := by decide +kernel
theorem dX7_leaf_6 : decode cX7_leaf 6 = .ok (.iload_n 1, 1) := by decide +kernel
theorem dX7_leaf_7 : decode cX7_leaf 7 = .ok (.bipush 8, 2) := by decide +kernel
theorem dX7_leaf_9 : decode cX7_leaf 9 = .ok (.if_icmp .lt 11, 3) := by decide +kernel
theorem dX7_leaf_12 : decode cX7_leaf 12 = .ok (.new 61, 3) := by decide +kernel
theorem dX7_leaf_15 : decode cX7_leaf 15 = .ok (.dup, 1) := by decide +kernel
theorem dX7_leaf_16 : decode cX7_leaf 16 = .ok (.invokespecial 63, 3) := by decide +kernel
theorem dX7_leaf_19 : decode cX7_leaf 19 = .ok (.athrow, 1) := by decide +kernel
theorem dX7_leaf_20 : decode cX7_leaf 20 = .ok (.aload_n 0, 1) := by decide +kernel
theorem dX7_leaf_21 : decode cX7_leaf 21 = .ok (.invokevirtual 64, 3) := by decide +kernel
theorem dX7_leaf_24 : decode cX7_leaf 24 = .ok (.iload_n 1, 1) := by decide +kernel
theorem dX7_leaf_25 : decode cX7_leaf 25 = .ok (.iconst (-1), 1) := by decide +kernel
theorem dX7_leaf_26 : decode cX7_leaf 26 = .ok (.if_icmp .ne 15, 3) := by decide +kernel
theorem dX7_leaf_29 : decode cX7_leaf 29 = .ok (.aload_n 0, 1) := by decide +kernel
theorem dX7_leaf_30 : decode cX7_leaf 30 = .ok (.getfield 12, 3) := by decide +kernel
theorem dX7_leaf_33 : decode cX7_leaf 33 = .ok (.iconst 0, 1) := by decide +kernel
theorem dX7_leaf_34 : decode cX7_leaf 34 = .ok (.iconst 0, 1) := by decide +kernel
theorem dX7_leaf_35 : decode cX7_leaf 35 = .ok (.iconst (-1), 1) := by decide +kernel
theorem dX7_leaf_36 : decode cX7_leaf 36 = .ok (.iconst (-1), 1) := by decide +kernel
theorem dX7_leaf_37 : decode cX7_leaf 37 = .ok (.invokevirtual 67, 3) := by decide +kernel
theorem dX7_leaf_40 : decode cX7_leaf 40 = .ok (.ireturn, 1) := by decide +kernel
theorem dX7_leaf_41 : decode cX7_leaf 41 = .ok (.iload_n 1, 1) := by decide +kernel
theorem dX7_leaf_42 : decode cX7_leaf 42 = .ok (.bipush (-2), 2) := by decide +kernel
theorem dX7_leaf_44 : decode cX7_leaf 44 = .ok (.if_icmp .ne 15, 3) := by decide +kernel
theorem dX7_leaf_47 : decode cX7_leaf 47 = .ok (.aload_n 0, 1) := by decide +kernel
theorem dX7_leaf_48 : decode cX7_leaf 48 = .ok (.getfield 12, 3) := by decide +kernel
theorem dX7_leaf_51 : decode cX7_leaf 51 = .ok (.iconst 1, 1) := by decide +kernel
theorem dX7_leaf_52 : decode cX7_leaf 52 = .ok (.iconst 0, 1) := by decide +kernel
theorem dX7_leaf_53 : decode cX7_leaf 53 = .ok (.iconst (-1), 1) := by decide +kernel
theorem dX7_leaf_54 : decode cX7_leaf 54 = .ok (.iconst (-1), 1) := by decide +kernel
theorem dX7_leaf_55 : decode cX7_leaf 55 = .ok (.invokevirtual 67, 3) := by decide +kernel
theorem dX7_leaf_58 : decode cX7_leaf 58 = .ok (.ireturn, 1) := by decide +kernel
theorem dX7_leaf_59 : decode cX7_leaf 59 = .ok (.aload_n 0, 1) := by decide +kernel
theorem dX7_leaf_60 : decode cX7_leaf 60 = .ok (.getfield 12, 3) := by decide +kernel
theorem dX7_leaf_63 : decode cX7_leaf 63 = .ok (.iconst 2, 1) := by decide +kernel
theorem dX7_leaf_64 : decode cX7_leaf 64 = .ok (.iload_n 1, 1) := by decide +kernel
theorem dX7_leaf_65 : decode cX7_leaf 65 = .ok (.iconst (-1), 1) := by decide +kernel
theorem dX7_leaf_66 : decode cX7_leaf 66 = .ok (.iconst (-1), 1) := by decide +kernel
theorem dX7_leaf_67 : decode cX7_leaf 67 = .ok (.invokevirtual 67, 3) := by decide +kernel
theorem dX7_leaf_70 : decode cX7_leaf 70 = .ok (.ireturn, 1) := by decide +kernel
theorem dX7_variable_0 : decode cX7_variable 0 = .ok (.aload_n 0, 1) := by decide +kernel
theorem dX7_variable_1 : decode cX7_variable 1 = .ok (.iload_n 1, 1) := by decide +kernel
theorem dX7_variable_2 : decode cX7_variable 2 = .ok (.invokevirtual 71, 3) := by decide +kernel
theorem dX7_variable_5 : decode cX7_variable 5 = .ok (.aload_n 0, 1) := by decide +kernel
theorem dX7_variable_6 : decode cX7_variable 6 = .ok (.invokevirtual 64, 3) := by decide +kernel
theorem dX7_variable_9 : decode cX7_variable 9 = .ok (.aload_n 0, 1) := by decide +kernel
theorem dX7_variable_10 : decode cX7_variable 10 = .ok (.getfield 12, 3) := by decide +kernel
theorem dX7_variable_13 : decode cX7_variable 13 = .ok (.iconst 5, 1) := by decide +kernel
theorem dX7_variable_14 : decode cX7_variable 14 = .ok (.iload_n 1, 1) := by decide +kernel
theorem dX7_variable_15 : decode cX7_variable 15 = .ok (.iconst (-1), 1) := by decide +kernel
theorem dX7_variable_16 : decode cX7_variable 16 = .ok (.iconst (-1), 1) := by decide +kernel
theorem dX7_variable_17 : decode cX7_variable 17 = .ok (.invokevirtual 67, 3) := by decide +kernel
theorem dX7_variable_20 : decode cX7_variable 20 = .ok (.ireturn, 1) := by decide +kernel
theorem dX7_join_0 : decode cX7_join 0 = .ok (.aload_n 0, 1) := by decide +kernel
theorem dX7_join_1 : decode cX7_join 1 = .ok (.iload_n 1, 1) := by decide +kernel
theorem dX7_join_2 : decode cX7_join 2 = .ok (.invokevirtual 75, 3) := by decide +kernel
theorem dX7_join_5 : decode cX7_join 5 = .ok (.aload_n 0, 1) := by decide +kernel
theorem dX7_join_6 : decode cX7_join 6 = .ok (.iload_n 2, 1) := by decide +kernel
theorem dX7_join_7 : decode cX7_join 7 = .ok (.invokevirtual 75, 3) := by decide +kernel
theorem dX7_join_10 : decode cX7_join 10 = .ok (.iload_n 1, 1) := by decide +kernel
theorem dX7_join_11 : decode cX7_join 11 = .ok (.iload_n 2, 1) := by decide +kernel
theorem dX7_join_12 : decode cX7_join 12 = .ok (.if_icmp .eq 25, 3) := by decide +kernel
theorem dX7_join_15 : decode cX7_join 15 = .ok (.aload_n 0, 1) := by decide +kernel
theorem dX7_join_16 : decode cX7_join 16 = .ok (.getfield 12, 3) := by decide +kernel
theorem dX7_join_19 : decode cX7_join 19 = .ok (.iload_n 1, 1) := by decide +kernel
theorem dX7_join_20 : decode cX7_join 20 = .ok (.invokevirtual 78, 3) := by decide +kernel
theorem dX7_join_23 : decode cX7_join 23 = .ok (.ifCond .ne 14, 3) := by decide +kernel
theorem dX7_join_26 : decode cX7_join 26 = .ok (.aload_n 0, 1) := by decide +kernel
theorem dX7_join_27 : decode cX7_join 27 = .ok (.getfield 12, 3) := by decide +kernel
theorem dX7_join_30 : decode cX7_join 30 = .ok (.iload_n 2, 1) := by decide +kernel
theorem dX7_join_31 : decode cX7_join 31 = .ok (.invokevirtual 78, 3) := by decide +kernel
theorem dX7_join_34 : decode cX7_join 34 = .ok (.ifCond .eq 11, 3) := by decide +kernel
theorem dX7_join_37 : decode cX7_join 37 = .ok (.new 82, 3) := by decide +kernel
theorem dX7_join_40 : decode cX7_join 40 = .ok (.dup, 1) := by decide +kernel
theorem dX7_join_41 : decode cX7_join 41 = .ok (.invokespecial 84, 3) := by decide +kernel
theorem dX7_join_44 : decode cX7_join 44 = .ok (.athrow, 1) := by decide +kernel
theorem dX7_join_45 : decode cX7_join 45 = .ok (.aload_n 0, 1) := by decide +kernel
theorem dX7_join_46 : decode cX7_join 46 = .ok (.invokevirtual 64, 3) := by decide +kernel
theorem dX7_join_49 : decode cX7_join 49 = .ok (.aload_n 0, 1) := by decide +kernel
theorem dX7_join_50 : decode cX7_join 50 = .ok (.getfield 12, 3) := by decide +kernel
theorem dX7_join_53 : decode cX7_join 53 = .ok (.iload_n 3, 1) := by decide +kernel
theorem dX7_join_54 : decode cX7_join 54 = .ok (.ifCond .eq 7, 3) := by decide +kernel
theorem dX7_join_57 : decode cX7_join 57 = .ok (.iconst 4, 1) := by decide +kernel
theorem dX7_join_58 : decode cX7_join 58 = .ok (.goto 4, 3) := by decide +kernel
theorem dX7_join_61 : decode cX7_join 61 = .ok (.iconst 3, 1) := by decide +kernel
theorem dX7_join_62 : decode cX7_join 62 = .ok (.iconst 0, 1) := by decide +kernel
theorem dX7_join_63 : decode cX7_join 63 = .ok (.iload_n 1, 1) := by decide +kernel
theorem dX7_join_64 : decode cX7_join 64 = .ok (.iload_n 2, 1) := by decide +kernel
theorem dX7_join_65 : decode cX7_join 65 = .ok (.invokevirtual 67, 3) := by decide +kernel
theorem dX7_join_68 : decode cX7_join 68 = .ok (.ireturn, 1) := by decide +kernel
theorem dX7_knot_0 : decode cX7_knot 0 = .ok (.aload_n 0, 1) := by decide +kernel
theorem dX7_knot_1 : decode cX7_knot 1 = .ok (.iload_n 2, 1) := by decide +kernel
theorem dX7_knot_2 : decode cX7_knot 2 = .ok (.invokevirtual 75, 3) := by decide +kernel
theorem dX7_knot_5 : decode cX7_knot 5 = .ok (.aload_n 0, 1) := by decide +kernel
theorem dX7_knot_6 : decode cX7_knot 6 = .ok (.getfield 12, 3) := by decide +kernel
theorem dX7_knot_9 : decode cX7_knot 9 = .ok (.iload_n 2, 1) := by decide +kernel
theorem dX7_knot_10 : decode cX7_knot 10 = .ok (.invokevirtual 78, 3) := by decide +kernel
theorem dX7_knot_13 : decode cX7_knot 13 = .ok (.ifCond .eq 11, 3) := by decide +kernel
theorem dX7_knot_16 : decode cX7_knot 16 = .ok (.new 82, 3) := by decide +kernel
theorem dX7_knot_19 : decode cX7_knot 19 = .ok (.dup, 1) := by decide +kernel
theorem dX7_knot_20 : decode cX7_knot 20 = .ok (.invokespecial 84, 3) := by decide +kernel
theorem dX7_knot_23 : decode cX7_knot 23 = .ok (.athrow, 1) := by decide +kernel
theorem dX7_knot_24 : decode cX7_knot 24 = .ok (.aload_n 0, 1) := by decide +kernel
theorem dX7_knot_25 : decode cX7_knot 25 = .ok (.iload_n 1, 1) := by decide +kernel
theorem dX7_knot_26 : decode cX7_knot 26 = .ok (.invokevirtual 71, 3) := by decide +kernel
theorem dX7_knot_29 : decode cX7_knot 29 = .ok (.aload_n 0, 1) := by decide +kernel
theorem dX7_knot_30 : decode cX7_knot 30 = .ok (.invokevirtual 64, 3) := by decide +kernel
theorem dX7_knot_33 : decode cX7_knot 33 = .ok (.aload_n 0, 1) := by decide +kernel
theorem dX7_knot_34 : decode cX7_knot 34 = .ok (.getfield 12, 3) := by decide +kernel
theorem dX7_knot_37 : decode cX7_knot 37 = .ok (.iload_n 2, 1) := by decide +kernel
theorem dX7_knot_38 : decode cX7_knot 38 = .ok (.invokevirtual 85, 3) := by decide +kernel
theorem dX7_knot_41 : decode cX7_knot 41 = .ok (.iconst 3, 1) := by decide +kernel
theorem dX7_knot_42 : decode cX7_knot 42 = .ok (.if_icmp .lt 11, 3) := by decide +kernel
theorem dX7_knot_45 : decode cX7_knot 45 = .ok (.new 89, 3) := by decide +kernel
theorem dX7_knot_48 : decode cX7_knot 48 = .ok (.dup, 1) := by decide +kernel
theorem dX7_knot_49 : decode cX7_knot 49 = .ok (.invokespecial 91, 3) := by decide +kernel
theorem dX7_knot_52 : decode cX7_knot 52 = .ok (.athrow, 1) := by decide +kernel
theorem dX7_knot_53 : decode cX7_knot 53 = .ok (.aload_n 0, 1) := by decide +kernel
theorem dX7_knot_54 : decode cX7_knot 54 = .ok (.getfield 12, 3) := by decide +kernel
theorem dX7_knot_57 : decode cX7_knot 57 = .ok (.bipush 6, 2) := by decide +kernel
theorem dX7_knot_59 : decode cX7_knot 59 = .ok (.iload_n 1, 1) := by decide +kernel
theorem dX7_knot_60 : decode cX7_knot 60 = .ok (.iload_n 2, 1) := by decide +kernel
theorem dX7_knot_61 : decode cX7_knot 61 = .ok (.iconst (-1), 1) := by decide +kernel
theorem dX7_knot_62 : decode cX7_knot 62 = .ok (.invokevirtual 67, 3) := by decide +kernel
theorem dX7_knot_65 : decode cX7_knot 65 = .ok (.ireturn, 1) := by decide +kernel
theorem dX7_clear_0 : decode cX7_clear 0 = .ok (.aload_n 0, 1) := by decide +kernel
theorem dX7_clear_1 : decode cX7_clear 1 = .ok (.getfield 12, 3) := by decide +kernel
theorem dX7_clear_4 : decode cX7_clear 4 = .ok (.invokevirtual 92, 3) := by decide +kernel
theorem dX7_clear_7 : decode cX7_clear 7 = .ok (.return_, 1) := by decide +kernel
theorem dX7_terms_0 : decode cX7_terms 0 = .ok (.aload_n 0, 1) := by decide +kernel
theorem dX7_terms_1 : decode cX7_terms 1 = .ok (.getfield 12, 3) := by decide +kernel
theorem dX7_terms_4 : decode cX7_terms 4 = .ok (.invokevirtual 95, 3) := by decide +kernel
theorem dX7_terms_7 : decode cX7_terms 7 = .ok (.ireturn, 1) := by decide +kernel
theorem dX7_fault_0 : decode cX7_fault 0 = .ok (.aload_n 0, 1) := by decide +kernel
theorem dX7_fault_1 : decode cX7_fault 1 = .ok (.iload_n 1, 1) := by decide +kernel
theorem dX7_fault_2 : decode cX7_fault 2 = .ok (.invokevirtual 75, 3) := by decide +kernel
theorem dX7_fault_5 : decode cX7_fault 5 = .ok (.aload_n 0, 1) := by decide +kernel
theorem dX7_fault_6 : decode cX7_fault 6 = .ok (.getfield 21, 3) := by decide +kernel
theorem dX7_fault_9 : decode cX7_fault 9 = .ok (.iload_n 1, 1) := by decide +kernel
theorem dX7_fault_10 : decode cX7_fault 10 = .ok (.invokevirtual 99, 3) := by decide +kernel
theorem dX7_fault_13 : decode cX7_fault 13 = .ok (.aload_n 0, 1) := by decide +kernel
theorem dX7_fault_14 : decode cX7_fault 14 = .ok (.getfield 21, 3) := by decide +kernel
theorem dX7_fault_17 : decode cX7_fault 17 = .ok (.invokevirtual 102, 3) := by decide +kernel
theorem dX7_fault_20 : decode cX7_fault 20 = .ok (.ireturn, 1) := by decide +kernel
theorem dX7_type_0 : decode cX7_type 0 = .ok (.aload_n 0, 1) := by decide +kernel
theorem dX7_type_1 : decode cX7_type 1 = .ok (.iload_n 1, 1) := by decide +kernel
theorem dX7_type_2 : decode cX7_type 2 = .ok (.invokevirtual 75, 3) := by decide +kernel
theorem dX7_type_5 : decode cX7_type 5 = .ok (.iload_n 2, 1) := by decide +kernel
theorem dX7_type_6 : decode cX7_type 6 = .ok (.ifCond .lt 8, 3) := by decide +kernel
theorem dX7_type_9 : decode cX7_type 9 = .ok (.iload_n 2, 1) := by decide +kernel
theorem dX7_type_10 : decode cX7_type 10 = .ok (.iconst 2, 1) := by decide +kernel
theorem dX7_type_11 : decode cX7_type 11 = .ok (.if_icmp .le 11, 3) := by decide +kernel
theorem dX7_type_14 : decode cX7_type 14 = .ok (.new 105, 3) := by decide +kernel
theorem dX7_type_17 : decode cX7_type 17 = .ok (.dup, 1) := by decide +kernel
theorem dX7_type_18 : decode cX7_type 18 = .ok (.invokespecial 107, 3) := by decide +kernel
theorem dX7_type_21 : decode cX7_type 21 = .ok (.athrow, 1) := by decide +kernel
theorem dX7_type_22 : decode cX7_type 22 = .ok (.aload_n 0, 1) := by decide +kernel
theorem dX7_type_23 : decode cX7_type 23 = .ok (.iload_n 1, 1) := by decide +kernel
theorem dX7_type_24 : decode cX7_type 24 = .ok (.invokevirtual 108, 3) := by decide +kernel
theorem dX7_type_27 : decode cX7_type 27 = .ok (.iload_n 2, 1) := by decide +kernel
theorem dX7_type_28 : decode cX7_type 28 = .ok (.ifCond .ne 20, 3) := by decide +kernel
theorem dX7_type_31 : decode cX7_type 31 = .ok (.aload_n 0, 1) := by decide +kernel
theorem dX7_type_32 : decode cX7_type 32 = .ok (.getfield 21, 3) := by decide +kernel
theorem dX7_type_35 : decode cX7_type 35 = .ok (.iload_n 1, 1) := by decide +kernel
theorem dX7_type_36 : decode cX7_type 36 = .ok (.invokevirtual 111, 3) := by decide +kernel
theorem dX7_type_39 : decode cX7_type 39 = .ok (.ifCond .eq 7, 3) := by decide +kernel
theorem dX7_type_42 : decode cX7_type 42 = .ok (.iconst 1, 1) := by decide +kernel
theorem dX7_type_43 : decode cX7_type 43 = .ok (.goto 4, 3) := by decide +kernel
theorem dX7_type_46 : decode cX7_type 46 = .ok (.iconst 0, 1) := by decide +kernel
theorem dX7_type_47 : decode cX7_type 47 = .ok (.ireturn, 1) := by decide +kernel
theorem dX7_type_48 : decode cX7_type 48 = .ok (.iload_n 2, 1) := by decide +kernel
theorem dX7_type_49 : decode cX7_type 49 = .ok (.iconst 1, 1) := by decide +kernel
theorem dX7_type_50 : decode cX7_type 50 = .ok (.if_icmp .ne 14, 3) := by decide +kernel
theorem dX7_type_53 : decode cX7_type 53 = .ok (.aload_n 0, 1) := by decide +kernel
theorem dX7_type_54 : decode cX7_type 54 = .ok (.getfield 21, 3) := by decide +kernel
theorem dX7_type_57 : decode cX7_type 57 = .ok (.iload_n 1, 1) := by decide +kernel
theorem dX7_type_58 : decode cX7_type 58 = .ok (.invokevirtual 114, 3) := by decide +kernel
theorem dX7_type_61 : decode cX7_type 61 = .ok (.goto 11, 3) := by decide +kernel
theorem dX7_type_64 : decode cX7_type 64 = .ok (.aload_n 0, 1) := by decide +kernel
theorem dX7_type_65 : decode cX7_type 65 = .ok (.getfield 21, 3) := by decide +kernel
theorem dX7_type_68 : decode cX7_type 68 = .ok (.iload_n 1, 1) := by decide +kernel
theorem dX7_type_69 : decode cX7_type 69 = .ok (.invokevirtual 117, 3) := by decide +kernel
theorem dX7_type_72 : decode cX7_type 72 = .ok (.ireturn, 1) := by decide +kernel
theorem dX7_put_0 : decode cX7_put 0 = .ok (.iload_n 1, 1) := by decide +kernel
theorem dX7_put_1 : decode cX7_put 1 = .ok (.ifCond .lt 19, 3) := by decide +kernel
theorem dX7_put_4 : decode cX7_put 4 = .ok (.iload_n 1, 1) := by decide +kernel
theorem dX7_put_5 : decode cX7_put 5 = .ok (.bipush 8, 2) := by decide +kernel
theorem dX7_put_7 : decode cX7_put 7 = .ok (.if_icmp .ge 13, 3) := by decide +kernel
theorem dX7_put_10 : decode cX7_put 10 = .ok (.aload_n 0, 1) := by decide +kernel
theorem dX7_put_11 : decode cX7_put 11 = .ok (.getfield 28, 3) := by decide +kernel
theorem dX7_put_14 : decode cX7_put 14 = .ok (.invokevirtual 120, 3) := by decide +kernel
theorem dX7_put_17 : decode cX7_put 17 = .ok (.ifCond .eq 5, 3) := by decide +kernel
theorem dX7_put_20 : decode cX7_put 20 = .ok (.iconst 0, 1) := by decide +kernel
theorem dX7_put_21 : decode cX7_put 21 = .ok (.ireturn, 1) := by decide +kernel
theorem dX7_put_22 : decode cX7_put 22 = .ok (.aload_n 0, 1) := by decide +kernel
theorem dX7_put_23 : decode cX7_put 23 = .ok (.getfield 28, 3) := by decide +kernel
theorem dX7_put_26 : decode cX7_put 26 = .ok (.iload_n 1, 1) := by decide +kernel
theorem dX7_put_27 : decode cX7_put 27 = .ok (.invokevirtual 124, 3) := by decide +kernel
theorem dX7_put_30 : decode cX7_put 30 = .ok (.iconst 1, 1) := by decide +kernel
theorem dX7_put_31 : decode cX7_put 31 = .ok (.ireturn, 1) := by decide +kernel
theorem dX7_cut_0 : decode cX7_cut 0 = .ok (.iload_n 1, 1) := by decide +kernel
theorem dX7_cut_1 : decode cX7_cut 1 = .ok (.ifCond .lt 14, 3) := by decide +kernel
theorem dX7_cut_4 : decode cX7_cut 4 = .ok (.iload_n 1, 1) := by decide +kernel
theorem dX7_cut_5 : decode cX7_cut 5 = .ok (.aload_n 0, 1) := by decide +kernel
theorem dX7_cut_6 : decode cX7_cut 6 = .ok (.getfield 28, 3) := by decide +kernel
theorem dX7_cut_9 : decode cX7_cut 9 = .ok (.invokevirtual 126, 3) := by decide +kernel
theorem dX7_cut_12 : decode cX7_cut 12 = .ok (.if_icmp .le 5, 3) := by decide +kernel
theorem dX7_cut_15 : decode cX7_cut 15 = .ok (.iconst 0, 1) := by decide +kernel
theorem dX7_cut_16 : decode cX7_cut 16 = .ok (.ireturn, 1) := by decide +kernel
theorem dX7_cut_17 : decode cX7_cut 17 = .ok (.aload_n 0, 1) := by decide +kernel
theorem dX7_cut_18 : decode cX7_cut 18 = .ok (.getfield 28, 3) := by decide +kernel
theorem dX7_cut_21 : decode cX7_cut 21 = .ok (.iload_n 1, 1) := by decide +kernel
theorem dX7_cut_22 : decode cX7_cut 22 = .ok (.invokevirtual 127, 3) := by decide +kernel
theorem dX7_cut_25 : decode cX7_cut 25 = .ok (.iconst 1, 1) := by decide +kernel
theorem dX7_cut_26 : decode cX7_cut 26 = .ok (.ireturn, 1) := by decide +kernel
theorem dX7_length_0 : decode cX7_length 0 = .ok (.aload_n 0, 1) := by decide +kernel
theorem dX7_length_1 : decode cX7_length 1 = .ok (.getfield 28, 3) := by decide +kernel
theorem dX7_length_4 : decode cX7_length 4 = .ok (.invokevirtual 126, 3) := by decide +kernel
theorem dX7_length_7 : decode cX7_length 7 = .ok (.ireturn, 1) := by decide +kernel
theorem dX7_letter_0 : decode cX7_letter 0 = .ok (.iload_n 1, 1) := by decide +kernel
theorem dX7_letter_1 : decode cX7_letter 1 = .ok (.ifCond .lt 14, 3) := by decide +kernel
theorem dX7_letter_4 : decode cX7_letter 4 = .ok (.iload_n 1, 1) := by decide +kernel
theorem dX7_letter_5 : decode cX7_letter 5 = .ok (.aload_n 0, 1) := by decide +kernel
theorem dX7_letter_6 : decode cX7_letter 6 = .ok (.getfield 28, 3) := by decide +kernel
theorem dX7_letter_9 : decode cX7_letter 9 = .ok (.invokevirtual 126, 3) := by decide +kernel
theorem dX7_letter_12 : decode cX7_letter 12 = .ok (.if_icmp .lt 11, 3) := by decide +kernel
theorem dX7_letter_15 : decode cX7_letter 15 = .ok (.new 105, 3) := by decide +kernel
theorem dX7_letter_18 : decode cX7_letter 18 = .ok (.dup, 1) := by decide +kernel
theorem dX7_letter_19 : decode cX7_letter 19 = .ok (.invokespecial 107, 3) := by decide +kernel
theorem dX7_letter_22 : decode cX7_letter 22 = .ok (.athrow, 1) := by decide +kernel
theorem dX7_letter_23 : decode cX7_letter 23 = .ok (.aload_n 0, 1) := by decide +kernel
theorem dX7_letter_24 : decode cX7_letter 24 = .ok (.getfield 28, 3) := by decide +kernel
theorem dX7_letter_27 : decode cX7_letter 27 = .ok (.iload_n 1, 1) := by decide +kernel
theorem dX7_letter_28 : decode cX7_letter 28 = .ok (.invokevirtual 130, 3) := by decide +kernel
theorem dX7_letter_31 : decode cX7_letter 31 = .ok (.ireturn, 1) := by decide +kernel
theorem dX7_read_0 : decode cX7_read 0 = .ok (.aload_n 0, 1) := by decide +kernel
theorem dX7_read_1 : decode cX7_read 1 = .ok (.iload_n 1, 1) := by decide +kernel
theorem dX7_read_2 : decode cX7_read 2 = .ok (.invokevirtual 75, 3) := by decide +kernel
theorem dX7_read_5 : decode cX7_read 5 = .ok (.aload_n 0, 1) := by decide +kernel
theorem dX7_read_6 : decode cX7_read 6 = .ok (.iload_n 1, 1) := by decide +kernel
theorem dX7_read_7 : decode cX7_read 7 = .ok (.invokevirtual 108, 3) := by decide +kernel
theorem dX7_read_10 : decode cX7_read 10 = .ok (.aload_n 0, 1) := by decide +kernel
theorem dX7_read_11 : decode cX7_read 11 = .ok (.getfield 37, 3) := by decide +kernel
theorem dX7_read_14 : decode cX7_read 14 = .ok (.iload_n 1, 1) := by decide +kernel
theorem dX7_read_15 : decode cX7_read 15 = .ok (.aload_n 0, 1) := by decide +kernel
theorem dX7_read_16 : decode cX7_read 16 = .ok (.getfield 28, 3) := by decide +kernel
theorem dX7_read_19 : decode cX7_read 19 = .ok (.invokevirtual 133, 3) := by decide +kernel
theorem dX7_read_22 : decode cX7_read 22 = .ok (.ifCond .ne 22, 3) := by decide +kernel
theorem dX7_read_25 : decode cX7_read 25 = .ok (.aload_n 0, 1) := by decide +kernel
theorem dX7_read_26 : decode cX7_read 26 = .ok (.aload_n 0, 1) := by decide +kernel
theorem dX7_read_27 : decode cX7_read 27 = .ok (.getfield 37, 3) := by decide +kernel
theorem dX7_read_30 : decode cX7_read 30 = .ok (.invokevirtual 137, 3) := by decide +kernel
theorem dX7_read_33 : decode cX7_read 33 = .ok (.putfield 57, 3) := by decide +kernel
theorem dX7_read_36 : decode cX7_read 36 = .ok (.new 61, 3) := by decide +kernel
theorem dX7_read_39 : decode cX7_read 39 = .ok (.dup, 1) := by decide +kernel
theorem dX7_read_40 : decode cX7_read 40 = .ok (.invokespecial 63, 3) := by decide +kernel
theorem dX7_read_43 : decode cX7_read 43 = .ok (.athrow, 1) := by decide +kernel
theorem dX7_read_44 : decode cX7_read 44 = .ok (.aload_n 0, 1) := by decide +kernel
theorem dX7_read_45 : decode cX7_read 45 = .ok (.iconst (-1), 1) := by decide +kernel
theorem dX7_read_46 : decode cX7_read 46 = .ok (.putfield 57, 3) := by decide +kernel
theorem dX7_read_49 : decode cX7_read 49 = .ok (.aload_n 0, 1) := by decide +kernel
theorem dX7_read_50 : decode cX7_read 50 = .ok (.getfield 37, 3) := by decide +kernel
theorem dX7_read_53 : decode cX7_read 53 = .ok (.invokevirtual 140, 3) := by decide +kernel
theorem dX7_read_56 : decode cX7_read 56 = .ok (.aload_n 0, 1) := by decide +kernel
theorem dX7_read_57 : decode cX7_read 57 = .ok (.getfield 37, 3) := by decide +kernel
theorem dX7_read_60 : decode cX7_read 60 = .ok (.invokevirtual 143, 3) := by decide +kernel
theorem dX7_read_63 : decode cX7_read 63 = .ok (.ireturn, 1) := by decide +kernel
theorem dX7_stopped_0 : decode cX7_stopped 0 = .ok (.aload_n 0, 1) := by decide +kernel
theorem dX7_stopped_1 : decode cX7_stopped 1 = .ok (.getfield 57, 3) := by decide +kernel
theorem dX7_stopped_4 : decode cX7_stopped 4 = .ok (.ireturn, 1) := by decide +kernel
theorem dX7_trace_0 : decode cX7_trace 0 = .ok (.aload_n 0, 1) := by decide +kernel
theorem dX7_trace_1 : decode cX7_trace 1 = .ok (.getfield 37, 3) := by decide +kernel
theorem dX7_trace_4 : decode cX7_trace 4 = .ok (.invokevirtual 146, 3) := by decide +kernel
theorem dX7_trace_7 : decode cX7_trace 7 = .ok (.invokevirtual 150, 3) := by decide +kernel
theorem dX7_trace_10 : decode cX7_trace 10 = .ok (.ireturn, 1) := by decide +kernel
theorem dX7_step_0 : decode cX7_step 0 = .ok (.iload_n 1, 1) := by decide +kernel
theorem dX7_step_1 : decode cX7_step 1 = .ok (.ifCond .lt 17, 3) := by decide +kernel
theorem dX7_step_4 : decode cX7_step 4 = .ok (.iload_n 1, 1) := by decide +kernel
theorem dX7_step_5 : decode cX7_step 5 = .ok (.aload_n 0, 1) := by decide +kernel
theorem dX7_step_6 : decode cX7_step 6 = .ok (.getfield 37, 3) := by decide +kernel
theorem dX7_step_9 : decode cX7_step 9 = .ok (.invokevirtual 146, 3) := by decide +kernel
theorem dX7_step_12 : decode cX7_step 12 = .ok (.invokevirtual 150, 3) := by decide +kernel
theorem dX7_step_15 : decode cX7_step 15 = .ok (.if_icmp .lt 11, 3) := by decide +kernel
theorem dX7_step_18 : decode cX7_step 18 = .ok (.new 105, 3) := by decide +kernel
theorem dX7_step_21 : decode cX7_step 21 = .ok (.dup, 1) := by decide +kernel
theorem dX7_step_22 : decode cX7_step 22 = .ok (.invokespecial 107, 3) := by decide +kernel
theorem dX7_step_25 : decode cX7_step 25 = .ok (.athrow, 1) := by decide +kernel
theorem dX7_step_26 : decode cX7_step 26 = .ok (.aload_n 0, 1) := by decide +kernel
theorem dX7_step_27 : decode cX7_step 27 = .ok (.getfield 37, 3) := by decide +kernel
theorem dX7_step_30 : decode cX7_step 30 = .ok (.invokevirtual 146, 3) := by decide +kernel
theorem dX7_step_33 : decode cX7_step 33 = .ok (.iload_n 1, 1) := by decide +kernel
theorem dX7_step_34 : decode cX7_step 34 = .ok (.invokevirtual 153, 3) := by decide +kernel
theorem dX7_step_37 : decode cX7_step 37 = .ok (.ireturn, 1) := by decide +kernel
theorem dX7_count_0 : decode cX7_count 0 = .ok (.aload_n 0, 1) := by decide +kernel
theorem dX7_count_1 : decode cX7_count 1 = .ok (.iload_n 1, 1) := by decide +kernel
theorem dX7_count_2 : decode cX7_count 2 = .ok (.iload_n 2, 1) := by decide +kernel
theorem dX7_count_3 : decode cX7_count 3 = .ok (.invokevirtual 154, 3) := by decide +kernel
theorem dX7_count_6 : decode cX7_count 6 = .ok (.aload_n 0, 1) := by decide +kernel
theorem dX7_count_7 : decode cX7_count 7 = .ok (.getfield 44, 3) := by decide +kernel
theorem dX7_count_10 : decode cX7_count 10 = .ok (.iload_n 1, 1) := by decide +kernel
theorem dX7_count_11 : decode cX7_count 11 = .ok (.iload_n 2, 1) := by decide +kernel
theorem dX7_count_12 : decode cX7_count 12 = .ok (.invokevirtual 158, 3) := by decide +kernel
theorem dX7_count_15 : decode cX7_count 15 = .ok (.lreturn, 1) := by decide +kernel
theorem dX7_find_0 : decode cX7_find 0 = .ok (.aload_n 0, 1) := by decide +kernel
theorem dX7_find_1 : decode cX7_find 1 = .ok (.iload_n 1, 1) := by decide +kernel
theorem dX7_find_2 : decode cX7_find 2 = .ok (.iload_n 2, 1) := by decide +kernel
theorem dX7_find_3 : decode cX7_find 3 = .ok (.invokevirtual 154, 3) := by decide +kernel
theorem dX7_find_6 : decode cX7_find 6 = .ok (.lload_n 3, 1) := by decide +kernel
theorem dX7_find_7 : decode cX7_find 7 = .ok (.lconst 0, 1) := by decide +kernel
theorem dX7_find_8 : decode cX7_find 8 = .ok (.lcmp, 1) := by decide +kernel
theorem dX7_find_9 : decode cX7_find 9 = .ok (.ifCond .lt 17, 3) := by decide +kernel
theorem dX7_find_12 : decode cX7_find 12 = .ok (.lload_n 3, 1) := by decide +kernel
theorem dX7_find_13 : decode cX7_find 13 = .ok (.aload_n 0, 1) := by decide +kernel
theorem dX7_find_14 : decode cX7_find 14 = .ok (.getfield 44, 3) := by decide +kernel
theorem dX7_find_17 : decode cX7_find 17 = .ok (.iload_n 1, 1) := by decide +kernel
theorem dX7_find_18 : decode cX7_find 18 = .ok (.iload_n 2, 1) := by decide +kernel
theorem dX7_find_19 : decode cX7_find 19 = .ok (.invokevirtual 158, 3) := by decide +kernel
theorem dX7_find_22 : decode cX7_find 22 = .ok (.lcmp, 1) := by decide +kernel
theorem dX7_find_23 : decode cX7_find 23 = .ok (.ifCond .lt 11, 3) := by decide +kernel
theorem dX7_find_26 : decode cX7_find 26 = .ok (.new 162, 3) := by decide +kernel
theorem dX7_find_29 : decode cX7_find 29 = .ok (.dup, 1) := by decide +kernel
theorem dX7_find_30 : decode cX7_find 30 = .ok (.invokespecial 164, 3) := by decide +kernel
theorem dX7_find_33 : decode cX7_find 33 = .ok (.athrow, 1) := by decide +kernel
theorem dX7_find_34 : decode cX7_find 34 = .ok (.aload_n 0, 1) := by decide +kernel
theorem dX7_find_35 : decode cX7_find 35 = .ok (.getfield 53, 3) := by decide +kernel
theorem dX7_find_38 : decode cX7_find 38 = .ok (.iload_n 1, 1) := by decide +kernel
theorem dX7_find_39 : decode cX7_find 39 = .ok (.iload_n 2, 1) := by decide +kernel
theorem dX7_find_40 : decode cX7_find 40 = .ok (.lload_n 3, 1) := by decide +kernel
theorem dX7_find_41 : decode cX7_find 41 = .ok (.aload_n 0, 1) := by decide +kernel
theorem dX7_find_42 : decode cX7_find 42 = .ok (.getfield 28, 3) := by decide +kernel
theorem dX7_find_45 : decode cX7_find 45 = .ok (.invokevirtual 165, 3) := by decide +kernel
theorem dX7_find_48 : decode cX7_find 48 = .ok (.return_, 1) := by decide +kernel
theorem dX7_countTo_0 : decode cX7_countTo 0 = .ok (.aload_n 0, 1) := by decide +kernel
theorem dX7_countTo_1 : decode cX7_countTo 1 = .ok (.iload_n 1, 1) := by decide +kernel
theorem dX7_countTo_2 : decode cX7_countTo 2 = .ok (.invokevirtual 75, 3) := by decide +kernel
theorem dX7_countTo_5 : decode cX7_countTo 5 = .ok (.aload_n 0, 1) := by decide +kernel
theorem dX7_countTo_6 : decode cX7_countTo 6 = .ok (.iload_n 1, 1) := by decide +kernel
theorem dX7_countTo_7 : decode cX7_countTo 7 = .ok (.invokevirtual 108, 3) := by decide +kernel
theorem dX7_countTo_10 : decode cX7_countTo 10 = .ok (.iload_n 2, 1) := by decide +kernel
theorem dX7_countTo_11 : decode cX7_countTo 11 = .ok (.ifCond .lt 9, 3) := by decide +kernel
theorem dX7_countTo_14 : decode cX7_countTo 14 = .ok (.iload_n 2, 1) := by decide +kernel
theorem dX7_countTo_15 : decode cX7_countTo 15 = .ok (.bipush 16, 2) := by decide +kernel
theorem dX7_countTo_17 : decode cX7_countTo 17 = .ok (.if_icmp .le 11, 3) := by decide +kernel
theorem dX7_countTo_20 : decode cX7_countTo 20 = .ok (.new 61, 3) := by decide +kernel
theorem dX7_countTo_23 : decode cX7_countTo 23 = .ok (.dup, 1) := by decide +kernel
theorem dX7_countTo_24 : decode cX7_countTo 24 = .ok (.invokespecial 63, 3) := by decide +kernel
theorem dX7_countTo_27 : decode cX7_countTo 27 = .ok (.athrow, 1) := by decide +kernel
theorem dX7_countTo_28 : decode cX7_countTo 28 = .ok (.aload_n 0, 1) := by decide +kernel
theorem dX7_countTo_29 : decode cX7_countTo 29 = .ok (.getfield 44, 3) := by decide +kernel
theorem dX7_countTo_32 : decode cX7_countTo 32 = .ok (.iload_n 2, 1) := by decide +kernel
theorem dX7_countTo_33 : decode cX7_countTo 33 = .ok (.invokevirtual 169, 3) := by decide +kernel
theorem dX7_countTo_36 : decode cX7_countTo 36 = .ok (.return_, 1) := by decide +kernel
theorem dX7_needTerm_0 : decode cX7_needTerm 0 = .ok (.aload_n 0, 1) := by decide +kernel
theorem dX7_needTerm_1 : decode cX7_needTerm 1 = .ok (.getfield 12, 3) := by decide +kernel
theorem dX7_needTerm_4 : decode cX7_needTerm 4 = .ok (.iload_n 1, 1) := by decide +kernel
theorem dX7_needTerm_5 : decode cX7_needTerm 5 = .ok (.invokevirtual 171, 3) := by decide +kernel
theorem dX7_needTerm_8 : decode cX7_needTerm 8 = .ok (.ifCond .ne 11, 3) := by decide +kernel
theorem dX7_needTerm_11 : decode cX7_needTerm 11 = .ok (.new 105, 3) := by decide +kernel
theorem dX7_needTerm_14 : decode cX7_needTerm 14 = .ok (.dup, 1) := by decide +kernel
theorem dX7_needTerm_15 : decode cX7_needTerm 15 = .ok (.invokespecial 107, 3) := by decide +kernel
theorem dX7_needTerm_18 : decode cX7_needTerm 18 = .ok (.athrow, 1) := by decide +kernel
theorem dX7_needTerm_19 : decode cX7_needTerm 19 = .ok (.return_, 1) := by decide +kernel
theorem dX7_needTyped_0 : decode cX7_needTyped 0 = .ok (.aload_n 0, 1) := by decide +kernel
theorem dX7_needTyped_1 : decode cX7_needTyped 1 = .ok (.getfield 21, 3) := by decide +kernel
theorem dX7_needTyped_4 : decode cX7_needTyped 4 = .ok (.iload_n 1, 1) := by decide +kernel
theorem dX7_needTyped_5 : decode cX7_needTyped 5 = .ok (.invokevirtual 99, 3) := by decide +kernel
theorem dX7_needTyped_8 : decode cX7_needTyped 8 = .ok (.aload_n 0, 1) := by decide +kernel
theorem dX7_needTyped_9 : decode cX7_needTyped 9 = .ok (.getfield 21, 3) := by decide +kernel
theorem dX7_needTyped_12 : decode cX7_needTyped 12 = .ok (.invokevirtual 102, 3) := by decide +kernel
theorem dX7_needTyped_15 : decode cX7_needTyped 15 = .ok (.ifCond .eq 11, 3) := by decide +kernel
theorem dX7_needTyped_18 : decode cX7_needTyped 18 = .ok (.new 82, 3) := by decide +kernel
theorem dX7_needTyped_21 : decode cX7_needTyped 21 = .ok (.dup, 1) := by decide +kernel
theorem dX7_needTyped_22 : decode cX7_needTyped 22 = .ok (.invokespecial 84, 3) := by decide +kernel
theorem dX7_needTyped_25 : decode cX7_needTyped 25 = .ok (.athrow, 1) := by decide +kernel
theorem dX7_needTyped_26 : decode cX7_needTyped 26 = .ok (.return_, 1) := by decide +kernel
theorem dX7_needVariable_0 : decode cX7_needVariable 0 = .ok (.iload_n 1, 1) := by decide +kernel
theorem dX7_needVariable_1 : decode cX7_needVariable 1 = .ok (.ifCond .lt 8, 3) := by decide +kernel
theorem dX7_needVariable_4 : decode cX7_needVariable 4 = .ok (.iload_n 1, 1) := by decide +kernel
theorem dX7_needVariable_5 : decode cX7_needVariable 5 = .ok (.iconst 4, 1) := by decide +kernel
theorem dX7_needVariable_6 : decode cX7_needVariable 6 = .ok (.if_icmp .lt 11, 3) := by decide +kernel
theorem dX7_needVariable_9 : decode cX7_needVariable 9 = .ok (.new 61, 3) := by decide +kernel
theorem dX7_needVariable_12 : decode cX7_needVariable 12 = .ok (.dup, 1) := by decide +kernel
theorem dX7_needVariable_13 : decode cX7_needVariable 13 = .ok (.invokespecial 63, 3) := by decide +kernel
theorem dX7_needVariable_16 : decode cX7_needVariable 16 = .ok (.athrow, 1) := by decide +kernel
theorem dX7_needVariable_17 : decode cX7_needVariable 17 = .ok (.return_, 1) := by decide +kernel
theorem dX7_needRoom_0 : decode cX7_needRoom 0 = .ok (.aload_n 0, 1) := by decide +kernel
theorem dX7_needRoom_1 : decode cX7_needRoom 1 = .ok (.getfield 12, 3) := by decide +kernel
theorem dX7_needRoom_4 : decode cX7_needRoom 4 = .ok (.invokevirtual 174, 3) := by decide +kernel
theorem dX7_needRoom_7 : decode cX7_needRoom 7 = .ok (.ifCond .eq 11, 3) := by decide +kernel
theorem dX7_needRoom_10 : decode cX7_needRoom 10 = .ok (.new 89, 3) := by decide +kernel
theorem dX7_needRoom_13 : decode cX7_needRoom 13 = .ok (.dup, 1) := by decide +kernel
theorem dX7_needRoom_14 : decode cX7_needRoom 14 = .ok (.invokespecial 91, 3) := by decide +kernel
theorem dX7_needRoom_17 : decode cX7_needRoom 17 = .ok (.athrow, 1) := by decide +kernel
theorem dX7_needRoom_18 : decode cX7_needRoom 18 = .ok (.return_, 1) := by decide +kernel
theorem dX8_init_0 : decode cX8_init 0 = .ok (.aload_n 0, 1) := by decide +kernel
theorem dX8_init_1 : decode cX8_init 1 = .ok (.invokespecial 1, 3) := by decide +kernel
theorem dX8_init_4 : decode cX8_init 4 = .ok (.aload_n 0, 1) := by decide +kernel
theorem dX8_init_5 : decode cX8_init 5 = .ok (.bipush 48, 2) := by decide +kernel
theorem dX8_init_7 : decode cX8_init 7 = .ok (.newarray .int, 2) := by decide +kernel
theorem dX8_init_9 : decode cX8_init 9 = .ok (.putfield 7, 3) := by decide +kernel
theorem dX8_init_12 : decode cX8_init 12 = .ok (.aload_n 0, 1) := by decide +kernel
theorem dX8_init_13 : decode cX8_init 13 = .ok (.bipush 48, 2) := by decide +kernel
theorem dX8_init_15 : decode cX8_init 15 = .ok (.newarray .int, 2) := by decide +kernel
theorem dX8_init_17 : decode cX8_init 17 = .ok (.putfield 13, 3) := by decide +kernel
theorem dX8_init_20 : decode cX8_init 20 = .ok (.aload_n 0, 1) := by decide +kernel
theorem dX8_init_21 : decode cX8_init 21 = .ok (.bipush 48, 2) := by decide +kernel
theorem dX8_init_23 : decode cX8_init 23 = .ok (.newarray .int, 2) := by decide +kernel
theorem dX8_init_25 : decode cX8_init 25 = .ok (.putfield 16, 3) := by decide +kernel
theorem dX8_init_28 : decode cX8_init 28 = .ok (.aload_n 0, 1) := by decide +kernel
theorem dX8_init_29 : decode cX8_init 29 = .ok (.bipush 48, 2) := by decide +kernel
theorem dX8_init_31 : decode cX8_init 31 = .ok (.newarray .int, 2) := by decide +kernel
theorem dX8_init_33 : decode cX8_init 33 = .ok (.putfield 19, 3) := by decide +kernel
theorem dX8_init_36 : decode cX8_init 36 = .ok (.aload_n 0, 1) := by decide +kernel
theorem dX8_init_37 : decode cX8_init 37 = .ok (.bipush 48, 2) := by decide +kernel
theorem dX8_init_39 : decode cX8_init 39 = .ok (.newarray .int, 2) := by decide +kernel
theorem dX8_init_41 : decode cX8_init 41 = .ok (.putfield 22, 3) := by decide +kernel
theorem dX8_init_44 : decode cX8_init 44 = .ok (.aload_n 0, 1) := by decide +kernel
theorem dX8_init_45 : decode cX8_init 45 = .ok (.bipush 48, 2) := by decide +kernel
theorem dX8_init_47 : decode cX8_init 47 = .ok (.newarray .int, 2) := by decide +kernel
theorem dX8_init_49 : decode cX8_init 49 = .ok (.putfield 25, 3) := by decide +kernel
theorem dX8_init_52 : decode cX8_init 52 = .ok (.aload_n 0, 1) := by decide +kernel
theorem dX8_init_53 : decode cX8_init 53 = .ok (.bipush 48, 2) := by decide +kernel
theorem dX8_init_55 : decode cX8_init 55 = .ok (.newarray .boolean, 2) := by decide +kernel
theorem dX8_init_57 : decode cX8_init 57 = .ok (.putfield 28, 3) := by decide +kernel
theorem dX8_init_60 : decode cX8_init 60 = .ok (.aload_n 0, 1) := by decide +kernel
theorem dX8_init_61 : decode cX8_init 61 = .ok (.bipush 48, 2) := by decide +kernel
theorem dX8_init_63 : decode cX8_init 63 = .ok (.newarray .int, 2) := by decide +kernel
theorem dX8_init_65 : decode cX8_init 65 = .ok (.putfield 32, 3) := by decide +kernel
theorem dX8_init_68 : decode cX8_init 68 = .ok (.aload_n 0, 1) := by decide +kernel
theorem dX8_init_69 : decode cX8_init 69 = .ok (.bipush 48, 2) := by decide +kernel
theorem dX8_init_71 : decode cX8_init 71 = .ok (.newarray .int, 2) := by decide +kernel
theorem dX8_init_73 : decode cX8_init 73 = .ok (.putfield 35, 3) := by decide +kernel
theorem dX8_init_76 : decode cX8_init 76 = .ok (.aload_n 0, 1) := by decide +kernel
theorem dX8_init_77 : decode cX8_init 77 = .ok (.bipush 48, 2) := by decide +kernel
theorem dX8_init_79 : decode cX8_init 79 = .ok (.newarray .boolean, 2) := by decide +kernel
theorem dX8_init_81 : decode cX8_init 81 = .ok (.putfield 38, 3) := by decide +kernel
theorem dX8_init_84 : decode cX8_init 84 = .ok (.aload_n 0, 1) := by decide +kernel
theorem dX8_init_85 : decode cX8_init 85 = .ok (.bipush 48, 2) := by decide +kernel
theorem dX8_init_87 : decode cX8_init 87 = .ok (.newarray .int, 2) := by decide +kernel
theorem dX8_init_89 : decode cX8_init 89 = .ok (.putfield 41, 3) := by decide +kernel
theorem dX8_init_92 : decode cX8_init 92 = .ok (.aload_n 0, 1) := by decide +kernel
theorem dX8_init_93 : decode cX8_init 93 = .ok (.bipush 40, 2) := by decide +kernel
theorem dX8_init_95 : decode cX8_init 95 = .ok (.newarray .int, 2) := by decide +kernel
theorem dX8_init_97 : decode cX8_init 97 = .ok (.putfield 44, 3) := by decide +kernel
theorem dX8_init_100 : decode cX8_init 100 = .ok (.aload_n 0, 1) := by decide +kernel
theorem dX8_init_101 : decode cX8_init 101 = .ok (.iconst (-1), 1) := by decide +kernel
theorem dX8_init_102 : decode cX8_init 102 = .ok (.putfield 47, 3) := by decide +kernel
theorem dX8_init_105 : decode cX8_init 105 = .ok (.aload_n 0, 1) := by decide +kernel
theorem dX8_init_106 : decode cX8_init 106 = .ok (.sipush 2100, 3) := by decide +kernel
theorem dX8_init_109 : decode cX8_init 109 = .ok (.newarray .int, 2) := by decide +kernel
theorem dX8_init_111 : decode cX8_init 111 = .ok (.putfield 51, 3) := by decide +kernel
theorem dX8_init_114 : decode cX8_init 114 = .ok (.aload_n 0, 1) := by decide +kernel
theorem dX8_init_115 : decode cX8_init 115 = .ok (.sipush 2100, 3) := by decide +kernel
theorem dX8_init_118 : decode cX8_init 118 = .ok (.newarray .int, 2) := by decide +kernel
theorem dX8_init_120 : decode cX8_init 120 = .ok (.putfield 54, 3) := by decide +kernel
theorem dX8_init_123 : decode cX8_init 123 = .ok (.aload_n 0, 1) := by decide +kernel
theorem dX8_init_124 : decode cX8_init 124 = .ok (.sipush 2100, 3) := by decide +kernel
theorem dX8_init_127 : decode cX8_init 127 = .ok (.newarray .int, 2) := by decide +kernel
theorem dX8_init_129 : decode cX8_init 129 = .ok (.putfield 57, 3) := by decide +kernel
theorem dX8_init_132 : decode cX8_init 132 = .ok (.aload_n 0, 1) := by decide +kernel
theorem dX8_init_133 : decode cX8_init 133 = .ok (.sipush 2100, 3) := by decide +kernel
theorem dX8_init_136 : decode cX8_init 136 = .ok (.newarray .int, 2) := by decide +kernel
theorem dX8_init_138 : decode cX8_init 138 = .ok (.putfield 60, 3) := by decide +kernel
theorem dX8_init_141 : decode cX8_init 141 = .ok (.aload_n 0, 1) := by decide +kernel
theorem dX8_init_142 : decode cX8_init 142 = .ok (.sipush 816, 3) := by decide +kernel
theorem dX8_init_145 : decode cX8_init 145 = .ok (.newarray .long, 2) := by decide +kernel
theorem dX8_init_147 : decode cX8_init 147 = .ok (.putfield 63, 3) := by decide +kernel
theorem dX8_init_150 : decode cX8_init 150 = .ok (.aload_n 0, 1) := by decide +kernel
theorem dX8_init_151 : decode cX8_init 151 = .ok (.bipush 17, 2) := by decide +kernel
theorem dX8_init_153 : decode cX8_init 153 = .ok (.newarray .long, 2) := by decide +kernel
theorem dX8_init_155 : decode cX8_init 155 = .ok (.putfield 67, 3) := by decide +kernel
theorem dX8_init_158 : decode cX8_init 158 = .ok (.aload_n 0, 1) := by decide +kernel
theorem dX8_init_159 : decode cX8_init 159 = .ok (.bipush 17, 2) := by decide +kernel
theorem dX8_init_161 : decode cX8_init 161 = .ok (.newarray .long, 2) := by decide +kernel
theorem dX8_init_163 : decode cX8_init 163 = .ok (.putfield 70, 3) := by decide +kernel
theorem dX8_init_166 : decode cX8_init 166 = .ok (.return_, 1) := by decide +kernel
theorem dX8_thrown_0 : decode cX8_thrown 0 = .ok (.aload_n 0, 1) := by decide +kernel
theorem dX8_thrown_1 : decode cX8_thrown 1 = .ok (.getfield 73, 3) := by decide +kernel
theorem dX8_thrown_4 : decode cX8_thrown 4 = .ok (.ireturn, 1) := by decide +kernel
theorem dX8_fail_0 : decode cX8_fail 0 = .ok (.aload_n 0, 1) := by decide +kernel
theorem dX8_fail_1 : decode cX8_fail 1 = .ok (.iload_n 1, 1) := by decide +kernel
theorem dX8_fail_2 : decode cX8_fail 2 = .ok (.putfield 73, 3) := by decide +kernel
theorem dX8_fail_5 : decode cX8_fail 5 = .ok (.iconst 0, 1) := by decide +kernel
theorem dX8_fail_6 : decode cX8_fail 6 = .ok (.ireturn, 1) := by decide +kernel
theorem dX8_isTerm_0 : decode cX8_isTerm 0 = .ok (.iload_n 1, 1) := by decide +kernel
theorem dX8_isTerm_1 : decode cX8_isTerm 1 = .ok (.ifCond .lt 15, 3) := by decide +kernel
theorem dX8_isTerm_4 : decode cX8_isTerm 4 = .ok (.iload_n 1, 1) := by decide +kernel
theorem dX8_isTerm_5 : decode cX8_isTerm 5 = .ok (.aload_n 0, 1) := by decide +kernel
theorem dX8_isTerm_6 : decode cX8_isTerm 6 = .ok (.getfield 76, 3) := by decide +kernel
theorem dX8_isTerm_9 : decode cX8_isTerm 9 = .ok (.if_icmp .ge 7, 3) := by decide +kernel
theorem dX8_isTerm_12 : decode cX8_isTerm 12 = .ok (.iconst 1, 1) := by decide +kernel
theorem dX8_isTerm_13 : decode cX8_isTerm 13 = .ok (.goto 4, 3) := by decide +kernel
theorem dX8_isTerm_16 : decode cX8_isTerm 16 = .ok (.iconst 0, 1) := by decide +kernel
theorem dX8_isTerm_17 : decode cX8_isTerm 17 = .ok (.ireturn, 1) := by decide +kernel
theorem dX8_isPart_0 : decode cX8_isPart 0 = .ok (.aload_n 0, 1) := by decide +kernel
theorem dX8_isPart_1 : decode cX8_isPart 1 = .ok (.getfield 22, 3) := by decide +kernel
theorem dX8_isPart_4 : decode cX8_isPart 4 = .ok (.iload_n 1, 1) := by decide +kernel
theorem dX8_isPart_5 : decode cX8_isPart 5 = .ok (.iaload, 1) := by decide +kernel
theorem dX8_isPart_6 : decode cX8_isPart 6 = .ok (.ifCond .lt 7, 3) := by decide +kernel
theorem dX8_isPart_9 : decode cX8_isPart 9 = .ok (.iconst 1, 1) := by decide +kernel
theorem dX8_isPart_10 : decode cX8_isPart 10 = .ok (.goto 4, 3) := by decide +kernel
theorem dX8_isPart_13 : decode cX8_isPart 13 = .ok (.iconst 0, 1) := by decide +kernel
theorem dX8_isPart_14 : decode cX8_isPart 14 = .ok (.ireturn, 1) := by decide +kernel
theorem dX8_add_0 : decode cX8_add 0 = .ok (.aload_n 0, 1) := by decide +kernel
theorem dX8_add_1 : decode cX8_add 1 = .ok (.getfield 7, 3) := by decide +kernel
theorem dX8_add_4 : decode cX8_add 4 = .ok (.aload_n 0, 1) := by decide +kernel
theorem dX8_add_5 : decode cX8_add 5 = .ok (.getfield 76, 3) := by decide +kernel
theorem dX8_add_8 : decode cX8_add 8 = .ok (.iload_n 1, 1) := by decide +kernel
theorem dX8_add_9 : decode cX8_add 9 = .ok (.iastore, 1) := by decide +kernel
theorem dX8_add_10 : decode cX8_add 10 = .ok (.aload_n 0, 1) := by decide +kernel
theorem dX8_add_11 : decode cX8_add 11 = .ok (.getfield 13, 3) := by decide +kernel
theorem dX8_add_14 : decode cX8_add 14 = .ok (.aload_n 0, 1) := by decide +kernel
theorem dX8_add_15 : decode cX8_add 15 = .ok (.getfield 76, 3) := by decide +kernel
theorem dX8_add_18 : decode cX8_add 18 = .ok (.iload_n 2, 1) := by decide +kernel
theorem dX8_add_19 : decode cX8_add 19 = .ok (.iastore, 1) := by decide +kernel
theorem dX8_add_20 : decode cX8_add 20 = .ok (.aload_n 0, 1) := by decide +kernel
theorem dX8_add_21 : decode cX8_add 21 = .ok (.getfield 16, 3) := by decide +kernel
theorem dX8_add_24 : decode cX8_add 24 = .ok (.aload_n 0, 1) := by decide +kernel
theorem dX8_add_25 : decode cX8_add 25 = .ok (.getfield 76, 3) := by decide +kernel
theorem dX8_add_28 : decode cX8_add 28 = .ok (.iload_n 3, 1) := by decide +kernel
theorem dX8_add_29 : decode cX8_add 29 = .ok (.iastore, 1) := by decide +kernel
theorem dX8_add_30 : decode cX8_add 30 = .ok (.aload_n 0, 1) := by decide +kernel
theorem dX8_add_31 : decode cX8_add 31 = .ok (.getfield 19, 3) := by decide +kernel
theorem dX8_add_34 : decode cX8_add 34 = .ok (.aload_n 0, 1) := by decide +kernel
theorem dX8_add_35 : decode cX8_add 35 = .ok (.getfield 76, 3) := by decide +kernel
theorem dX8_add_38 : decode cX8_add 38 = .ok (.iload 4, 2) := by decide +kernel
theorem dX8_add_40 : decode cX8_add 40 = .ok (.iastore, 1) := by decide +kernel
theorem dX8_add_41 : decode cX8_add 41 = .ok (.aload_n 0, 1) := by decide +kernel
theorem dX8_add_42 : decode cX8_add 42 = .ok (.getfield 22, 3) := by decide +kernel
theorem dX8_add_45 : decode cX8_add 45 = .ok (.aload_n 0, 1) := by decide +kernel
theorem dX8_add_46 : decode cX8_add 46 = .ok (.getfield 76, 3) := by decide +kernel
theorem dX8_add_49 : decode cX8_add 49 = .ok (.iconst (-1), 1) := by decide +kernel
theorem dX8_add_50 : decode cX8_add 50 = .ok (.iastore, 1) := by decide +kernel
theorem dX8_add_51 : decode cX8_add 51 = .ok (.iload_n 3, 1) := by decide +kernel
theorem dX8_add_52 : decode cX8_add 52 = .ok (.ifCond .ge 7, 3) := by decide +kernel
theorem dX8_add_55 : decode cX8_add 55 = .ok (.iconst 0, 1) := by decide +kernel
theorem dX8_add_56 : decode cX8_add 56 = .ok (.goto 9, 3) := by decide +kernel
theorem dX8_add_59 : decode cX8_add 59 = .ok (.aload_n 0, 1) := by decide +kernel
theorem dX8_add_60 : decode cX8_add 60 = .ok (.getfield 25, 3) := by decide +kernel
theorem dX8_add_63 : decode cX8_add 63 = .ok (.iload_n 3, 1) := by decide +kernel
theorem dX8_add_64 : decode cX8_add 64 = .ok (.iaload, 1) := by decide +kernel
theorem dX8_add_65 : decode cX8_add 65 = .ok (.istore 5, 2) := by decide +kernel
theorem dX8_add_67 : decode cX8_add 67 = .ok (.iload 4, 2) := by decide +kernel
theorem dX8_add_69 : decode cX8_add 69 = .ok (.ifCond .lt 25, 3) := by decide +kernel
theorem dX8_add_72 : decode cX8_add 72 = .ok (.aload_n 0, 1) := by decide +kernel
theorem dX8_add_73 : decode cX8_add 73 = .ok (.getfield 25, 3) := by decide +kernel
theorem dX8_add_76 : decode cX8_add 76 = .ok (.iload 4, 2) := by decide +kernel
theorem dX8_add_78 : decode cX8_add 78 = .ok (.iaload, 1) := by decide +kernel
theorem dX8_add_79 : decode cX8_add 79 = .ok (.iload 5, 2) := by decide +kernel
theorem dX8_add_81 : decode cX8_add 81 = .ok (.if_icmp .le 13, 3) := by decide +kernel
theorem dX8_add_84 : decode cX8_add 84 = .ok (.aload_n 0, 1) := by decide +kernel
theorem dX8_add_85 : decode cX8_add 85 = .ok (.getfield 25, 3) := by decide +kernel
theorem dX8_add_88 : decode cX8_add 88 = .ok (.iload 4, 2) := by decide +kernel
theorem dX8_add_90 : decode cX8_add 90 = .ok (.iaload, 1) := by decide +kernel
theorem dX8_add_91 : decode cX8_add 91 = .ok (.goto 5, 3) := by decide +kernel
theorem dX8_add_94 : decode cX8_add 94 = .ok (.iload 5, 2) := by decide +kernel
theorem dX8_add_96 : decode cX8_add 96 = .ok (.istore 5, 2) := by decide +kernel
theorem dX8_add_98 : decode cX8_add 98 = .ok (.aload_n 0, 1) := by decide +kernel
theorem dX8_add_99 : decode cX8_add 99 = .ok (.getfield 25, 3) := by decide +kernel
theorem dX8_add_102 : decode cX8_add 102 = .ok (.aload_n 0, 1) := by decide +kernel
theorem dX8_add_103 : decode cX8_add 103 = .ok (.getfield 76, 3) := by decide +kernel
theorem dX8_add_106 : decode cX8_add 106 = .ok (.iload_n 1, 1) := by decide +kernel
theorem dX8_add_107 : decode cX8_add 107 = .ok (.bipush 6, 2) := by decide +kernel
theorem dX8_add_109 : decode cX8_add 109 = .ok (.if_icmp .ne 10, 3) := by decide +kernel
theorem dX8_add_112 : decode cX8_add 112 = .ok (.iload 5, 2) := by decide +kernel
theorem dX8_add_114 : decode cX8_add 114 = .ok (.iconst 1, 1) := by decide +kernel
theorem dX8_add_115 : decode cX8_add 115 = .ok (.iadd, 1) := by decide +kernel
theorem dX8_add_116 : decode cX8_add 116 = .ok (.goto 5, 3) := by decide +kernel
theorem dX8_add_119 : decode cX8_add 119 = .ok (.iload 5, 2) := by decide +kernel
theorem dX8_add_121 : decode cX8_add 121 = .ok (.iastore, 1) := by decide +kernel
theorem dX8_add_122 : decode cX8_add 122 = .ok (.iload_n 3, 1) := by decide +kernel
theorem dX8_add_123 : decode cX8_add 123 = .ok (.ifCond .lt 13, 3) := by decide +kernel
theorem dX8_add_126 : decode cX8_add 126 = .ok (.aload_n 0, 1) := by decide +kernel
theorem dX8_add_127 : decode cX8_add 127 = .ok (.getfield 22, 3) := by decide +kernel
theorem dX8_add_130 : decode cX8_add 130 = .ok (.iload_n 3, 1) := by decide +kernel
theorem dX8_add_131 : decode cX8_add 131 = .ok (.aload_n 0, 1) := by decide +kernel
theorem dX8_add_132 : decode cX8_add 132 = .ok (.getfield 76, 3) := by decide +kernel
theorem dX8_add_135 : decode cX8_add 135 = .ok (.iastore, 1) := by decide +kernel
theorem dX8_add_136 : decode cX8_add 136 = .ok (.iload 4, 2) := by decide +kernel
theorem dX8_add_138 : decode cX8_add 138 = .ok (.ifCond .lt 14, 3) := by decide +kernel
theorem dX8_add_141 : decode cX8_add 141 = .ok (.aload_n 0, 1) := by decide +kernel
theorem dX8_add_142 : decode cX8_add 142 = .ok (.getfield 22, 3) := by decide +kernel
theorem dX8_add_145 : decode cX8_add 145 = .ok (.iload 4, 2) := by decide +kernel
theorem dX8_add_147 : decode cX8_add 147 = .ok (.aload_n 0, 1) := by decide +kernel
theorem dX8_add_148 : decode cX8_add 148 = .ok (.getfield 76, 3) := by decide +kernel
theorem dX8_add_151 : decode cX8_add 151 = .ok (.iastore, 1) := by decide +kernel
theorem dX8_add_152 : decode cX8_add 152 = .ok (.aload_n 0, 1) := by decide +kernel
theorem dX8_add_153 : decode cX8_add 153 = .ok (.dup, 1) := by decide +kernel
theorem dX8_add_154 : decode cX8_add 154 = .ok (.getfield 76, 3) := by decide +kernel
theorem dX8_add_157 : decode cX8_add 157 = .ok (.iconst 1, 1) := by decide +kernel
theorem dX8_add_158 : decode cX8_add 158 = .ok (.iadd, 1) := by decide +kernel
theorem dX8_add_159 : decode cX8_add 159 = .ok (.putfield 76, 3) := by decide +kernel
theorem dX8_add_162 : decode cX8_add 162 = .ok (.aload_n 0, 1) := by decide +kernel
theorem dX8_add_163 : decode cX8_add 163 = .ok (.getfield 76, 3) := by decide +kernel
theorem dX8_add_166 : decode cX8_add 166 = .ok (.iconst 1, 1) := by decide +kernel
theorem dX8_add_167 : decode cX8_add 167 = .ok (.isub, 1) := by decide +kernel
theorem dX8_add_168 : decode cX8_add 168 = .ok (.ireturn, 1) := by decide +kernel
theorem dX8_leaf_0 : decode cX8_leaf 0 = .ok (.aload_n 0, 1) := by decide +kernel
theorem dX8_leaf_1 : decode cX8_leaf 1 = .ok (.iload_n 1, 1) := by decide +kernel
theorem dX8_leaf_2 : decode cX8_leaf 2 = .ok (.bipush (-2), 2) := by decide +kernel
theorem dX8_leaf_4 : decode cX8_leaf 4 = .ok (.if_icmp .lt 9, 3) := by decide +kernel
theorem dX8_leaf_7 : decode cX8_leaf 7 = .ok (.iload_n 1, 1) := by decide +kernel
theorem dX8_leaf_8 : decode cX8_leaf 8 = .ok (.bipush 7, 2) := by decide +kernel
theorem dX8_leaf_10 : decode cX8_leaf 10 = .ok (.if_icmp .le 7, 3) := by decide +kernel
theorem dX8_leaf_13 : decode cX8_leaf 13 = .ok (.iconst 1, 1) := by decide +kernel
theorem dX8_leaf_14 : decode cX8_leaf 14 = .ok (.goto 17, 3) := by decide +kernel
theorem dX8_leaf_17 : decode cX8_leaf 17 = .ok (.aload_n 0, 1) := by decide +kernel
theorem dX8_leaf_18 : decode cX8_leaf 18 = .ok (.getfield 76, 3) := by decide +kernel
theorem dX8_leaf_21 : decode cX8_leaf 21 = .ok (.bipush 48, 2) := by decide +kernel
theorem dX8_leaf_23 : decode cX8_leaf 23 = .ok (.if_icmp .ne 7, 3) := by decide +kernel
theorem dX8_leaf_26 : decode cX8_leaf 26 = .ok (.iconst 2, 1) := by decide +kernel
theorem dX8_leaf_27 : decode cX8_leaf 27 = .ok (.goto 4, 3) := by decide +kernel
theorem dX8_leaf_30 : decode cX8_leaf 30 = .ok (.iconst 0, 1) := by decide +kernel
theorem dX8_leaf_31 : decode cX8_leaf 31 = .ok (.putfield 73, 3) := by decide +kernel
theorem dX8_leaf_34 : decode cX8_leaf 34 = .ok (.aload_n 0, 1) := by decide +kernel
theorem dX8_leaf_35 : decode cX8_leaf 35 = .ok (.getfield 73, 3) := by decide +kernel
theorem dX8_leaf_38 : decode cX8_leaf 38 = .ok (.ifCond .le 5, 3) := by decide +kernel
theorem dX8_leaf_41 : decode cX8_leaf 41 = .ok (.iconst 0, 1) := by decide +kernel
theorem dX8_leaf_42 : decode cX8_leaf 42 = .ok (.ireturn, 1) := by decide +kernel
theorem dX8_leaf_43 : decode cX8_leaf 43 = .ok (.aload_n 0, 1) := by decide +kernel
theorem dX8_leaf_44 : decode cX8_leaf 44 = .ok (.iload_n 1, 1) := by decide +kernel
theorem dX8_leaf_45 : decode cX8_leaf 45 = .ok (.iconst (-1), 1) := by decide +kernel
theorem dX8_leaf_46 : decode cX8_leaf 46 = .ok (.if_icmp .ne 7, 3) := by decide +kernel
theorem dX8_leaf_49 : decode cX8_leaf 49 = .ok (.iconst 0, 1) := by decide +kernel
theorem dX8_leaf_50 : decode cX8_leaf 50 = .ok (.goto 14, 3) := by decide +kernel
theorem dX8_leaf_53 : decode cX8_leaf 53 = .ok (.iload_n 1, 1) := by decide +kernel
theorem dX8_leaf_54 : decode cX8_leaf 54 = .ok (.bipush (-2), 2) := by decide +kernel
theorem dX8_leaf_56 : decode cX8_leaf 56 = .ok (.if_icmp .ne 7, 3) := by decide +kernel
theorem dX8_leaf_59 : decode cX8_leaf 59 = .ok (.iconst 1, 1) := by decide +kernel
theorem dX8_leaf_60 : decode cX8_leaf 60 = .ok (.goto 4, 3) := by decide +kernel
theorem dX8_leaf_63 : decode cX8_leaf 63 = .ok (.iconst 2, 1) := by decide +kernel
theorem dX8_leaf_64 : decode cX8_leaf 64 = .ok (.iload_n 1, 1) := by decide +kernel
theorem dX8_leaf_65 : decode cX8_leaf 65 = .ok (.iconst (-1), 1) := by decide +kernel
theorem dX8_leaf_66 : decode cX8_leaf 66 = .ok (.iconst (-1), 1) := by decide +kernel
theorem dX8_leaf_67 : decode cX8_leaf 67 = .ok (.invokevirtual 79, 3) := by decide +kernel
theorem dX8_leaf_70 : decode cX8_leaf 70 = .ok (.ireturn, 1) := by decide +kernel
theorem dX8_variable_0 : decode cX8_variable 0 = .ok (.aload_n 0, 1) := by decide +kernel
theorem dX8_variable_1 : decode cX8_variable 1 = .ok (.iload_n 1, 1) := by decide +kernel
theorem dX8_variable_2 : decode cX8_variable 2 = .ok (.ifCond .lt 8, 3) := by decide +kernel
theorem dX8_variable_5 : decode cX8_variable 5 = .ok (.iload_n 1, 1) := by decide +kernel
theorem dX8_variable_6 : decode cX8_variable 6 = .ok (.iconst 3, 1) := by decide +kernel
theorem dX8_variable_7 : decode cX8_variable 7 = .ok (.if_icmp .le 7, 3) := by decide +kernel
theorem dX8_variable_10 : decode cX8_variable 10 = .ok (.iconst 1, 1) := by decide +kernel
theorem dX8_variable_11 : decode cX8_variable 11 = .ok (.goto 17, 3) := by decide +kernel
theorem dX8_variable_14 : decode cX8_variable 14 = .ok (.aload_n 0, 1) := by decide +kernel
theorem dX8_variable_15 : decode cX8_variable 15 = .ok (.getfield 76, 3) := by decide +kernel
theorem dX8_variable_18 : decode cX8_variable 18 = .ok (.bipush 48, 2) := by decide +kernel
theorem dX8_variable_20 : decode cX8_variable 20 = .ok (.if_icmp .ne 7, 3) := by decide +kernel
theorem dX8_variable_23 : decode cX8_variable 23 = .ok (.iconst 2, 1) := by decide +kernel
theorem dX8_variable_24 : decode cX8_variable 24 = .ok (.goto 4, 3) := by decide +kernel
theorem dX8_variable_27 : decode cX8_variable 27 = .ok (.iconst 0, 1) := by decide +kernel
theorem dX8_variable_28 : decode cX8_variable 28 = .ok (.putfield 73, 3) := by decide +kernel
theorem dX8_variable_31 : decode cX8_variable 31 = .ok (.aload_n 0, 1) := by decide +kernel
theorem dX8_variable_32 : decode cX8_variable 32 = .ok (.getfield 73, 3) := by decide +kernel
theorem dX8_variable_35 : decode cX8_variable 35 = .ok (.ifCond .le 7, 3) := by decide +kernel
theorem dX8_variable_38 : decode cX8_variable 38 = .ok (.iconst 0, 1) := by decide +kernel
theorem dX8_variable_39 : decode cX8_variable 39 = .ok (.goto 11, 3) := by decide +kernel
theorem dX8_variable_42 : decode cX8_variable 42 = .ok (.aload_n 0, 1) := by decide +kernel
theorem dX8_variable_43 : decode cX8_variable 43 = .ok (.iconst 5, 1) := by decide +kernel
theorem dX8_variable_44 : decode cX8_variable 44 = .ok (.iload_n 1, 1) := by decide +kernel
theorem dX8_variable_45 : decode cX8_variable 45 = .ok (.iconst (-1), 1) := by decide +kernel
theorem dX8_variable_46 : decode cX8_variable 46 = .ok (.iconst (-1), 1) := by decide +kernel
theorem dX8_variable_47 : decode cX8_variable 47 = .ok (.invokevirtual 79, 3) := by decide +kernel
theorem dX8_variable_50 : decode cX8_variable 50 = .ok (.ireturn, 1) := by decide +kernel
theorem dX8_join_0 : decode cX8_join 0 = .ok (.aload_n 0, 1) := by decide +kernel
theorem dX8_join_1 : decode cX8_join 1 = .ok (.aload_n 0, 1) := by decide +kernel
theorem dX8_join_2 : decode cX8_join 2 = .ok (.iload_n 1, 1) := by decide +kernel
theorem dX8_join_3 : decode cX8_join 3 = .ok (.invokevirtual 83, 3) := by decide +kernel
theorem dX8_join_6 : decode cX8_join 6 = .ok (.ifCond .eq 11, 3) := by decide +kernel
theorem dX8_join_9 : decode cX8_join 9 = .ok (.aload_n 0, 1) := by decide +kernel
theorem dX8_join_10 : decode cX8_join 10 = .ok (.iload_n 2, 1) := by decide +kernel
theorem dX8_join_11 : decode cX8_join 11 = .ok (.invokevirtual 83, 3) := by decide +kernel
theorem dX8_join_14 : decode cX8_join 14 = .ok (.ifCond .ne 7, 3) := by decide +kernel
theorem dX8_join_17 : decode cX8_join 17 = .ok (.iconst 1, 1) := by decide +kernel
theorem dX8_join_18 : decode cX8_join 18 = .ok (.goto 42, 3) := by decide +kernel
theorem dX8_join_21 : decode cX8_join 21 = .ok (.aload_n 0, 1) := by decide +kernel
theorem dX8_join_22 : decode cX8_join 22 = .ok (.iload_n 1, 1) := by decide +kernel
theorem dX8_join_23 : decode cX8_join 23 = .ok (.invokevirtual 87, 3) := by decide +kernel
theorem dX8_join_26 : decode cX8_join 26 = .ok (.ifCond .ne 16, 3) := by decide +kernel
theorem dX8_join_29 : decode cX8_join 29 = .ok (.aload_n 0, 1) := by decide +kernel
theorem dX8_join_30 : decode cX8_join 30 = .ok (.iload_n 2, 1) := by decide +kernel
theorem dX8_join_31 : decode cX8_join 31 = .ok (.invokevirtual 87, 3) := by decide +kernel
theorem dX8_join_34 : decode cX8_join 34 = .ok (.ifCond .ne 8, 3) := by decide +kernel
theorem dX8_join_37 : decode cX8_join 37 = .ok (.iload_n 1, 1) := by decide +kernel
theorem dX8_join_38 : decode cX8_join 38 = .ok (.iload_n 2, 1) := by decide +kernel
theorem dX8_join_39 : decode cX8_join 39 = .ok (.if_icmp .ne 7, 3) := by decide +kernel
theorem dX8_join_42 : decode cX8_join 42 = .ok (.iconst 2, 1) := by decide +kernel
theorem dX8_join_43 : decode cX8_join 43 = .ok (.goto 17, 3) := by decide +kernel
theorem dX8_join_46 : decode cX8_join 46 = .ok (.aload_n 0, 1) := by decide +kernel
theorem dX8_join_47 : decode cX8_join 47 = .ok (.getfield 76, 3) := by decide +kernel
theorem dX8_join_50 : decode cX8_join 50 = .ok (.bipush 48, 2) := by decide +kernel
theorem dX8_join_52 : decode cX8_join 52 = .ok (.if_icmp .ne 7, 3) := by decide +kernel
theorem dX8_join_55 : decode cX8_join 55 = .ok (.iconst 3, 1) := by decide +kernel
theorem dX8_join_56 : decode cX8_join 56 = .ok (.goto 4, 3) := by decide +kernel
theorem dX8_join_59 : decode cX8_join 59 = .ok (.iconst 0, 1) := by decide +kernel
theorem dX8_join_60 : decode cX8_join 60 = .ok (.putfield 73, 3) := by decide +kernel
theorem dX8_join_63 : decode cX8_join 63 = .ok (.aload_n 0, 1) := by decide +kernel
theorem dX8_join_64 : decode cX8_join 64 = .ok (.getfield 73, 3) := by decide +kernel
theorem dX8_join_67 : decode cX8_join 67 = .ok (.ifCond .le 7, 3) := by decide +kernel
theorem dX8_join_70 : decode cX8_join 70 = .ok (.iconst 0, 1) := by decide +kernel
theorem dX8_join_71 : decode cX8_join 71 = .ok (.goto 19, 3) := by decide +kernel
theorem dX8_join_74 : decode cX8_join 74 = .ok (.aload_n 0, 1) := by decide +kernel
theorem dX8_join_75 : decode cX8_join 75 = .ok (.iload_n 3, 1) := by decide +kernel
theorem dX8_join_76 : decode cX8_join 76 = .ok (.ifCond .eq 7, 3) := by decide +kernel
theorem dX8_join_79 : decode cX8_join 79 = .ok (.iconst 4, 1) := by decide +kernel
theorem dX8_join_80 : decode cX8_join 80 = .ok (.goto 4, 3) := by decide +kernel
theorem dX8_join_83 : decode cX8_join 83 = .ok (.iconst 3, 1) := by decide +kernel
theorem dX8_join_84 : decode cX8_join 84 = .ok (.iconst 0, 1) := by decide +kernel
theorem dX8_join_85 : decode cX8_join 85 = .ok (.iload_n 1, 1) := by decide +kernel
theorem dX8_join_86 : decode cX8_join 86 = .ok (.iload_n 2, 1) := by decide +kernel
theorem dX8_join_87 : decode cX8_join 87 = .ok (.invokevirtual 79, 3) := by decide +kernel
theorem dX8_join_90 : decode cX8_join 90 = .ok (.ireturn, 1) := by decide +kernel
theorem dX8_knot_0 : decode cX8_knot 0 = .ok (.aload_n 0, 1) := by decide +kernel
theorem dX8_knot_1 : decode cX8_knot 1 = .ok (.aload_n 0, 1) := by decide +kernel
theorem dX8_knot_2 : decode cX8_knot 2 = .ok (.iload_n 2, 1) := by decide +kernel
theorem dX8_knot_3 : decode cX8_knot 3 = .ok (.invokevirtual 83, 3) := by decide +kernel
theorem dX8_knot_6 : decode cX8_knot 6 = .ok (.ifCond .ne 7, 3) := by decide +kernel
theorem dX8_knot_9 : decode cX8_knot 9 = .ok (.iconst 1, 1) := by decide +kernel
theorem dX8_knot_10 : decode cX8_knot 10 = .ok (.goto 52, 3) := by decide +kernel
theorem dX8_knot_13 : decode cX8_knot 13 = .ok (.aload_n 0, 1) := by decide +kernel
theorem dX8_knot_14 : decode cX8_knot 14 = .ok (.iload_n 2, 1) := by decide +kernel
theorem dX8_knot_15 : decode cX8_knot 15 = .ok (.invokevirtual 87, 3) := by decide +kernel
theorem dX8_knot_18 : decode cX8_knot 18 = .ok (.ifCond .eq 7, 3) := by decide +kernel
theorem dX8_knot_21 : decode cX8_knot 21 = .ok (.iconst 2, 1) := by decide +kernel
theorem dX8_knot_22 : decode cX8_knot 22 = .ok (.goto 40, 3) := by decide +kernel
theorem dX8_knot_25 : decode cX8_knot 25 = .ok (.iload_n 1, 1) := by decide +kernel
theorem dX8_knot_26 : decode cX8_knot 26 = .ok (.ifCond .lt 8, 3) := by decide +kernel
theorem dX8_knot_29 : decode cX8_knot 29 = .ok (.iload_n 1, 1) := by decide +kernel
theorem dX8_knot_30 : decode cX8_knot 30 = .ok (.iconst 3, 1) := by decide +kernel
theorem dX8_knot_31 : decode cX8_knot 31 = .ok (.if_icmp .le 7, 3) := by decide +kernel
theorem dX8_knot_34 : decode cX8_knot 34 = .ok (.iconst 3, 1) := by decide +kernel
theorem dX8_knot_35 : decode cX8_knot 35 = .ok (.goto 27, 3) := by decide +kernel
theorem dX8_knot_38 : decode cX8_knot 38 = .ok (.aload_n 0, 1) := by decide +kernel
theorem dX8_knot_39 : decode cX8_knot 39 = .ok (.getfield 76, 3) := by decide +kernel
theorem dX8_knot_42 : decode cX8_knot 42 = .ok (.bipush 48, 2) := by decide +kernel
theorem dX8_knot_44 : decode cX8_knot 44 = .ok (.if_icmp .eq 13, 3) := by decide +kernel
theorem dX8_knot_47 : decode cX8_knot 47 = .ok (.aload_n 0, 1) := by decide +kernel
theorem dX8_knot_48 : decode cX8_knot 48 = .ok (.getfield 25, 3) := by decide +kernel
theorem dX8_knot_51 : decode cX8_knot 51 = .ok (.iload_n 2, 1) := by decide +kernel
theorem dX8_knot_52 : decode cX8_knot 52 = .ok (.iaload, 1) := by decide +kernel
theorem dX8_knot_53 : decode cX8_knot 53 = .ok (.iconst 3, 1) := by decide +kernel
theorem dX8_knot_54 : decode cX8_knot 54 = .ok (.if_icmp .ne 7, 3) := by decide +kernel
theorem dX8_knot_57 : decode cX8_knot 57 = .ok (.iconst 4, 1) := by decide +kernel
theorem dX8_knot_58 : decode cX8_knot 58 = .ok (.goto 4, 3) := by decide +kernel
theorem dX8_knot_61 : decode cX8_knot 61 = .ok (.iconst 0, 1) := by decide +kernel
theorem dX8_knot_62 : decode cX8_knot 62 = .ok (.putfield 73, 3) := by decide +kernel
theorem dX8_knot_65 : decode cX8_knot 65 = .ok (.aload_n 0, 1) := by decide +kernel
theorem dX8_knot_66 : decode cX8_knot 66 = .ok (.getfield 73, 3) := by decide +kernel
theorem dX8_knot_69 : decode cX8_knot 69 = .ok (.ifCond .le 7, 3) := by decide +kernel
theorem dX8_knot_72 : decode cX8_knot 72 = .ok (.iconst 0, 1) := by decide +kernel
theorem dX8_knot_73 : decode cX8_knot 73 = .ok (.goto 12, 3) := by decide +kernel
theorem dX8_knot_76 : decode cX8_knot 76 = .ok (.aload_n 0, 1) := by decide +kernel
theorem dX8_knot_77 : decode cX8_knot 77 = .ok (.bipush 6, 2) := by decide +kernel
theorem dX8_knot_79 : decode cX8_knot 79 = .ok (.iload_n 1, 1) := by decide +kernel
theorem dX8_knot_80 : decode cX8_knot 80 = .ok (.iload_n 2, 1) := by decide +kernel
theorem dX8_knot_81 : decode cX8_knot 81 = .ok (.iconst (-1), 1) := by decide +kernel
theorem dX8_knot_82 : decode cX8_knot 82 = .ok (.invokevirtual 79, 3) := by decide +kernel
theorem dX8_knot_85 : decode cX8_knot 85 = .ok (.ireturn, 1) := by decide +kernel
theorem dX8_clear_0 : decode cX8_clear 0 = .ok (.aload_n 0, 1) := by decide +kernel
theorem dX8_clear_1 : decode cX8_clear 1 = .ok (.iconst 0, 1) := by decide +kernel
theorem dX8_clear_2 : decode cX8_clear 2 = .ok (.putfield 73, 3) := by decide +kernel
theorem dX8_clear_5 : decode cX8_clear 5 = .ok (.aload_n 0, 1) := by decide +kernel
theorem dX8_clear_6 : decode cX8_clear 6 = .ok (.iconst 0, 1) := by decide +kernel
theorem dX8_clear_7 : decode cX8_clear 7 = .ok (.putfield 76, 3) := by decide +kernel
theorem dX8_clear_10 : decode cX8_clear 10 = .ok (.return_, 1) := by decide +kernel
theorem dX8_terms_0 : decode cX8_terms 0 = .ok (.aload_n 0, 1) := by decide +kernel
theorem dX8_terms_1 : decode cX8_terms 1 = .ok (.iconst 0, 1) := by decide +kernel
theorem dX8_terms_2 : decode cX8_terms 2 = .ok (.putfield 73, 3) := by decide +kernel
theorem dX8_terms_5 : decode cX8_terms 5 = .ok (.aload_n 0, 1) := by decide +kernel
theorem dX8_terms_6 : decode cX8_terms 6 = .ok (.getfield 76, 3) := by decide +kernel
theorem dX8_terms_9 : decode cX8_terms 9 = .ok (.ireturn, 1) := by decide +kernel
theorem dX8_gather_0 : decode cX8_gather 0 = .ok (.iconst 0, 1) := by decide +kernel
theorem dX8_gather_1 : decode cX8_gather 1 = .ok (.istore_n 2, 1) := by decide +kernel
theorem dX8_gather_2 : decode cX8_gather 2 = .ok (.iload_n 2, 1) := by decide +kernel
theorem dX8_gather_3 : decode cX8_gather 3 = .ok (.aload_n 0, 1) := by decide +kernel
theorem dX8_gather_4 : decode cX8_gather 4 = .ok (.getfield 76, 3) := by decide +kernel
theorem dX8_gather_7 : decode cX8_gather 7 = .ok (.if_icmp .ge 131, 3) := by decide +kernel
theorem dX8_gather_10 : decode cX8_gather 10 = .ok (.iload_n 2, 1) := by decide +kernel
theorem dX8_gather_11 : decode cX8_gather 11 = .ok (.istore_n 3, 1) := by decide +kernel
theorem dX8_gather_12 : decode cX8_gather 12 = .ok (.aload_n 0, 1) := by decide +kernel
theorem dX8_gather_13 : decode cX8_gather 13 = .ok (.getfield 41, 3) := by decide +kernel
theorem dX8_gather_16 : decode cX8_gather 16 = .ok (.iload_n 2, 1) := by decide +kernel
theorem dX8_gather_17 : decode cX8_gather 17 = .ok (.iconst (-1), 1) := by decide +kernel
theorem dX8_gather_18 : decode cX8_gather 18 = .ok (.iastore, 1) := by decide +kernel
theorem dX8_gather_19 : decode cX8_gather 19 = .ok (.iload_n 3, 1) := by decide +kernel
theorem dX8_gather_20 : decode cX8_gather 20 = .ok (.iload_n 1, 1) := by decide +kernel
theorem dX8_gather_21 : decode cX8_gather 21 = .ok (.if_icmp .eq 74, 3) := by decide +kernel
theorem dX8_gather_24 : decode cX8_gather 24 = .ok (.aload_n 0, 1) := by decide +kernel
theorem dX8_gather_25 : decode cX8_gather 25 = .ok (.getfield 22, 3) := by decide +kernel
theorem dX8_gather_28 : decode cX8_gather 28 = .ok (.iload_n 3, 1) := by decide +kernel
theorem dX8_gather_29 : decode cX8_gather 29 = .ok (.iaload, 1) := by decide +kernel
theorem dX8_gather_30 : decode cX8_gather 30 = .ok (.ifCond .lt 65, 3) := by decide +kernel
theorem dX8_gather_33 : decode cX8_gather 33 = .ok (.aload_n 0, 1) := by decide +kernel
theorem dX8_gather_34 : decode cX8_gather 34 = .ok (.getfield 22, 3) := by decide +kernel
theorem dX8_gather_37 : decode cX8_gather 37 = .ok (.iload_n 3, 1) := by decide +kernel
theorem dX8_gather_38 : decode cX8_gather 38 = .ok (.iaload, 1) := by decide +kernel
theorem dX8_gather_39 : decode cX8_gather 39 = .ok (.istore_n 3, 1) := by decide +kernel
theorem dX8_gather_40 : decode cX8_gather 40 = .ok (.aload_n 0, 1) := by decide +kernel
theorem dX8_gather_41 : decode cX8_gather 41 = .ok (.getfield 7, 3) := by decide +kernel
theorem dX8_gather_44 : decode cX8_gather 44 = .ok (.iload_n 2, 1) := by decide +kernel
theorem dX8_gather_45 : decode cX8_gather 45 = .ok (.iaload, 1) := by decide +kernel
theorem dX8_gather_46 : decode cX8_gather 46 = .ok (.iconst 5, 1) := by decide +kernel
theorem dX8_gather_47 : decode cX8_gather 47 = .ok (.if_icmp .ne (-28), 3) := by decide +kernel
theorem dX8_gather_50 : decode cX8_gather 50 = .ok (.aload_n 0, 1) := by decide +kernel
theorem dX8_gather_51 : decode cX8_gather 51 = .ok (.getfield 41, 3) := by decide +kernel
theorem dX8_gather_54 : decode cX8_gather 54 = .ok (.iload_n 2, 1) := by decide +kernel
theorem dX8_gather_55 : decode cX8_gather 55 = .ok (.iaload, 1) := by decide +kernel
theorem dX8_gather_56 : decode cX8_gather 56 = .ok (.ifCond .ge (-37), 3) := by decide +kernel
theorem dX8_gather_59 : decode cX8_gather 59 = .ok (.aload_n 0, 1) := by decide +kernel
theorem dX8_gather_60 : decode cX8_gather 60 = .ok (.getfield 7, 3) := by decide +kernel
theorem dX8_gather_63 : decode cX8_gather 63 = .ok (.iload_n 3, 1) := by decide +kernel
theorem dX8_gather_64 : decode cX8_gather 64 = .ok (.iaload, 1) := by decide +kernel
theorem dX8_gather_65 : decode cX8_gather 65 = .ok (.bipush 6, 2) := by decide +kernel
theorem dX8_gather_67 : decode cX8_gather 67 = .ok (.if_icmp .ne (-48), 3) := by decide +kernel
theorem dX8_gather_70 : decode cX8_gather 70 = .ok (.aload_n 0, 1) := by decide +kernel
theorem dX8_gather_71 : decode cX8_gather 71 = .ok (.getfield 13, 3) := by decide +kernel
theorem dX8_gather_74 : decode cX8_gather 74 = .ok (.iload_n 3, 1) := by decide +kernel
theorem dX8_gather_75 : decode cX8_gather 75 = .ok (.iaload, 1) := by decide +kernel
theorem dX8_gather_76 : decode cX8_gather 76 = .ok (.aload_n 0, 1) := by decide +kernel
theorem dX8_gather_77 : decode cX8_gather 77 = .ok (.getfield 13, 3) := by decide +kernel
theorem dX8_gather_80 : decode cX8_gather 80 = .ok (.iload_n 2, 1) := by decide +kernel
theorem dX8_gather_81 : decode cX8_gather 81 = .ok (.iaload, 1) := by decide +kernel
theorem dX8_gather_82 : decode cX8_gather 82 = .ok (.if_icmp .ne (-63), 3) := by decide +kernel
theorem dX8_gather_85 : decode cX8_gather 85 = .ok (.aload_n 0, 1) := by decide +kernel
theorem dX8_gather_86 : decode cX8_gather 86 = .ok (.getfield 41, 3) := by decide +kernel
theorem dX8_gather_89 : decode cX8_gather 89 = .ok (.iload_n 2, 1) := by decide +kernel
theorem dX8_gather_90 : decode cX8_gather 90 = .ok (.iload_n 3, 1) := by decide +kernel
theorem dX8_gather_91 : decode cX8_gather 91 = .ok (.iastore, 1) := by decide +kernel
theorem dX8_gather_92 : decode cX8_gather 92 = .ok (.goto (-73), 3) := by decide +kernel
theorem dX8_gather_95 : decode cX8_gather 95 = .ok (.aload_n 0, 1) := by decide +kernel
theorem dX8_gather_96 : decode cX8_gather 96 = .ok (.getfield 38, 3) := by decide +kernel
theorem dX8_gather_99 : decode cX8_gather 99 = .ok (.iload_n 2, 1) := by decide +kernel
theorem dX8_gather_100 : decode cX8_gather 100 = .ok (.iload_n 3, 1) := by decide +kernel
theorem dX8_gather_101 : decode cX8_gather 101 = .ok (.iload_n 1, 1) := by decide +kernel
theorem dX8_gather_102 : decode cX8_gather 102 = .ok (.if_icmp .ne 7, 3) := by decide +kernel
theorem dX8_gather_105 : decode cX8_gather 105 = .ok (.iconst 1, 1) := by decide +kernel
theorem dX8_gather_106 : decode cX8_gather 106 = .ok (.goto 4, 3) := by decide +kernel
theorem dX8_gather_109 : decode cX8_gather 109 = .ok (.iconst 0, 1) := by decide +kernel
theorem dX8_gather_110 : decode cX8_gather 110 = .ok (.bastore, 1) := by decide +kernel
theorem dX8_gather_111 : decode cX8_gather 111 = .ok (.aload_n 0, 1) := by decide +kernel
theorem dX8_gather_112 : decode cX8_gather 112 = .ok (.getfield 28, 3) := by decide +kernel
theorem dX8_gather_115 : decode cX8_gather 115 = .ok (.iload_n 2, 1) := by decide +kernel
theorem dX8_gather_116 : decode cX8_gather 116 = .ok (.iconst 0, 1) := by decide +kernel
theorem dX8_gather_117 : decode cX8_gather 117 = .ok (.bastore, 1) := by decide +kernel
theorem dX8_gather_118 : decode cX8_gather 118 = .ok (.aload_n 0, 1) := by decide +kernel
theorem dX8_gather_119 : decode cX8_gather 119 = .ok (.getfield 32, 3) := by decide +kernel
theorem dX8_gather_122 : decode cX8_gather 122 = .ok (.iload_n 2, 1) := by decide +kernel
theorem dX8_gather_123 : decode cX8_gather 123 = .ok (.iconst 0, 1) := by decide +kernel
theorem dX8_gather_124 : decode cX8_gather 124 = .ok (.iastore, 1) := by decide +kernel
theorem dX8_gather_125 : decode cX8_gather 125 = .ok (.aload_n 0, 1) := by decide +kernel
theorem dX8_gather_126 : decode cX8_gather 126 = .ok (.getfield 35, 3) := by decide +kernel
theorem dX8_gather_129 : decode cX8_gather 129 = .ok (.iload_n 2, 1) := by decide +kernel
theorem dX8_gather_130 : decode cX8_gather 130 = .ok (.iconst 0, 1) := by decide +kernel
theorem dX8_gather_131 : decode cX8_gather 131 = .ok (.iastore, 1) := by decide +kernel
theorem dX8_gather_132 : decode cX8_gather 132 = .ok (.iinc 2 1, 3) := by decide +kernel
theorem dX8_gather_135 : decode cX8_gather 135 = .ok (.goto (-133), 3) := by decide +kernel
theorem dX8_gather_138 : decode cX8_gather 138 = .ok (.return_, 1) := by decide +kernel
theorem dX8_grow_0 : decode cX8_grow 0 = .ok (.aload_n 0, 1) := by decide +kernel
theorem dX8_grow_1 : decode cX8_grow 1 = .ok (.getfield 7, 3) := by decide +kernel
theorem dX8_grow_4 : decode cX8_grow 4 = .ok (.iload_n 1, 1) := by decide +kernel
theorem dX8_grow_5 : decode cX8_grow 5 = .ok (.iaload, 1) := by decide +kernel
theorem dX8_grow_6 : decode cX8_grow 6 = .ok (.ifCond .ne 7, 3) := by decide +kernel
theorem dX8_grow_9 : decode cX8_grow 9 = .ok (.iconst 1, 1) := by decide +kernel
theorem dX8_grow_10 : decode cX8_grow 10 = .ok (.goto 4, 3) := by decide +kernel
theorem dX8_grow_13 : decode cX8_grow 13 = .ok (.iconst 0, 1) := by decide +kernel
theorem dX8_grow_14 : decode cX8_grow 14 = .ok (.istore_n 2, 1) := by decide +kernel
theorem dX8_grow_15 : decode cX8_grow 15 = .ok (.aload_n 0, 1) := by decide +kernel
theorem dX8_grow_16 : decode cX8_grow 16 = .ok (.getfield 7, 3) := by decide +kernel
theorem dX8_grow_19 : decode cX8_grow 19 = .ok (.iload_n 1, 1) := by decide +kernel
theorem dX8_grow_20 : decode cX8_grow 20 = .ok (.iaload, 1) := by decide +kernel
theorem dX8_grow_21 : decode cX8_grow 21 = .ok (.iconst 2, 1) := by decide +kernel
theorem dX8_grow_22 : decode cX8_grow 22 = .ok (.if_icmp .ne 14, 3) := by decide +kernel
theorem dX8_grow_25 : decode cX8_grow 25 = .ok (.iconst 1, 1) := by decide +kernel
theorem dX8_grow_26 : decode cX8_grow 26 = .ok (.aload_n 0, 1) := by decide +kernel
theorem dX8_grow_27 : decode cX8_grow 27 = .ok (.getfield 13, 3) := by decide +kernel
theorem dX8_grow_30 : decode cX8_grow 30 = .ok (.iload_n 1, 1) := by decide +kernel
theorem dX8_grow_31 : decode cX8_grow 31 = .ok (.iaload, 1) := by decide +kernel
theorem dX8_grow_32 : decode cX8_grow 32 = .ok (.ishl, 1) := by decide +kernel
theorem dX8_grow_33 : decode cX8_grow 33 = .ok (.goto 4, 3) := by decide +kernel
theorem dX8_grow_36 : decode cX8_grow 36 = .ok (.iconst 0, 1) := by decide +kernel
theorem dX8_grow_37 : decode cX8_grow 37 = .ok (.istore_n 3, 1) := by decide +kernel
theorem dX8_grow_38 : decode cX8_grow 38 = .ok (.iconst 0, 1) := by decide +kernel
theorem dX8_grow_39 : decode cX8_grow 39 = .ok (.istore 4, 2) := by decide +kernel
theorem dX8_grow_41 : decode cX8_grow 41 = .ok (.aload_n 0, 1) := by decide +kernel
theorem dX8_grow_42 : decode cX8_grow 42 = .ok (.getfield 16, 3) := by decide +kernel
theorem dX8_grow_45 : decode cX8_grow 45 = .ok (.iload_n 1, 1) := by decide +kernel
theorem dX8_grow_46 : decode cX8_grow 46 = .ok (.iaload, 1) := by decide +kernel
theorem dX8_grow_47 : decode cX8_grow 47 = .ok (.istore 5, 2) := by decide +kernel
theorem dX8_grow_49 : decode cX8_grow 49 = .ok (.aload_n 0, 1) := by decide +kernel
theorem dX8_grow_50 : decode cX8_grow 50 = .ok (.getfield 19, 3) := by decide +kernel
theorem dX8_grow_53 : decode cX8_grow 53 = .ok (.iload_n 1, 1) := by decide +kernel
theorem dX8_grow_54 : decode cX8_grow 54 = .ok (.iaload, 1) := by decide +kernel
theorem dX8_grow_55 : decode cX8_grow 55 = .ok (.istore 6, 2) := by decide +kernel
theorem dX8_grow_57 : decode cX8_grow 57 = .ok (.aload_n 0, 1) := by decide +kernel
theorem dX8_grow_58 : decode cX8_grow 58 = .ok (.getfield 7, 3) := by decide +kernel
theorem dX8_grow_61 : decode cX8_grow 61 = .ok (.iload_n 1, 1) := by decide +kernel
theorem dX8_grow_62 : decode cX8_grow 62 = .ok (.iaload, 1) := by decide +kernel
theorem dX8_grow_63 : decode cX8_grow 63 = .ok (.iconst 3, 1) := by decide +kernel
theorem dX8_grow_64 : decode cX8_grow 64 = .ok (.if_icmp .ne 101, 3) := by decide +kernel
theorem dX8_grow_67 : decode cX8_grow 67 = .ok (.aload_n 0, 1) := by decide +kernel
theorem dX8_grow_68 : decode cX8_grow 68 = .ok (.getfield 28, 3) := by decide +kernel
theorem dX8_grow_71 : decode cX8_grow 71 = .ok (.iload 5, 2) := by decide +kernel
theorem dX8_grow_73 : decode cX8_grow 73 = .ok (.baload, 1) := by decide +kernel
theorem dX8_grow_74 : decode cX8_grow 74 = .ok (.ifCond .eq 17, 3) := by decide +kernel
theorem dX8_grow_77 : decode cX8_grow 77 = .ok (.aload_n 0, 1) := by decide +kernel
theorem dX8_grow_78 : decode cX8_grow 78 = .ok (.getfield 28, 3) := by decide +kernel
theorem dX8_grow_81 : decode cX8_grow 81 = .ok (.iload 6, 2) := by decide +kernel
theorem dX8_grow_83 : decode cX8_grow 83 = .ok (.baload, 1) := by decide +kernel
theorem dX8_grow_84 : decode cX8_grow 84 = .ok (.ifCond .eq 7, 3) := by decide +kernel
theorem dX8_grow_87 : decode cX8_grow 87 = .ok (.iconst 1, 1) := by decide +kernel
theorem dX8_grow_88 : decode cX8_grow 88 = .ok (.goto 4, 3) := by decide +kernel
theorem dX8_grow_91 : decode cX8_grow 91 = .ok (.iconst 0, 1) := by decide +kernel
theorem dX8_grow_92 : decode cX8_grow 92 = .ok (.istore_n 2, 1) := by decide +kernel
theorem dX8_grow_93 : decode cX8_grow 93 = .ok (.aload_n 0, 1) := by decide +kernel
theorem dX8_grow_94 : decode cX8_grow 94 = .ok (.getfield 32, 3) := by decide +kernel
theorem dX8_grow_97 : decode cX8_grow 97 = .ok (.iload 5, 2) := by decide +kernel
theorem dX8_grow_99 : decode cX8_grow 99 = .ok (.iaload, 1) := by decide +kernel
theorem dX8_grow_100 : decode cX8_grow 100 = .ok (.aload_n 0, 1) := by decide +kernel
theorem dX8_grow_101 : decode cX8_grow 101 = .ok (.getfield 28, 3) := by decide +kernel
theorem dX8_grow_104 : decode cX8_grow 104 = .ok (.iload 5, 2) := by decide +kernel
theorem dX8_grow_106 : decode cX8_grow 106 = .ok (.baload, 1) := by decide +kernel
theorem dX8_grow_107 : decode cX8_grow 107 = .ok (.ifCond .eq 13, 3) := by decide +kernel
theorem dX8_grow_110 : decode cX8_grow 110 = .ok (.aload_n 0, 1) := by decide +kernel
theorem dX8_grow_111 : decode cX8_grow 111 = .ok (.getfield 32, 3) := by decide +kernel
theorem dX8_grow_114 : decode cX8_grow 114 = .ok (.iload 6, 2) := by decide +kernel
theorem dX8_grow_116 : decode cX8_grow 116 = .ok (.iaload, 1) := by decide +kernel
theorem dX8_grow_117 : decode cX8_grow 117 = .ok (.goto 4, 3) := by decide +kernel
theorem dX8_grow_120 : decode cX8_grow 120 = .ok (.iconst 0, 1) := by decide +kernel
theorem dX8_grow_121 : decode cX8_grow 121 = .ok (.ior, 1) := by decide +kernel
theorem dX8_grow_122 : decode cX8_grow 122 = .ok (.istore_n 3, 1) := by decide +kernel
theorem dX8_grow_123 : decode cX8_grow 123 = .ok (.aload_n 0, 1) := by decide +kernel
theorem dX8_grow_124 : decode cX8_grow 124 = .ok (.getfield 35, 3) := by decide +kernel
theorem dX8_grow_127 : decode cX8_grow 127 = .ok (.iload 6, 2) := by decide +kernel
theorem dX8_grow_129 : decode cX8_grow 129 = .ok (.iaload, 1) := by decide +kernel
theorem dX8_grow_130 : decode cX8_grow 130 = .ok (.aload_n 0, 1) := by decide +kernel
theorem dX8_grow_131 : decode cX8_grow 131 = .ok (.getfield 28, 3) := by decide +kernel
theorem dX8_grow_134 : decode cX8_grow 134 = .ok (.iload 6, 2) := by decide +kernel
theorem dX8_grow_136 : decode cX8_grow 136 = .ok (.baload, 1) := by decide +kernel
theorem dX8_grow_137 : decode cX8_grow 137 = .ok (.ifCond .eq 21, 3) := by decide +kernel
theorem dX8_grow_140 : decode cX8_grow 140 = .ok (.aload_n 0, 1) := by decide +kernel
theorem dX8_grow_141 : decode cX8_grow 141 = .ok (.getfield 32, 3) := by decide +kernel
theorem dX8_grow_144 : decode cX8_grow 144 = .ok (.iload 6, 2) := by decide +kernel
theorem dX8_grow_146 : decode cX8_grow 146 = .ok (.iaload, 1) := by decide +kernel
theorem dX8_grow_147 : decode cX8_grow 147 = .ok (.aload_n 0, 1) := by decide +kernel
theorem dX8_grow_148 : decode cX8_grow 148 = .ok (.getfield 35, 3) := by decide +kernel
theorem dX8_grow_151 : decode cX8_grow 151 = .ok (.iload 5, 2) := by decide +kernel
theorem dX8_grow_153 : decode cX8_grow 153 = .ok (.iaload, 1) := by decide +kernel
theorem dX8_grow_154 : decode cX8_grow 154 = .ok (.ior, 1) := by decide +kernel
theorem dX8_grow_155 : decode cX8_grow 155 = .ok (.goto 4, 3) := by decide +kernel
theorem dX8_grow_158 : decode cX8_grow 158 = .ok (.iconst 0, 1) := by decide +kernel
theorem dX8_grow_159 : decode cX8_grow 159 = .ok (.ior, 1) := by decide +kernel
theorem dX8_grow_160 : decode cX8_grow 160 = .ok (.istore 4, 2) := by decide +kernel
theorem dX8_grow_162 : decode cX8_grow 162 = .ok (.goto 154, 3) := by decide +kernel
theorem dX8_grow_165 : decode cX8_grow 165 = .ok (.aload_n 0, 1) := by decide +kernel
theorem dX8_grow_166 : decode cX8_grow 166 = .ok (.getfield 7, 3) := by decide +kernel
theorem dX8_grow_169 : decode cX8_grow 169 = .ok (.iload_n 1, 1) := by decide +kernel
theorem dX8_grow_170 : decode cX8_grow 170 = .ok (.iaload, 1) := by decide +kernel
theorem dX8_grow_171 : decode cX8_grow 171 = .ok (.iconst 4, 1) := by decide +kernel
theorem dX8_grow_172 : decode cX8_grow 172 = .ok (.if_icmp .ne 65, 3) := by decide +kernel
theorem dX8_grow_175 : decode cX8_grow 175 = .ok (.aload_n 0, 1) := by decide +kernel
theorem dX8_grow_176 : decode cX8_grow 176 = .ok (.getfield 28, 3) := by decide +kernel
theorem dX8_grow_179 : decode cX8_grow 179 = .ok (.iload 5, 2) := by decide +kernel
theorem dX8_grow_181 : decode cX8_grow 181 = .ok (.baload, 1) := by decide +kernel
theorem dX8_grow_182 : decode cX8_grow 182 = .ok (.ifCond .ne 13, 3) := by decide +kernel
theorem dX8_grow_185 : decode cX8_grow 185 = .ok (.aload_n 0, 1) := by decide +kernel
theorem dX8_grow_186 : decode cX8_grow 186 = .ok (.getfield 28, 3) := by decide +kernel
theorem dX8_grow_189 : decode cX8_grow 189 = .ok (.iload 6, 2) := by decide +kernel
theorem dX8_grow_191 : decode cX8_grow 191 = .ok (.baload, 1) := by decide +kernel
theorem dX8_grow_192 : decode cX8_grow 192 = .ok (.ifCond .eq 7, 3) := by decide +kernel
theorem dX8_grow_195 : decode cX8_grow 195 = .ok (.iconst 1, 1) := by decide +kernel
theorem dX8_grow_196 : decode cX8_grow 196 = .ok (.goto 4, 3) := by decide +kernel
theorem dX8_grow_199 : decode cX8_grow 199 = .ok (.iconst 0, 1) := by decide +kernel
theorem dX8_grow_200 : decode cX8_grow 200 = .ok (.istore_n 2, 1) := by decide +kernel
theorem dX8_grow_201 : decode cX8_grow 201 = .ok (.aload_n 0, 1) := by decide +kernel
theorem dX8_grow_202 : decode cX8_grow 202 = .ok (.getfield 32, 3) := by decide +kernel
theorem dX8_grow_205 : decode cX8_grow 205 = .ok (.iload 5, 2) := by decide +kernel
theorem dX8_grow_207 : decode cX8_grow 207 = .ok (.iaload, 1) := by decide +kernel
theorem dX8_grow_208 : decode cX8_grow 208 = .ok (.aload_n 0, 1) := by decide +kernel
theorem dX8_grow_209 : decode cX8_grow 209 = .ok (.getfield 32, 3) := by decide +kernel
theorem dX8_grow_212 : decode cX8_grow 212 = .ok (.iload 6, 2) := by decide +kernel
theorem dX8_grow_214 : decode cX8_grow 214 = .ok (.iaload, 1) := by decide +kernel
theorem dX8_grow_215 : decode cX8_grow 215 = .ok (.ior, 1) := by decide +kernel
theorem dX8_grow_216 : decode cX8_grow 216 = .ok (.istore_n 3, 1) := by decide +kernel
theorem dX8_grow_217 : decode cX8_grow 217 = .ok (.aload_n 0, 1) := by decide +kernel
theorem dX8_grow_218 : decode cX8_grow 218 = .ok (.getfield 35, 3) := by decide +kernel
theorem dX8_grow_221 : decode cX8_grow 221 = .ok (.iload 5, 2) := by decide +kernel
theorem dX8_grow_223 : decode cX8_grow 223 = .ok (.iaload, 1) := by decide +kernel
theorem dX8_grow_224 : decode cX8_grow 224 = .ok (.aload_n 0, 1) := by decide +kernel
theorem dX8_grow_225 : decode cX8_grow 225 = .ok (.getfield 35, 3) := by decide +kernel
theorem dX8_grow_228 : decode cX8_grow 228 = .ok (.iload 6, 2) := by decide +kernel
theorem dX8_grow_230 : decode cX8_grow 230 = .ok (.iaload, 1) := by decide +kernel
theorem dX8_grow_231 : decode cX8_grow 231 = .ok (.ior, 1) := by decide +kernel
theorem dX8_grow_232 : decode cX8_grow 232 = .ok (.istore 4, 2) := by decide +kernel
theorem dX8_grow_234 : decode cX8_grow 234 = .ok (.goto 82, 3) := by decide +kernel
theorem dX8_grow_237 : decode cX8_grow 237 = .ok (.aload_n 0, 1) := by decide +kernel
theorem dX8_grow_238 : decode cX8_grow 238 = .ok (.getfield 7, 3) := by decide +kernel
theorem dX8_grow_241 : decode cX8_grow 241 = .ok (.iload_n 1, 1) := by decide +kernel
theorem dX8_grow_242 : decode cX8_grow 242 = .ok (.iaload, 1) := by decide +kernel
theorem dX8_grow_243 : decode cX8_grow 243 = .ok (.bipush 6, 2) := by decide +kernel
theorem dX8_grow_245 : decode cX8_grow 245 = .ok (.if_icmp .eq 22, 3) := by decide +kernel
theorem dX8_grow_248 : decode cX8_grow 248 = .ok (.aload_n 0, 1) := by decide +kernel
theorem dX8_grow_249 : decode cX8_grow 249 = .ok (.getfield 7, 3) := by decide +kernel
theorem dX8_grow_252 : decode cX8_grow 252 = .ok (.iload_n 1, 1) := by decide +kernel
theorem dX8_grow_253 : decode cX8_grow 253 = .ok (.iaload, 1) := by decide +kernel
theorem dX8_grow_254 : decode cX8_grow 254 = .ok (.iconst 5, 1) := by decide +kernel
theorem dX8_grow_255 : decode cX8_grow 255 = .ok (.if_icmp .ne 61, 3) := by decide +kernel
theorem dX8_grow_258 : decode cX8_grow 258 = .ok (.aload_n 0, 1) := by decide +kernel
theorem dX8_grow_259 : decode cX8_grow 259 = .ok (.getfield 41, 3) := by decide +kernel
theorem dX8_grow_262 : decode cX8_grow 262 = .ok (.iload_n 1, 1) := by decide +kernel
theorem dX8_grow_263 : decode cX8_grow 263 = .ok (.iaload, 1) := by decide +kernel
theorem dX8_grow_264 : decode cX8_grow 264 = .ok (.ifCond .lt 52, 3) := by decide +kernel
theorem dX8_grow_267 : decode cX8_grow 267 = .ok (.aload_n 0, 1) := by decide +kernel
theorem dX8_grow_268 : decode cX8_grow 268 = .ok (.getfield 7, 3) := by decide +kernel
theorem dX8_grow_271 : decode cX8_grow 271 = .ok (.iload_n 1, 1) := by decide +kernel
theorem dX8_grow_272 : decode cX8_grow 272 = .ok (.iaload, 1) := by decide +kernel
theorem dX8_grow_273 : decode cX8_grow 273 = .ok (.bipush 6, 2) := by decide +kernel
theorem dX8_grow_275 : decode cX8_grow 275 = .ok (.if_icmp .ne 8, 3) := by decide +kernel
theorem dX8_grow_278 : decode cX8_grow 278 = .ok (.iload 5, 2) := by decide +kernel
theorem dX8_grow_280 : decode cX8_grow 280 = .ok (.goto 9, 3) := by decide +kernel
theorem dX8_grow_283 : decode cX8_grow 283 = .ok (.aload_n 0, 1) := by decide +kernel
theorem dX8_grow_284 : decode cX8_grow 284 = .ok (.getfield 41, 3) := by decide +kernel
theorem dX8_grow_287 : decode cX8_grow 287 = .ok (.iload_n 1, 1) := by decide +kernel
theorem dX8_grow_288 : decode cX8_grow 288 = .ok (.iaload, 1) := by decide +kernel
theorem dX8_grow_289 : decode cX8_grow 289 = .ok (.istore 7, 2) := by decide +kernel
theorem dX8_grow_291 : decode cX8_grow 291 = .ok (.aload_n 0, 1) := by decide +kernel
theorem dX8_grow_292 : decode cX8_grow 292 = .ok (.getfield 28, 3) := by decide +kernel
theorem dX8_grow_295 : decode cX8_grow 295 = .ok (.iload 7, 2) := by decide +kernel
theorem dX8_grow_297 : decode cX8_grow 297 = .ok (.baload, 1) := by decide +kernel
theorem dX8_grow_298 : decode cX8_grow 298 = .ok (.istore_n 2, 1) := by decide +kernel
theorem dX8_grow_299 : decode cX8_grow 299 = .ok (.aload_n 0, 1) := by decide +kernel
theorem dX8_grow_300 : decode cX8_grow 300 = .ok (.getfield 32, 3) := by decide +kernel
theorem dX8_grow_303 : decode cX8_grow 303 = .ok (.iload 7, 2) := by decide +kernel
theorem dX8_grow_305 : decode cX8_grow 305 = .ok (.iaload, 1) := by decide +kernel
theorem dX8_grow_306 : decode cX8_grow 306 = .ok (.istore_n 3, 1) := by decide +kernel
theorem dX8_grow_307 : decode cX8_grow 307 = .ok (.aload_n 0, 1) := by decide +kernel
theorem dX8_grow_308 : decode cX8_grow 308 = .ok (.getfield 35, 3) := by decide +kernel
theorem dX8_grow_311 : decode cX8_grow 311 = .ok (.iload 7, 2) := by decide +kernel
theorem dX8_grow_313 : decode cX8_grow 313 = .ok (.iaload, 1) := by decide +kernel
theorem dX8_grow_314 : decode cX8_grow 314 = .ok (.istore 4, 2) := by decide +kernel
theorem dX8_grow_316 : decode cX8_grow 316 = .ok (.iload_n 2, 1) := by decide +kernel
theorem dX8_grow_317 : decode cX8_grow 317 = .ok (.aload_n 0, 1) := by decide +kernel
theorem dX8_grow_318 : decode cX8_grow 318 = .ok (.getfield 28, 3) := by decide +kernel
theorem dX8_grow_321 : decode cX8_grow 321 = .ok (.iload_n 1, 1) := by decide +kernel
theorem dX8_grow_322 : decode cX8_grow 322 = .ok (.baload, 1) := by decide +kernel
theorem dX8_grow_323 : decode cX8_grow 323 = .ok (.if_icmp .ne 24, 3) := by decide +kernel
theorem dX8_grow_326 : decode cX8_grow 326 = .ok (.iload_n 3, 1) := by decide +kernel
theorem dX8_grow_327 : decode cX8_grow 327 = .ok (.aload_n 0, 1) := by decide +kernel
theorem dX8_grow_328 : decode cX8_grow 328 = .ok (.getfield 32, 3) := by decide +kernel
theorem dX8_grow_331 : decode cX8_grow 331 = .ok (.iload_n 1, 1) := by decide +kernel
theorem dX8_grow_332 : decode cX8_grow 332 = .ok (.iaload, 1) := by decide +kernel
theorem dX8_grow_333 : decode cX8_grow 333 = .ok (.if_icmp .ne 14, 3) := by decide +kernel
theorem dX8_grow_336 : decode cX8_grow 336 = .ok (.iload 4, 2) := by decide +kernel
theorem dX8_grow_338 : decode cX8_grow 338 = .ok (.aload_n 0, 1) := by decide +kernel
theorem dX8_grow_339 : decode cX8_grow 339 = .ok (.getfield 35, 3) := by decide +kernel
theorem dX8_grow_342 : decode cX8_grow 342 = .ok (.iload_n 1, 1) := by decide +kernel
theorem dX8_grow_343 : decode cX8_grow 343 = .ok (.iaload, 1) := by decide +kernel
theorem dX8_grow_344 : decode cX8_grow 344 = .ok (.if_icmp .eq 7, 3) := by decide +kernel
theorem dX8_grow_347 : decode cX8_grow 347 = .ok (.iconst 1, 1) := by decide +kernel
theorem dX8_grow_348 : decode cX8_grow 348 = .ok (.goto 4, 3) := by decide +kernel
theorem dX8_grow_351 : decode cX8_grow 351 = .ok (.iconst 0, 1) := by decide +kernel
theorem dX8_grow_352 : decode cX8_grow 352 = .ok (.istore 7, 2) := by decide +kernel
theorem dX8_grow_354 : decode cX8_grow 354 = .ok (.aload_n 0, 1) := by decide +kernel
theorem dX8_grow_355 : decode cX8_grow 355 = .ok (.getfield 28, 3) := by decide +kernel
theorem dX8_grow_358 : decode cX8_grow 358 = .ok (.iload_n 1, 1) := by decide +kernel
theorem dX8_grow_359 : decode cX8_grow 359 = .ok (.iload_n 2, 1) := by decide +kernel
theorem dX8_grow_360 : decode cX8_grow 360 = .ok (.bastore, 1) := by decide +kernel
theorem dX8_grow_361 : decode cX8_grow 361 = .ok (.aload_n 0, 1) := by decide +kernel
theorem dX8_grow_362 : decode cX8_grow 362 = .ok (.getfield 32, 3) := by decide +kernel
theorem dX8_grow_365 : decode cX8_grow 365 = .ok (.iload_n 1, 1) := by decide +kernel
theorem dX8_grow_366 : decode cX8_grow 366 = .ok (.iload_n 3, 1) := by decide +kernel
theorem dX8_grow_367 : decode cX8_grow 367 = .ok (.iastore, 1) := by decide +kernel
theorem dX8_grow_368 : decode cX8_grow 368 = .ok (.aload_n 0, 1) := by decide +kernel
theorem dX8_grow_369 : decode cX8_grow 369 = .ok (.getfield 35, 3) := by decide +kernel
theorem dX8_grow_372 : decode cX8_grow 372 = .ok (.iload_n 1, 1) := by decide +kernel
theorem dX8_grow_373 : decode cX8_grow 373 = .ok (.iload 4, 2) := by decide +kernel
theorem dX8_grow_375 : decode cX8_grow 375 = .ok (.iastore, 1) := by decide +kernel
theorem dX8_grow_376 : decode cX8_grow 376 = .ok (.iload 7, 2) := by decide +kernel
theorem dX8_grow_378 : decode cX8_grow 378 = .ok (.ireturn, 1) := by decide +kernel
theorem dX8_typeAll_0 : decode cX8_typeAll 0 = .ok (.aload_n 0, 1) := by decide +kernel
theorem dX8_typeAll_1 : decode cX8_typeAll 1 = .ok (.iload_n 1, 1) := by decide +kernel
theorem dX8_typeAll_2 : decode cX8_typeAll 2 = .ok (.invokevirtual 90, 3) := by decide +kernel
theorem dX8_typeAll_5 : decode cX8_typeAll 5 = .ok (.iconst 1, 1) := by decide +kernel
theorem dX8_typeAll_6 : decode cX8_typeAll 6 = .ok (.istore_n 2, 1) := by decide +kernel
theorem dX8_typeAll_7 : decode cX8_typeAll 7 = .ok (.iload_n 2, 1) := by decide +kernel
theorem dX8_typeAll_8 : decode cX8_typeAll 8 = .ok (.ifCond .eq 51, 3) := by decide +kernel
theorem dX8_typeAll_11 : decode cX8_typeAll 11 = .ok (.iconst 0, 1) := by decide +kernel
theorem dX8_typeAll_12 : decode cX8_typeAll 12 = .ok (.istore_n 2, 1) := by decide +kernel
theorem dX8_typeAll_13 : decode cX8_typeAll 13 = .ok (.iconst 0, 1) := by decide +kernel
theorem dX8_typeAll_14 : decode cX8_typeAll 14 = .ok (.istore_n 3, 1) := by decide +kernel
theorem dX8_typeAll_15 : decode cX8_typeAll 15 = .ok (.iload_n 3, 1) := by decide +kernel
theorem dX8_typeAll_16 : decode cX8_typeAll 16 = .ok (.aload_n 0, 1) := by decide +kernel
theorem dX8_typeAll_17 : decode cX8_typeAll 17 = .ok (.getfield 76, 3) := by decide +kernel
theorem dX8_typeAll_20 : decode cX8_typeAll 20 = .ok (.if_icmp .ge 36, 3) := by decide +kernel
theorem dX8_typeAll_23 : decode cX8_typeAll 23 = .ok (.aload_n 0, 1) := by decide +kernel
theorem dX8_typeAll_24 : decode cX8_typeAll 24 = .ok (.getfield 38, 3) := by decide +kernel
theorem dX8_typeAll_27 : decode cX8_typeAll 27 = .ok (.iload_n 3, 1) := by decide +kernel
theorem dX8_typeAll_28 : decode cX8_typeAll 28 = .ok (.baload, 1) := by decide +kernel
theorem dX8_typeAll_29 : decode cX8_typeAll 29 = .ok (.ifCond .eq 11, 3) := by decide +kernel
theorem dX8_typeAll_32 : decode cX8_typeAll 32 = .ok (.aload_n 0, 1) := by decide +kernel
theorem dX8_typeAll_33 : decode cX8_typeAll 33 = .ok (.iload_n 3, 1) := by decide +kernel
theorem dX8_typeAll_34 : decode cX8_typeAll 34 = .ok (.invokevirtual 94, 3) := by decide +kernel
theorem dX8_typeAll_37 : decode cX8_typeAll 37 = .ok (.ifCond .ne 7, 3) := by decide +kernel
theorem dX8_typeAll_40 : decode cX8_typeAll 40 = .ok (.iload_n 2, 1) := by decide +kernel
theorem dX8_typeAll_41 : decode cX8_typeAll 41 = .ok (.ifCond .eq 7, 3) := by decide +kernel
theorem dX8_typeAll_44 : decode cX8_typeAll 44 = .ok (.iconst 1, 1) := by decide +kernel
theorem dX8_typeAll_45 : decode cX8_typeAll 45 = .ok (.goto 4, 3) := by decide +kernel
theorem dX8_typeAll_48 : decode cX8_typeAll 48 = .ok (.iconst 0, 1) := by decide +kernel
theorem dX8_typeAll_49 : decode cX8_typeAll 49 = .ok (.istore_n 2, 1) := by decide +kernel
theorem dX8_typeAll_50 : decode cX8_typeAll 50 = .ok (.iinc 3 1, 3) := by decide +kernel
theorem dX8_typeAll_53 : decode cX8_typeAll 53 = .ok (.goto (-38), 3) := by decide +kernel
theorem dX8_typeAll_56 : decode cX8_typeAll 56 = .ok (.goto (-49), 3) := by decide +kernel
theorem dX8_typeAll_59 : decode cX8_typeAll 59 = .ok (.return_, 1) := by decide +kernel
theorem dX8_isGuarded_0 : decode cX8_isGuarded 0 = .ok (.iconst 0, 1) := by decide +kernel
theorem dX8_isGuarded_1 : decode cX8_isGuarded 1 = .ok (.istore_n 2, 1) := by decide +kernel
theorem dX8_isGuarded_2 : decode cX8_isGuarded 2 = .ok (.iload_n 1, 1) := by decide +kernel
theorem dX8_isGuarded_3 : decode cX8_isGuarded 3 = .ok (.istore_n 3, 1) := by decide +kernel
theorem dX8_isGuarded_4 : decode cX8_isGuarded 4 = .ok (.iload_n 3, 1) := by decide +kernel
theorem dX8_isGuarded_5 : decode cX8_isGuarded 5 = .ok (.aload_n 0, 1) := by decide +kernel
theorem dX8_isGuarded_6 : decode cX8_isGuarded 6 = .ok (.getfield 41, 3) := by decide +kernel
theorem dX8_isGuarded_9 : decode cX8_isGuarded 9 = .ok (.iload_n 1, 1) := by decide +kernel
theorem dX8_isGuarded_10 : decode cX8_isGuarded 10 = .ok (.iaload, 1) := by decide +kernel
theorem dX8_isGuarded_11 : decode cX8_isGuarded 11 = .ok (.if_icmp .eq 49, 3) := by decide +kernel
theorem dX8_isGuarded_14 : decode cX8_isGuarded 14 = .ok (.aload_n 0, 1) := by decide +kernel
theorem dX8_isGuarded_15 : decode cX8_isGuarded 15 = .ok (.getfield 22, 3) := by decide +kernel
theorem dX8_isGuarded_18 : decode cX8_isGuarded 18 = .ok (.iload_n 3, 1) := by decide +kernel
theorem dX8_isGuarded_19 : decode cX8_isGuarded 19 = .ok (.iaload, 1) := by decide +kernel
theorem dX8_isGuarded_20 : decode cX8_isGuarded 20 = .ok (.istore 4, 2) := by decide +kernel
theorem dX8_isGuarded_22 : decode cX8_isGuarded 22 = .ok (.iload_n 2, 1) := by decide +kernel
theorem dX8_isGuarded_23 : decode cX8_isGuarded 23 = .ok (.ifCond .ne 25, 3) := by decide +kernel
theorem dX8_isGuarded_26 : decode cX8_isGuarded 26 = .ok (.aload_n 0, 1) := by decide +kernel
theorem dX8_isGuarded_27 : decode cX8_isGuarded 27 = .ok (.getfield 7, 3) := by decide +kernel
theorem dX8_isGuarded_30 : decode cX8_isGuarded 30 = .ok (.iload 4, 2) := by decide +kernel
theorem dX8_isGuarded_32 : decode cX8_isGuarded 32 = .ok (.iaload, 1) := by decide +kernel
theorem dX8_isGuarded_33 : decode cX8_isGuarded 33 = .ok (.iconst 3, 1) := by decide +kernel
theorem dX8_isGuarded_34 : decode cX8_isGuarded 34 = .ok (.if_icmp .ne 18, 3) := by decide +kernel
theorem dX8_isGuarded_37 : decode cX8_isGuarded 37 = .ok (.aload_n 0, 1) := by decide +kernel
theorem dX8_isGuarded_38 : decode cX8_isGuarded 38 = .ok (.getfield 19, 3) := by decide +kernel
theorem dX8_isGuarded_41 : decode cX8_isGuarded 41 = .ok (.iload 4, 2) := by decide +kernel
theorem dX8_isGuarded_43 : decode cX8_isGuarded 43 = .ok (.iaload, 1) := by decide +kernel
theorem dX8_isGuarded_44 : decode cX8_isGuarded 44 = .ok (.iload_n 3, 1) := by decide +kernel
theorem dX8_isGuarded_45 : decode cX8_isGuarded 45 = .ok (.if_icmp .ne 7, 3) := by decide +kernel
theorem dX8_isGuarded_48 : decode cX8_isGuarded 48 = .ok (.iconst 1, 1) := by decide +kernel
theorem dX8_isGuarded_49 : decode cX8_isGuarded 49 = .ok (.goto 4, 3) := by decide +kernel
theorem dX8_isGuarded_52 : decode cX8_isGuarded 52 = .ok (.iconst 0, 1) := by decide +kernel
theorem dX8_isGuarded_53 : decode cX8_isGuarded 53 = .ok (.istore_n 2, 1) := by decide +kernel
theorem dX8_isGuarded_54 : decode cX8_isGuarded 54 = .ok (.iload 4, 2) := by decide +kernel
theorem dX8_isGuarded_56 : decode cX8_isGuarded 56 = .ok (.istore_n 3, 1) := by decide +kernel
theorem dX8_isGuarded_57 : decode cX8_isGuarded 57 = .ok (.goto (-53), 3) := by decide +kernel
theorem dX8_isGuarded_60 : decode cX8_isGuarded 60 = .ok (.iload_n 2, 1) := by decide +kernel
theorem dX8_isGuarded_61 : decode cX8_isGuarded 61 = .ok (.ireturn, 1) := by decide +kernel
theorem dX8_faultAt_0 : decode cX8_faultAt 0 = .ok (.aload_n 0, 1) := by decide +kernel
theorem dX8_faultAt_1 : decode cX8_faultAt 1 = .ok (.getfield 16, 3) := by decide +kernel
theorem dX8_faultAt_4 : decode cX8_faultAt 4 = .ok (.iload_n 1, 1) := by decide +kernel
theorem dX8_faultAt_5 : decode cX8_faultAt 5 = .ok (.iaload, 1) := by decide +kernel
theorem dX8_faultAt_6 : decode cX8_faultAt 6 = .ok (.istore_n 2, 1) := by decide +kernel
theorem dX8_faultAt_7 : decode cX8_faultAt 7 = .ok (.aload_n 0, 1) := by decide +kernel
theorem dX8_faultAt_8 : decode cX8_faultAt 8 = .ok (.getfield 19, 3) := by decide +kernel
theorem dX8_faultAt_11 : decode cX8_faultAt 11 = .ok (.iload_n 1, 1) := by decide +kernel
theorem dX8_faultAt_12 : decode cX8_faultAt 12 = .ok (.iaload, 1) := by decide +kernel
theorem dX8_faultAt_13 : decode cX8_faultAt 13 = .ok (.istore_n 3, 1) := by decide +kernel
theorem dX8_faultAt_14 : decode cX8_faultAt 14 = .ok (.aload_n 0, 1) := by decide +kernel
theorem dX8_faultAt_15 : decode cX8_faultAt 15 = .ok (.getfield 7, 3) := by decide +kernel
theorem dX8_faultAt_18 : decode cX8_faultAt 18 = .ok (.iload_n 1, 1) := by decide +kernel
theorem dX8_faultAt_19 : decode cX8_faultAt 19 = .ok (.iaload, 1) := by decide +kernel
theorem dX8_faultAt_20 : decode cX8_faultAt 20 = .ok (.tableswitch 126 3 5 #[55, 86, 28], 28) := by decide +kernel
theorem dX8_faultAt_48 : decode cX8_faultAt 48 = .ok (.aload_n 0, 1) := by decide +kernel
theorem dX8_faultAt_49 : decode cX8_faultAt 49 = .ok (.getfield 41, 3) := by decide +kernel
theorem dX8_faultAt_52 : decode cX8_faultAt 52 = .ok (.iload_n 1, 1) := by decide +kernel
theorem dX8_faultAt_53 : decode cX8_faultAt 53 = .ok (.iaload, 1) := by decide +kernel
theorem dX8_faultAt_54 : decode cX8_faultAt 54 = .ok (.ifCond .ge 7, 3) := by decide +kernel
theorem dX8_faultAt_57 : decode cX8_faultAt 57 = .ok (.iconst 1, 1) := by decide +kernel
theorem dX8_faultAt_58 : decode cX8_faultAt 58 = .ok (.goto 16, 3) := by decide +kernel
theorem dX8_faultAt_61 : decode cX8_faultAt 61 = .ok (.aload_n 0, 1) := by decide +kernel
theorem dX8_faultAt_62 : decode cX8_faultAt 62 = .ok (.iload_n 1, 1) := by decide +kernel
theorem dX8_faultAt_63 : decode cX8_faultAt 63 = .ok (.invokevirtual 97, 3) := by decide +kernel
theorem dX8_faultAt_66 : decode cX8_faultAt 66 = .ok (.ifCond .eq 7, 3) := by decide +kernel
theorem dX8_faultAt_69 : decode cX8_faultAt 69 = .ok (.iconst 0, 1) := by decide +kernel
theorem dX8_faultAt_70 : decode cX8_faultAt 70 = .ok (.goto 4, 3) := by decide +kernel
theorem dX8_faultAt_73 : decode cX8_faultAt 73 = .ok (.iconst 2, 1) := by decide +kernel
theorem dX8_faultAt_74 : decode cX8_faultAt 74 = .ok (.ireturn, 1) := by decide +kernel
theorem dX8_faultAt_75 : decode cX8_faultAt 75 = .ok (.aload_n 0, 1) := by decide +kernel
theorem dX8_faultAt_76 : decode cX8_faultAt 76 = .ok (.getfield 28, 3) := by decide +kernel
theorem dX8_faultAt_79 : decode cX8_faultAt 79 = .ok (.iload_n 2, 1) := by decide +kernel
theorem dX8_faultAt_80 : decode cX8_faultAt 80 = .ok (.baload, 1) := by decide +kernel
theorem dX8_faultAt_81 : decode cX8_faultAt 81 = .ok (.ifCond .ne 19, 3) := by decide +kernel
theorem dX8_faultAt_84 : decode cX8_faultAt 84 = .ok (.aload_n 0, 1) := by decide +kernel
theorem dX8_faultAt_85 : decode cX8_faultAt 85 = .ok (.getfield 35, 3) := by decide +kernel
theorem dX8_faultAt_88 : decode cX8_faultAt 88 = .ok (.iload_n 2, 1) := by decide +kernel
theorem dX8_faultAt_89 : decode cX8_faultAt 89 = .ok (.iaload, 1) := by decide +kernel
theorem dX8_faultAt_90 : decode cX8_faultAt 90 = .ok (.aload_n 0, 1) := by decide +kernel
theorem dX8_faultAt_91 : decode cX8_faultAt 91 = .ok (.getfield 32, 3) := by decide +kernel
theorem dX8_faultAt_94 : decode cX8_faultAt 94 = .ok (.iload_n 3, 1) := by decide +kernel
theorem dX8_faultAt_95 : decode cX8_faultAt 95 = .ok (.iaload, 1) := by decide +kernel
theorem dX8_faultAt_96 : decode cX8_faultAt 96 = .ok (.iand, 1) := by decide +kernel
theorem dX8_faultAt_97 : decode cX8_faultAt 97 = .ok (.ifCond .eq 7, 3) := by decide +kernel
theorem dX8_faultAt_100 : decode cX8_faultAt 100 = .ok (.iconst 3, 1) := by decide +kernel
theorem dX8_faultAt_101 : decode cX8_faultAt 101 = .ok (.goto 4, 3) := by decide +kernel
theorem dX8_faultAt_104 : decode cX8_faultAt 104 = .ok (.iconst 0, 1) := by decide +kernel
theorem dX8_faultAt_105 : decode cX8_faultAt 105 = .ok (.ireturn, 1) := by decide +kernel
theorem dX8_faultAt_106 : decode cX8_faultAt 106 = .ok (.aload_n 0, 1) := by decide +kernel
theorem dX8_faultAt_107 : decode cX8_faultAt 107 = .ok (.getfield 28, 3) := by decide +kernel
theorem dX8_faultAt_110 : decode cX8_faultAt 110 = .ok (.iload_n 2, 1) := by decide +kernel
theorem dX8_faultAt_111 : decode cX8_faultAt 111 = .ok (.baload, 1) := by decide +kernel
theorem dX8_faultAt_112 : decode cX8_faultAt 112 = .ok (.ifCond .eq 12, 3) := by decide +kernel
theorem dX8_faultAt_115 : decode cX8_faultAt 115 = .ok (.aload_n 0, 1) := by decide +kernel
theorem dX8_faultAt_116 : decode cX8_faultAt 116 = .ok (.getfield 28, 3) := by decide +kernel
theorem dX8_faultAt_119 : decode cX8_faultAt 119 = .ok (.iload_n 3, 1) := by decide +kernel
theorem dX8_faultAt_120 : decode cX8_faultAt 120 = .ok (.baload, 1) := by decide +kernel
theorem dX8_faultAt_121 : decode cX8_faultAt 121 = .ok (.ifCond .ne 19, 3) := by decide +kernel
theorem dX8_faultAt_124 : decode cX8_faultAt 124 = .ok (.aload_n 0, 1) := by decide +kernel
theorem dX8_faultAt_125 : decode cX8_faultAt 125 = .ok (.getfield 32, 3) := by decide +kernel
theorem dX8_faultAt_128 : decode cX8_faultAt 128 = .ok (.iload_n 2, 1) := by decide +kernel
theorem dX8_faultAt_129 : decode cX8_faultAt 129 = .ok (.iaload, 1) := by decide +kernel
theorem dX8_faultAt_130 : decode cX8_faultAt 130 = .ok (.aload_n 0, 1) := by decide +kernel
theorem dX8_faultAt_131 : decode cX8_faultAt 131 = .ok (.getfield 32, 3) := by decide +kernel
theorem dX8_faultAt_134 : decode cX8_faultAt 134 = .ok (.iload_n 3, 1) := by decide +kernel
theorem dX8_faultAt_135 : decode cX8_faultAt 135 = .ok (.iaload, 1) := by decide +kernel
theorem dX8_faultAt_136 : decode cX8_faultAt 136 = .ok (.iand, 1) := by decide +kernel
theorem dX8_faultAt_137 : decode cX8_faultAt 137 = .ok (.ifCond .eq 7, 3) := by decide +kernel
theorem dX8_faultAt_140 : decode cX8_faultAt 140 = .ok (.iconst 4, 1) := by decide +kernel
theorem dX8_faultAt_141 : decode cX8_faultAt 141 = .ok (.goto 4, 3) := by decide +kernel
theorem dX8_faultAt_144 : decode cX8_faultAt 144 = .ok (.iconst 0, 1) := by decide +kernel
theorem dX8_faultAt_145 : decode cX8_faultAt 145 = .ok (.ireturn, 1) := by decide +kernel
theorem dX8_faultAt_146 : decode cX8_faultAt 146 = .ok (.iconst 0, 1) := by decide +kernel
theorem dX8_faultAt_147 : decode cX8_faultAt 147 = .ok (.ireturn, 1) := by decide +kernel
theorem dX8_leftmost_0 : decode cX8_leftmost 0 = .ok (.iload_n 1, 1) := by decide +kernel
theorem dX8_leftmost_1 : decode cX8_leftmost 1 = .ok (.istore_n 2, 1) := by decide +kernel
theorem dX8_leftmost_2 : decode cX8_leftmost 2 = .ok (.aload_n 0, 1) := by decide +kernel
theorem dX8_leftmost_3 : decode cX8_leftmost 3 = .ok (.getfield 16, 3) := by decide +kernel
theorem dX8_leftmost_6 : decode cX8_leftmost 6 = .ok (.iload_n 2, 1) := by decide +kernel
theorem dX8_leftmost_7 : decode cX8_leftmost 7 = .ok (.iaload, 1) := by decide +kernel
theorem dX8_leftmost_8 : decode cX8_leftmost 8 = .ok (.ifCond .lt 13, 3) := by decide +kernel
theorem dX8_leftmost_11 : decode cX8_leftmost 11 = .ok (.aload_n 0, 1) := by decide +kernel
theorem dX8_leftmost_12 : decode cX8_leftmost 12 = .ok (.getfield 16, 3) := by decide +kernel
theorem dX8_leftmost_15 : decode cX8_leftmost 15 = .ok (.iload_n 2, 1) := by decide +kernel
theorem dX8_leftmost_16 : decode cX8_leftmost 16 = .ok (.iaload, 1) := by decide +kernel
theorem dX8_leftmost_17 : decode cX8_leftmost 17 = .ok (.istore_n 2, 1) := by decide +kernel
theorem dX8_leftmost_18 : decode cX8_leftmost 18 = .ok (.goto (-16), 3) := by decide +kernel
theorem dX8_leftmost_21 : decode cX8_leftmost 21 = .ok (.iload_n 2, 1) := by decide +kernel
theorem dX8_leftmost_22 : decode cX8_leftmost 22 = .ok (.ireturn, 1) := by decide +kernel
theorem dX8_faultOf_0 : decode cX8_faultOf 0 = .ok (.aload_n 0, 1) := by decide +kernel
theorem dX8_faultOf_1 : decode cX8_faultOf 1 = .ok (.iload_n 1, 1) := by decide +kernel
theorem dX8_faultOf_2 : decode cX8_faultOf 2 = .ok (.invokevirtual 100, 3) := by decide +kernel
theorem dX8_faultOf_5 : decode cX8_faultOf 5 = .ok (.aload_n 0, 1) := by decide +kernel
theorem dX8_faultOf_6 : decode cX8_faultOf 6 = .ok (.iload_n 1, 1) := by decide +kernel
theorem dX8_faultOf_7 : decode cX8_faultOf 7 = .ok (.invokevirtual 103, 3) := by decide +kernel
theorem dX8_faultOf_10 : decode cX8_faultOf 10 = .ok (.istore_n 2, 1) := by decide +kernel
theorem dX8_faultOf_11 : decode cX8_faultOf 11 = .ok (.aload_n 0, 1) := by decide +kernel
theorem dX8_faultOf_12 : decode cX8_faultOf 12 = .ok (.iload_n 2, 1) := by decide +kernel
theorem dX8_faultOf_13 : decode cX8_faultOf 13 = .ok (.invokevirtual 107, 3) := by decide +kernel
theorem dX8_faultOf_16 : decode cX8_faultOf 16 = .ok (.ifCond .le 14, 3) := by decide +kernel
theorem dX8_faultOf_19 : decode cX8_faultOf 19 = .ok (.bipush 8, 2) := by decide +kernel
theorem dX8_faultOf_21 : decode cX8_faultOf 21 = .ok (.iload_n 2, 1) := by decide +kernel
theorem dX8_faultOf_22 : decode cX8_faultOf 22 = .ok (.imul, 1) := by decide +kernel
theorem dX8_faultOf_23 : decode cX8_faultOf 23 = .ok (.aload_n 0, 1) := by decide +kernel
theorem dX8_faultOf_24 : decode cX8_faultOf 24 = .ok (.iload_n 2, 1) := by decide +kernel
theorem dX8_faultOf_25 : decode cX8_faultOf 25 = .ok (.invokevirtual 107, 3) := by decide +kernel
theorem dX8_faultOf_28 : decode cX8_faultOf 28 = .ok (.iadd, 1) := by decide +kernel
theorem dX8_faultOf_29 : decode cX8_faultOf 29 = .ok (.ireturn, 1) := by decide +kernel
theorem dX8_faultOf_30 : decode cX8_faultOf 30 = .ok (.iload_n 2, 1) := by decide +kernel
theorem dX8_faultOf_31 : decode cX8_faultOf 31 = .ok (.iload_n 1, 1) := by decide +kernel
theorem dX8_faultOf_32 : decode cX8_faultOf 32 = .ok (.if_icmp .ne 5, 3) := by decide +kernel
theorem dX8_faultOf_35 : decode cX8_faultOf 35 = .ok (.iconst 0, 1) := by decide +kernel
theorem dX8_faultOf_36 : decode cX8_faultOf 36 = .ok (.ireturn, 1) := by decide +kernel
theorem dX8_faultOf_37 : decode cX8_faultOf 37 = .ok (.aload_n 0, 1) := by decide +kernel
theorem dX8_faultOf_38 : decode cX8_faultOf 38 = .ok (.getfield 22, 3) := by decide +kernel
theorem dX8_faultOf_41 : decode cX8_faultOf 41 = .ok (.iload_n 2, 1) := by decide +kernel
theorem dX8_faultOf_42 : decode cX8_faultOf 42 = .ok (.iaload, 1) := by decide +kernel
theorem dX8_faultOf_43 : decode cX8_faultOf 43 = .ok (.istore_n 3, 1) := by decide +kernel
theorem dX8_faultOf_44 : decode cX8_faultOf 44 = .ok (.aload_n 0, 1) := by decide +kernel
theorem dX8_faultOf_45 : decode cX8_faultOf 45 = .ok (.getfield 19, 3) := by decide +kernel
theorem dX8_faultOf_48 : decode cX8_faultOf 48 = .ok (.iload_n 3, 1) := by decide +kernel
theorem dX8_faultOf_49 : decode cX8_faultOf 49 = .ok (.iaload, 1) := by decide +kernel
theorem dX8_faultOf_50 : decode cX8_faultOf 50 = .ok (.ifCond .lt 26, 3) := by decide +kernel
theorem dX8_faultOf_53 : decode cX8_faultOf 53 = .ok (.aload_n 0, 1) := by decide +kernel
theorem dX8_faultOf_54 : decode cX8_faultOf 54 = .ok (.getfield 19, 3) := by decide +kernel
theorem dX8_faultOf_57 : decode cX8_faultOf 57 = .ok (.iload_n 3, 1) := by decide +kernel
theorem dX8_faultOf_58 : decode cX8_faultOf 58 = .ok (.iaload, 1) := by decide +kernel
theorem dX8_faultOf_59 : decode cX8_faultOf 59 = .ok (.iload_n 2, 1) := by decide +kernel
theorem dX8_faultOf_60 : decode cX8_faultOf 60 = .ok (.if_icmp .eq 16, 3) := by decide +kernel
theorem dX8_faultOf_63 : decode cX8_faultOf 63 = .ok (.aload_n 0, 1) := by decide +kernel
theorem dX8_faultOf_64 : decode cX8_faultOf 64 = .ok (.aload_n 0, 1) := by decide +kernel
theorem dX8_faultOf_65 : decode cX8_faultOf 65 = .ok (.getfield 19, 3) := by decide +kernel
theorem dX8_faultOf_68 : decode cX8_faultOf 68 = .ok (.iload_n 3, 1) := by decide +kernel
theorem dX8_faultOf_69 : decode cX8_faultOf 69 = .ok (.iaload, 1) := by decide +kernel
theorem dX8_faultOf_70 : decode cX8_faultOf 70 = .ok (.invokevirtual 103, 3) := by decide +kernel
theorem dX8_faultOf_73 : decode cX8_faultOf 73 = .ok (.goto 4, 3) := by decide +kernel
theorem dX8_faultOf_76 : decode cX8_faultOf 76 = .ok (.iload_n 3, 1) := by decide +kernel
theorem dX8_faultOf_77 : decode cX8_faultOf 77 = .ok (.istore_n 2, 1) := by decide +kernel
theorem dX8_faultOf_78 : decode cX8_faultOf 78 = .ok (.goto (-67), 3) := by decide +kernel
theorem dX8_fault_0 : decode cX8_fault 0 = .ok (.aload_n 0, 1) := by decide +kernel
theorem dX8_fault_1 : decode cX8_fault 1 = .ok (.aload_n 0, 1) := by decide +kernel
theorem dX8_fault_2 : decode cX8_fault 2 = .ok (.iload_n 1, 1) := by decide +kernel
theorem dX8_fault_3 : decode cX8_fault 3 = .ok (.invokevirtual 83, 3) := by decide +kernel
theorem dX8_fault_6 : decode cX8_fault 6 = .ok (.ifCond .eq 7, 3) := by decide +kernel
theorem dX8_fault_9 : decode cX8_fault 9 = .ok (.iconst 0, 1) := by decide +kernel
theorem dX8_fault_10 : decode cX8_fault 10 = .ok (.goto 4, 3) := by decide +kernel
theorem dX8_fault_13 : decode cX8_fault 13 = .ok (.iconst 1, 1) := by decide +kernel
theorem dX8_fault_14 : decode cX8_fault 14 = .ok (.putfield 73, 3) := by decide +kernel
theorem dX8_fault_17 : decode cX8_fault 17 = .ok (.aload_n 0, 1) := by decide +kernel
theorem dX8_fault_18 : decode cX8_fault 18 = .ok (.getfield 73, 3) := by decide +kernel
theorem dX8_fault_21 : decode cX8_fault 21 = .ok (.ifCond .le 7, 3) := by decide +kernel
theorem dX8_fault_24 : decode cX8_fault 24 = .ok (.iconst 0, 1) := by decide +kernel
theorem dX8_fault_25 : decode cX8_fault 25 = .ok (.goto 8, 3) := by decide +kernel
theorem dX8_fault_28 : decode cX8_fault 28 = .ok (.aload_n 0, 1) := by decide +kernel
theorem dX8_fault_29 : decode cX8_fault 29 = .ok (.iload_n 1, 1) := by decide +kernel
theorem dX8_fault_30 : decode cX8_fault 30 = .ok (.invokevirtual 110, 3) := by decide +kernel
theorem dX8_fault_33 : decode cX8_fault 33 = .ok (.ireturn, 1) := by decide +kernel
theorem dX8_type_0 : decode cX8_type 0 = .ok (.aload_n 0, 1) := by decide +kernel
theorem dX8_type_1 : decode cX8_type 1 = .ok (.aload_n 0, 1) := by decide +kernel
theorem dX8_type_2 : decode cX8_type 2 = .ok (.iload_n 1, 1) := by decide +kernel
theorem dX8_type_3 : decode cX8_type 3 = .ok (.invokevirtual 83, 3) := by decide +kernel
theorem dX8_type_6 : decode cX8_type 6 = .ok (.ifCond .eq 12, 3) := by decide +kernel
theorem dX8_type_9 : decode cX8_type 9 = .ok (.iload_n 2, 1) := by decide +kernel
theorem dX8_type_10 : decode cX8_type 10 = .ok (.ifCond .lt 8, 3) := by decide +kernel
theorem dX8_type_13 : decode cX8_type 13 = .ok (.iload_n 2, 1) := by decide +kernel
theorem dX8_type_14 : decode cX8_type 14 = .ok (.iconst 2, 1) := by decide +kernel
theorem dX8_type_15 : decode cX8_type 15 = .ok (.if_icmp .le 7, 3) := by decide +kernel
theorem dX8_type_18 : decode cX8_type 18 = .ok (.iconst 1, 1) := by decide +kernel
theorem dX8_type_19 : decode cX8_type 19 = .ok (.goto 16, 3) := by decide +kernel
theorem dX8_type_22 : decode cX8_type 22 = .ok (.aload_n 0, 1) := by decide +kernel
theorem dX8_type_23 : decode cX8_type 23 = .ok (.iload_n 1, 1) := by decide +kernel
theorem dX8_type_24 : decode cX8_type 24 = .ok (.invokevirtual 110, 3) := by decide +kernel
theorem dX8_type_27 : decode cX8_type 27 = .ok (.ifCond .eq 7, 3) := by decide +kernel
theorem dX8_type_30 : decode cX8_type 30 = .ok (.iconst 2, 1) := by decide +kernel
theorem dX8_type_31 : decode cX8_type 31 = .ok (.goto 4, 3) := by decide +kernel
theorem dX8_type_34 : decode cX8_type 34 = .ok (.iconst 0, 1) := by decide +kernel
theorem dX8_type_35 : decode cX8_type 35 = .ok (.putfield 73, 3) := by decide +kernel
theorem dX8_type_38 : decode cX8_type 38 = .ok (.aload_n 0, 1) := by decide +kernel
theorem dX8_type_39 : decode cX8_type 39 = .ok (.getfield 73, 3) := by decide +kernel
theorem dX8_type_42 : decode cX8_type 42 = .ok (.ifCond .le 5, 3) := by decide +kernel
theorem dX8_type_45 : decode cX8_type 45 = .ok (.iconst 0, 1) := by decide +kernel
theorem dX8_type_46 : decode cX8_type 46 = .ok (.ireturn, 1) := by decide +kernel
theorem dX8_type_47 : decode cX8_type 47 = .ok (.iload_n 2, 1) := by decide +kernel
theorem dX8_type_48 : decode cX8_type 48 = .ok (.iconst 1, 1) := by decide +kernel
theorem dX8_type_49 : decode cX8_type 49 = .ok (.if_icmp .ne 12, 3) := by decide +kernel
theorem dX8_type_52 : decode cX8_type 52 = .ok (.aload_n 0, 1) := by decide +kernel
theorem dX8_type_53 : decode cX8_type 53 = .ok (.getfield 32, 3) := by decide +kernel
theorem dX8_type_56 : decode cX8_type 56 = .ok (.iload_n 1, 1) := by decide +kernel
theorem dX8_type_57 : decode cX8_type 57 = .ok (.iaload, 1) := by decide +kernel
theorem dX8_type_58 : decode cX8_type 58 = .ok (.goto 31, 3) := by decide +kernel
theorem dX8_type_61 : decode cX8_type 61 = .ok (.iload_n 2, 1) := by decide +kernel
theorem dX8_type_62 : decode cX8_type 62 = .ok (.iconst 2, 1) := by decide +kernel
theorem dX8_type_63 : decode cX8_type 63 = .ok (.if_icmp .ne 12, 3) := by decide +kernel
theorem dX8_type_66 : decode cX8_type 66 = .ok (.aload_n 0, 1) := by decide +kernel
theorem dX8_type_67 : decode cX8_type 67 = .ok (.getfield 35, 3) := by decide +kernel
theorem dX8_type_70 : decode cX8_type 70 = .ok (.iload_n 1, 1) := by decide +kernel
theorem dX8_type_71 : decode cX8_type 71 = .ok (.iaload, 1) := by decide +kernel
theorem dX8_type_72 : decode cX8_type 72 = .ok (.goto 17, 3) := by decide +kernel
theorem dX8_type_75 : decode cX8_type 75 = .ok (.aload_n 0, 1) := by decide +kernel
theorem dX8_type_76 : decode cX8_type 76 = .ok (.getfield 28, 3) := by decide +kernel
theorem dX8_type_79 : decode cX8_type 79 = .ok (.iload_n 1, 1) := by decide +kernel
theorem dX8_type_80 : decode cX8_type 80 = .ok (.baload, 1) := by decide +kernel
theorem dX8_type_81 : decode cX8_type 81 = .ok (.ifCond .eq 7, 3) := by decide +kernel
theorem dX8_type_84 : decode cX8_type 84 = .ok (.iconst 1, 1) := by decide +kernel
theorem dX8_type_85 : decode cX8_type 85 = .ok (.goto 4, 3) := by decide +kernel
theorem dX8_type_88 : decode cX8_type 88 = .ok (.iconst 0, 1) := by decide +kernel
theorem dX8_type_89 : decode cX8_type 89 = .ok (.ireturn, 1) := by decide +kernel
theorem dX8_put_0 : decode cX8_put 0 = .ok (.aload_n 0, 1) := by decide +kernel
theorem dX8_put_1 : decode cX8_put 1 = .ok (.iconst 0, 1) := by decide +kernel
theorem dX8_put_2 : decode cX8_put 2 = .ok (.putfield 73, 3) := by decide +kernel
theorem dX8_put_5 : decode cX8_put 5 = .ok (.iload_n 1, 1) := by decide +kernel
theorem dX8_put_6 : decode cX8_put 6 = .ok (.ifCond .lt 18, 3) := by decide +kernel
theorem dX8_put_9 : decode cX8_put 9 = .ok (.iload_n 1, 1) := by decide +kernel
theorem dX8_put_10 : decode cX8_put 10 = .ok (.bipush 7, 2) := by decide +kernel
theorem dX8_put_12 : decode cX8_put 12 = .ok (.if_icmp .gt 12, 3) := by decide +kernel
theorem dX8_put_15 : decode cX8_put 15 = .ok (.aload_n 0, 1) := by decide +kernel
theorem dX8_put_16 : decode cX8_put 16 = .ok (.getfield 113, 3) := by decide +kernel
theorem dX8_put_19 : decode cX8_put 19 = .ok (.bipush 40, 2) := by decide +kernel
theorem dX8_put_21 : decode cX8_put 21 = .ok (.if_icmp .ne 5, 3) := by decide +kernel
theorem dX8_put_24 : decode cX8_put 24 = .ok (.iconst 0, 1) := by decide +kernel
theorem dX8_put_25 : decode cX8_put 25 = .ok (.ireturn, 1) := by decide +kernel
theorem dX8_put_26 : decode cX8_put 26 = .ok (.aload_n 0, 1) := by decide +kernel
theorem dX8_put_27 : decode cX8_put 27 = .ok (.getfield 44, 3) := by decide +kernel
theorem dX8_put_30 : decode cX8_put 30 = .ok (.aload_n 0, 1) := by decide +kernel
theorem dX8_put_31 : decode cX8_put 31 = .ok (.getfield 113, 3) := by decide +kernel
theorem dX8_put_34 : decode cX8_put 34 = .ok (.iload_n 1, 1) := by decide +kernel
theorem dX8_put_35 : decode cX8_put 35 = .ok (.iastore, 1) := by decide +kernel
theorem dX8_put_36 : decode cX8_put 36 = .ok (.aload_n 0, 1) := by decide +kernel
theorem dX8_put_37 : decode cX8_put 37 = .ok (.dup, 1) := by decide +kernel
theorem dX8_put_38 : decode cX8_put 38 = .ok (.getfield 113, 3) := by decide +kernel
theorem dX8_put_41 : decode cX8_put 41 = .ok (.iconst 1, 1) := by decide +kernel
theorem dX8_put_42 : decode cX8_put 42 = .ok (.iadd, 1) := by decide +kernel
theorem dX8_put_43 : decode cX8_put 43 = .ok (.putfield 113, 3) := by decide +kernel
