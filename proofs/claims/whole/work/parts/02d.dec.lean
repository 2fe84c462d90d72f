theorem dX0_init_0 : decode cX0_init 0 = .ok (.aload_n 0, 1) := by decide +kernel
theorem dX0_init_1 : decode cX0_init 1 = .ok (.invokespecial 3, 3) := by decide +kernel
theorem dX0_init_4 : decode cX0_init 4 = .ok (.aload_n 0, 1) := by decide +kernel
theorem dX0_init_5 : decode cX0_init 5 = .ok (.sipush 945, 3) := by decide +kernel
theorem dX0_init_8 : decode cX0_init 8 = .ok (.newarray .int, 2) := by decide +kernel
theorem dX0_init_10 : decode cX0_init 10 = .ok (.putfield 9, 3) := by decide +kernel
theorem dX0_init_13 : decode cX0_init 13 = .ok (.aload_n 0, 1) := by decide +kernel
theorem dX0_init_14 : decode cX0_init 14 = .ok (.iconst 0, 1) := by decide +kernel
theorem dX0_init_15 : decode cX0_init 15 = .ok (.putfield 15, 3) := by decide +kernel
theorem dX0_init_18 : decode cX0_init 18 = .ok (.aload_n 0, 1) := by decide +kernel
theorem dX0_init_19 : decode cX0_init 19 = .ok (.iconst 0, 1) := by decide +kernel
theorem dX0_init_20 : decode cX0_init 20 = .ok (.putfield 19, 3) := by decide +kernel
theorem dX0_init_23 : decode cX0_init 23 = .ok (.aload_n 0, 1) := by decide +kernel
theorem dX0_init_24 : decode cX0_init 24 = .ok (.iconst 0, 1) := by decide +kernel
theorem dX0_init_25 : decode cX0_init 25 = .ok (.putfield 22, 3) := by decide +kernel
theorem dX0_init_28 : decode cX0_init 28 = .ok (.aload_n 0, 1) := by decide +kernel
theorem dX0_init_29 : decode cX0_init 29 = .ok (.new 25, 3) := by decide +kernel
theorem dX0_init_32 : decode cX0_init 32 = .ok (.dup, 1) := by decide +kernel
theorem dX0_init_33 : decode cX0_init 33 = .ok (.invokespecial 27, 3) := by decide +kernel
theorem dX0_init_36 : decode cX0_init 36 = .ok (.putfield 28, 3) := by decide +kernel
theorem dX0_init_39 : decode cX0_init 39 = .ok (.aload_n 0, 1) := by decide +kernel
theorem dX0_init_40 : decode cX0_init 40 = .ok (.new 25, 3) := by decide +kernel
theorem dX0_init_43 : decode cX0_init 43 = .ok (.dup, 1) := by decide +kernel
theorem dX0_init_44 : decode cX0_init 44 = .ok (.invokespecial 27, 3) := by decide +kernel
theorem dX0_init_47 : decode cX0_init 47 = .ok (.putfield 32, 3) := by decide +kernel
theorem dX0_init_50 : decode cX0_init 50 = .ok (.aload_n 0, 1) := by decide +kernel
theorem dX0_init_51 : decode cX0_init 51 = .ok (.aload_n 1, 1) := by decide +kernel
theorem dX0_init_52 : decode cX0_init 52 = .ok (.putfield 35, 3) := by decide +kernel
theorem dX0_init_55 : decode cX0_init 55 = .ok (.aload_n 0, 1) := by decide +kernel
theorem dX0_init_56 : decode cX0_init 56 = .ok (.aload_n 2, 1) := by decide +kernel
theorem dX0_init_57 : decode cX0_init 57 = .ok (.putfield 39, 3) := by decide +kernel
theorem dX0_init_60 : decode cX0_init 60 = .ok (.return_, 1) := by decide +kernel
theorem dX0_reads_0 : decode cX0_reads 0 = .ok (.aload_n 0, 1) := by decide +kernel
theorem dX0_reads_1 : decode cX0_reads 1 = .ok (.getfield 28, 3) := by decide +kernel
theorem dX0_reads_4 : decode cX0_reads 4 = .ok (.invokevirtual 43, 3) := by decide +kernel
theorem dX0_reads_7 : decode cX0_reads 7 = .ok (.aload_n 0, 1) := by decide +kernel
theorem dX0_reads_8 : decode cX0_reads 8 = .ok (.iconst 0, 1) := by decide +kernel
theorem dX0_reads_9 : decode cX0_reads 9 = .ok (.putfield 19, 3) := by decide +kernel
theorem dX0_reads_12 : decode cX0_reads 12 = .ok (.aload_n 0, 1) := by decide +kernel
theorem dX0_reads_13 : decode cX0_reads 13 = .ok (.iconst 0, 1) := by decide +kernel
theorem dX0_reads_14 : decode cX0_reads 14 = .ok (.putfield 15, 3) := by decide +kernel
theorem dX0_reads_17 : decode cX0_reads 17 = .ok (.aload_n 0, 1) := by decide +kernel
theorem dX0_reads_18 : decode cX0_reads 18 = .ok (.iload_n 1, 1) := by decide +kernel
theorem dX0_reads_19 : decode cX0_reads 19 = .ok (.invokevirtual 46, 3) := by decide +kernel
theorem dX0_reads_22 : decode cX0_reads 22 = .ok (.aload_n 0, 1) := by decide +kernel
theorem dX0_reads_23 : decode cX0_reads 23 = .ok (.iconst 0, 1) := by decide +kernel
theorem dX0_reads_24 : decode cX0_reads 24 = .ok (.putfield 22, 3) := by decide +kernel
theorem dX0_reads_27 : decode cX0_reads 27 = .ok (.aload_n 0, 1) := by decide +kernel
theorem dX0_reads_28 : decode cX0_reads 28 = .ok (.getfield 15, 3) := by decide +kernel
theorem dX0_reads_31 : decode cX0_reads 31 = .ok (.ifCond .le 54, 3) := by decide +kernel
theorem dX0_reads_34 : decode cX0_reads 34 = .ok (.aload_n 0, 1) := by decide +kernel
theorem dX0_reads_35 : decode cX0_reads 35 = .ok (.getfield 22, 3) := by decide +kernel
theorem dX0_reads_38 : decode cX0_reads 38 = .ok (.ldc 50, 2) := by decide +kernel
theorem dX0_reads_40 : decode cX0_reads 40 = .ok (.if_icmp .ge 45, 3) := by decide +kernel
theorem dX0_reads_43 : decode cX0_reads 43 = .ok (.aload_n 0, 1) := by decide +kernel
theorem dX0_reads_44 : decode cX0_reads 44 = .ok (.dup, 1) := by decide +kernel
theorem dX0_reads_45 : decode cX0_reads 45 = .ok (.getfield 15, 3) := by decide +kernel
theorem dX0_reads_48 : decode cX0_reads 48 = .ok (.iconst 1, 1) := by decide +kernel
theorem dX0_reads_49 : decode cX0_reads 49 = .ok (.isub, 1) := by decide +kernel
theorem dX0_reads_50 : decode cX0_reads 50 = .ok (.putfield 15, 3) := by decide +kernel
theorem dX0_reads_53 : decode cX0_reads 53 = .ok (.aload_n 0, 1) := by decide +kernel
theorem dX0_reads_54 : decode cX0_reads 54 = .ok (.aload_n 0, 1) := by decide +kernel
theorem dX0_reads_55 : decode cX0_reads 55 = .ok (.getfield 9, 3) := by decide +kernel
theorem dX0_reads_58 : decode cX0_reads 58 = .ok (.aload_n 0, 1) := by decide +kernel
theorem dX0_reads_59 : decode cX0_reads 59 = .ok (.getfield 15, 3) := by decide +kernel
theorem dX0_reads_62 : decode cX0_reads 62 = .ok (.iaload, 1) := by decide +kernel
theorem dX0_reads_63 : decode cX0_reads 63 = .ok (.aload_n 2, 1) := by decide +kernel
theorem dX0_reads_64 : decode cX0_reads 64 = .ok (.invokevirtual 51, 3) := by decide +kernel
theorem dX0_reads_67 : decode cX0_reads 67 = .ok (.ifCond .ne 5, 3) := by decide +kernel
theorem dX0_reads_70 : decode cX0_reads 70 = .ok (.iconst 0, 1) := by decide +kernel
theorem dX0_reads_71 : decode cX0_reads 71 = .ok (.ireturn, 1) := by decide +kernel
theorem dX0_reads_72 : decode cX0_reads 72 = .ok (.aload_n 0, 1) := by decide +kernel
theorem dX0_reads_73 : decode cX0_reads 73 = .ok (.dup, 1) := by decide +kernel
theorem dX0_reads_74 : decode cX0_reads 74 = .ok (.getfield 22, 3) := by decide +kernel
theorem dX0_reads_77 : decode cX0_reads 77 = .ok (.iconst 1, 1) := by decide +kernel
theorem dX0_reads_78 : decode cX0_reads 78 = .ok (.iadd, 1) := by decide +kernel
theorem dX0_reads_79 : decode cX0_reads 79 = .ok (.putfield 22, 3) := by decide +kernel
theorem dX0_reads_82 : decode cX0_reads 82 = .ok (.goto (-55), 3) := by decide +kernel
theorem dX0_reads_85 : decode cX0_reads 85 = .ok (.aload_n 0, 1) := by decide +kernel
theorem dX0_reads_86 : decode cX0_reads 86 = .ok (.getfield 19, 3) := by decide +kernel
theorem dX0_reads_89 : decode cX0_reads 89 = .ok (.aload_n 2, 1) := by decide +kernel
theorem dX0_reads_90 : decode cX0_reads 90 = .ok (.invokevirtual 55, 3) := by decide +kernel
theorem dX0_reads_93 : decode cX0_reads 93 = .ok (.if_icmp .ne 7, 3) := by decide +kernel
theorem dX0_reads_96 : decode cX0_reads 96 = .ok (.iconst 1, 1) := by decide +kernel
theorem dX0_reads_97 : decode cX0_reads 97 = .ok (.goto 4, 3) := by decide +kernel
theorem dX0_reads_100 : decode cX0_reads 100 = .ok (.iconst 0, 1) := by decide +kernel
theorem dX0_reads_101 : decode cX0_reads 101 = .ok (.ireturn, 1) := by decide +kernel
theorem dX0_place_0 : decode cX0_place 0 = .ok (.aload_n 0, 1) := by decide +kernel
theorem dX0_place_1 : decode cX0_place 1 = .ok (.getfield 19, 3) := by decide +kernel
theorem dX0_place_4 : decode cX0_place 4 = .ok (.ireturn, 1) := by decide +kernel
theorem dX0_visits_0 : decode cX0_visits 0 = .ok (.aload_n 0, 1) := by decide +kernel
theorem dX0_visits_1 : decode cX0_visits 1 = .ok (.getfield 22, 3) := by decide +kernel
theorem dX0_visits_4 : decode cX0_visits 4 = .ok (.ireturn, 1) := by decide +kernel
theorem dX0_keepSteps_0 : decode cX0_keepSteps 0 = .ok (.aload_n 0, 1) := by decide +kernel
theorem dX0_keepSteps_1 : decode cX0_keepSteps 1 = .ok (.getfield 32, 3) := by decide +kernel
theorem dX0_keepSteps_4 : decode cX0_keepSteps 4 = .ok (.astore_n 1, 1) := by decide +kernel
theorem dX0_keepSteps_5 : decode cX0_keepSteps 5 = .ok (.aload_n 0, 1) := by decide +kernel
theorem dX0_keepSteps_6 : decode cX0_keepSteps 6 = .ok (.aload_n 0, 1) := by decide +kernel
theorem dX0_keepSteps_7 : decode cX0_keepSteps 7 = .ok (.getfield 28, 3) := by decide +kernel
theorem dX0_keepSteps_10 : decode cX0_keepSteps 10 = .ok (.putfield 32, 3) := by decide +kernel
theorem dX0_keepSteps_13 : decode cX0_keepSteps 13 = .ok (.aload_n 0, 1) := by decide +kernel
theorem dX0_keepSteps_14 : decode cX0_keepSteps 14 = .ok (.aload_n 1, 1) := by decide +kernel
theorem dX0_keepSteps_15 : decode cX0_keepSteps 15 = .ok (.putfield 28, 3) := by decide +kernel
theorem dX0_keepSteps_18 : decode cX0_keepSteps 18 = .ok (.return_, 1) := by decide +kernel
theorem dX0_kept_0 : decode cX0_kept 0 = .ok (.aload_n 0, 1) := by decide +kernel
theorem dX0_kept_1 : decode cX0_kept 1 = .ok (.getfield 32, 3) := by decide +kernel
theorem dX0_kept_4 : decode cX0_kept 4 = .ok (.areturn, 1) := by decide +kernel
theorem dX0_await_0 : decode cX0_await 0 = .ok (.aload_n 0, 1) := by decide +kernel
theorem dX0_await_1 : decode cX0_await 1 = .ok (.getfield 15, 3) := by decide +kernel
theorem dX0_await_4 : decode cX0_await 4 = .ok (.sipush 945, 3) := by decide +kernel
theorem dX0_await_7 : decode cX0_await 7 = .ok (.if_icmp .ge 23, 3) := by decide +kernel
theorem dX0_await_10 : decode cX0_await 10 = .ok (.aload_n 0, 1) := by decide +kernel
theorem dX0_await_11 : decode cX0_await 11 = .ok (.getfield 9, 3) := by decide +kernel
theorem dX0_await_14 : decode cX0_await 14 = .ok (.aload_n 0, 1) := by decide +kernel
theorem dX0_await_15 : decode cX0_await 15 = .ok (.getfield 15, 3) := by decide +kernel
theorem dX0_await_18 : decode cX0_await 18 = .ok (.iload_n 1, 1) := by decide +kernel
theorem dX0_await_19 : decode cX0_await 19 = .ok (.iastore, 1) := by decide +kernel
theorem dX0_await_20 : decode cX0_await 20 = .ok (.aload_n 0, 1) := by decide +kernel
theorem dX0_await_21 : decode cX0_await 21 = .ok (.dup, 1) := by decide +kernel
theorem dX0_await_22 : decode cX0_await 22 = .ok (.getfield 15, 3) := by decide +kernel
theorem dX0_await_25 : decode cX0_await 25 = .ok (.iconst 1, 1) := by decide +kernel
theorem dX0_await_26 : decode cX0_await 26 = .ok (.iadd, 1) := by decide +kernel
theorem dX0_await_27 : decode cX0_await 27 = .ok (.putfield 15, 3) := by decide +kernel
theorem dX0_await_30 : decode cX0_await 30 = .ok (.return_, 1) := by decide +kernel
theorem dX0_visit_0 : decode cX0_visit 0 = .ok (.aload_n 0, 1) := by decide +kernel
theorem dX0_visit_1 : decode cX0_visit 1 = .ok (.getfield 35, 3) := by decide +kernel
theorem dX0_visit_4 : decode cX0_visit 4 = .ok (.iload_n 1, 1) := by decide +kernel
theorem dX0_visit_5 : decode cX0_visit 5 = .ok (.invokevirtual 61, 3) := by decide +kernel
theorem dX0_visit_8 : decode cX0_visit 8 = .ok (.tableswitch 121 0 6 #[44, 121, 46, 60, 86, 93, 107], 44) := by decide +kernel
theorem dX0_visit_52 : decode cX0_visit 52 = .ok (.iconst 1, 1) := by decide +kernel
theorem dX0_visit_53 : decode cX0_visit 53 = .ok (.ireturn, 1) := by decide +kernel
theorem dX0_visit_54 : decode cX0_visit 54 = .ok (.aload_n 0, 1) := by decide +kernel
theorem dX0_visit_55 : decode cX0_visit 55 = .ok (.aload_n 0, 1) := by decide +kernel
theorem dX0_visit_56 : decode cX0_visit 56 = .ok (.getfield 35, 3) := by decide +kernel
theorem dX0_visit_59 : decode cX0_visit 59 = .ok (.iload_n 1, 1) := by decide +kernel
theorem dX0_visit_60 : decode cX0_visit 60 = .ok (.invokevirtual 67, 3) := by decide +kernel
theorem dX0_visit_63 : decode cX0_visit 63 = .ok (.aload_n 2, 1) := by decide +kernel
theorem dX0_visit_64 : decode cX0_visit 64 = .ok (.invokevirtual 70, 3) := by decide +kernel
theorem dX0_visit_67 : decode cX0_visit 67 = .ok (.ireturn, 1) := by decide +kernel
theorem dX0_visit_68 : decode cX0_visit 68 = .ok (.aload_n 0, 1) := by decide +kernel
theorem dX0_visit_69 : decode cX0_visit 69 = .ok (.aload_n 0, 1) := by decide +kernel
theorem dX0_visit_70 : decode cX0_visit 70 = .ok (.getfield 35, 3) := by decide +kernel
theorem dX0_visit_73 : decode cX0_visit 73 = .ok (.iload_n 1, 1) := by decide +kernel
theorem dX0_visit_74 : decode cX0_visit 74 = .ok (.invokevirtual 73, 3) := by decide +kernel
theorem dX0_visit_77 : decode cX0_visit 77 = .ok (.invokevirtual 46, 3) := by decide +kernel
theorem dX0_visit_80 : decode cX0_visit 80 = .ok (.aload_n 0, 1) := by decide +kernel
theorem dX0_visit_81 : decode cX0_visit 81 = .ok (.aload_n 0, 1) := by decide +kernel
theorem dX0_visit_82 : decode cX0_visit 82 = .ok (.getfield 35, 3) := by decide +kernel
theorem dX0_visit_85 : decode cX0_visit 85 = .ok (.iload_n 1, 1) := by decide +kernel
theorem dX0_visit_86 : decode cX0_visit 86 = .ok (.invokevirtual 76, 3) := by decide +kernel
theorem dX0_visit_89 : decode cX0_visit 89 = .ok (.invokevirtual 46, 3) := by decide +kernel
theorem dX0_visit_92 : decode cX0_visit 92 = .ok (.iconst 1, 1) := by decide +kernel
theorem dX0_visit_93 : decode cX0_visit 93 = .ok (.ireturn, 1) := by decide +kernel
theorem dX0_visit_94 : decode cX0_visit 94 = .ok (.aload_n 0, 1) := by decide +kernel
theorem dX0_visit_95 : decode cX0_visit 95 = .ok (.iload_n 1, 1) := by decide +kernel
theorem dX0_visit_96 : decode cX0_visit 96 = .ok (.aload_n 2, 1) := by decide +kernel
theorem dX0_visit_97 : decode cX0_visit 97 = .ok (.invokevirtual 79, 3) := by decide +kernel
theorem dX0_visit_100 : decode cX0_visit 100 = .ok (.ireturn, 1) := by decide +kernel
theorem dX0_visit_101 : decode cX0_visit 101 = .ok (.aload_n 0, 1) := by decide +kernel
theorem dX0_visit_102 : decode cX0_visit 102 = .ok (.aload_n 0, 1) := by decide +kernel
theorem dX0_visit_103 : decode cX0_visit 103 = .ok (.getfield 39, 3) := by decide +kernel
theorem dX0_visit_106 : decode cX0_visit 106 = .ok (.iload_n 1, 1) := by decide +kernel
theorem dX0_visit_107 : decode cX0_visit 107 = .ok (.invokevirtual 82, 3) := by decide +kernel
theorem dX0_visit_110 : decode cX0_visit 110 = .ok (.invokevirtual 46, 3) := by decide +kernel
theorem dX0_visit_113 : decode cX0_visit 113 = .ok (.iconst 1, 1) := by decide +kernel
theorem dX0_visit_114 : decode cX0_visit 114 = .ok (.ireturn, 1) := by decide +kernel
theorem dX0_visit_115 : decode cX0_visit 115 = .ok (.aload_n 0, 1) := by decide +kernel
theorem dX0_visit_116 : decode cX0_visit 116 = .ok (.aload_n 0, 1) := by decide +kernel
theorem dX0_visit_117 : decode cX0_visit 117 = .ok (.getfield 35, 3) := by decide +kernel
theorem dX0_visit_120 : decode cX0_visit 120 = .ok (.iload_n 1, 1) := by decide +kernel
theorem dX0_visit_121 : decode cX0_visit 121 = .ok (.invokevirtual 76, 3) := by decide +kernel
theorem dX0_visit_124 : decode cX0_visit 124 = .ok (.invokevirtual 46, 3) := by decide +kernel
theorem dX0_visit_127 : decode cX0_visit 127 = .ok (.iconst 1, 1) := by decide +kernel
theorem dX0_visit_128 : decode cX0_visit 128 = .ok (.ireturn, 1) := by decide +kernel
theorem dX0_visit_129 : decode cX0_visit 129 = .ok (.iconst 0, 1) := by decide +kernel
theorem dX0_visit_130 : decode cX0_visit 130 = .ok (.ireturn, 1) := by decide +kernel
theorem dX0_readLetter_0 : decode cX0_readLetter 0 = .ok (.aload_n 0, 1) := by decide +kernel
theorem dX0_readLetter_1 : decode cX0_readLetter 1 = .ok (.getfield 19, 3) := by decide +kernel
theorem dX0_readLetter_4 : decode cX0_readLetter 4 = .ok (.aload_n 2, 1) := by decide +kernel
theorem dX0_readLetter_5 : decode cX0_readLetter 5 = .ok (.invokevirtual 55, 3) := by decide +kernel
theorem dX0_readLetter_8 : decode cX0_readLetter 8 = .ok (.if_icmp .ge 15, 3) := by decide +kernel
theorem dX0_readLetter_11 : decode cX0_readLetter 11 = .ok (.aload_n 2, 1) := by decide +kernel
theorem dX0_readLetter_12 : decode cX0_readLetter 12 = .ok (.aload_n 0, 1) := by decide +kernel
theorem dX0_readLetter_13 : decode cX0_readLetter 13 = .ok (.getfield 19, 3) := by decide +kernel
theorem dX0_readLetter_16 : decode cX0_readLetter 16 = .ok (.invokevirtual 87, 3) := by decide +kernel
theorem dX0_readLetter_19 : decode cX0_readLetter 19 = .ok (.iload_n 1, 1) := by decide +kernel
theorem dX0_readLetter_20 : decode cX0_readLetter 20 = .ok (.if_icmp .eq 5, 3) := by decide +kernel
theorem dX0_readLetter_23 : decode cX0_readLetter 23 = .ok (.iconst 0, 1) := by decide +kernel
theorem dX0_readLetter_24 : decode cX0_readLetter 24 = .ok (.ireturn, 1) := by decide +kernel
theorem dX0_readLetter_25 : decode cX0_readLetter 25 = .ok (.aload_n 0, 1) := by decide +kernel
theorem dX0_readLetter_26 : decode cX0_readLetter 26 = .ok (.dup, 1) := by decide +kernel
theorem dX0_readLetter_27 : decode cX0_readLetter 27 = .ok (.getfield 19, 3) := by decide +kernel
theorem dX0_readLetter_30 : decode cX0_readLetter 30 = .ok (.iconst 1, 1) := by decide +kernel
theorem dX0_readLetter_31 : decode cX0_readLetter 31 = .ok (.iadd, 1) := by decide +kernel
theorem dX0_readLetter_32 : decode cX0_readLetter 32 = .ok (.putfield 19, 3) := by decide +kernel
theorem dX0_readLetter_35 : decode cX0_readLetter 35 = .ok (.iconst 1, 1) := by decide +kernel
theorem dX0_readLetter_36 : decode cX0_readLetter 36 = .ok (.ireturn, 1) := by decide +kernel
theorem dX0_choose_0 : decode cX0_choose 0 = .ok (.aload_n 0, 1) := by decide +kernel
theorem dX0_choose_1 : decode cX0_choose 1 = .ok (.getfield 19, 3) := by decide +kernel
theorem dX0_choose_4 : decode cX0_choose 4 = .ok (.aload_n 2, 1) := by decide +kernel
theorem dX0_choose_5 : decode cX0_choose 5 = .ok (.invokevirtual 55, 3) := by decide +kernel
theorem dX0_choose_8 : decode cX0_choose 8 = .ok (.if_icmp .ge 16, 3) := by decide +kernel
theorem dX0_choose_11 : decode cX0_choose 11 = .ok (.iconst 1, 1) := by decide +kernel
theorem dX0_choose_12 : decode cX0_choose 12 = .ok (.aload_n 2, 1) := by decide +kernel
theorem dX0_choose_13 : decode cX0_choose 13 = .ok (.aload_n 0, 1) := by decide +kernel
theorem dX0_choose_14 : decode cX0_choose 14 = .ok (.getfield 19, 3) := by decide +kernel
theorem dX0_choose_17 : decode cX0_choose 17 = .ok (.invokevirtual 87, 3) := by decide +kernel
theorem dX0_choose_20 : decode cX0_choose 20 = .ok (.ishl, 1) := by decide +kernel
theorem dX0_choose_21 : decode cX0_choose 21 = .ok (.goto 4, 3) := by decide +kernel
theorem dX0_choose_24 : decode cX0_choose 24 = .ok (.iconst 0, 1) := by decide +kernel
theorem dX0_choose_25 : decode cX0_choose 25 = .ok (.istore_n 3, 1) := by decide +kernel
theorem dX0_choose_26 : decode cX0_choose 26 = .ok (.aload_n 0, 1) := by decide +kernel
theorem dX0_choose_27 : decode cX0_choose 27 = .ok (.getfield 39, 3) := by decide +kernel
theorem dX0_choose_30 : decode cX0_choose 30 = .ok (.iload_n 1, 1) := by decide +kernel
theorem dX0_choose_31 : decode cX0_choose 31 = .ok (.iload_n 3, 1) := by decide +kernel
theorem dX0_choose_32 : decode cX0_choose 32 = .ok (.invokevirtual 90, 3) := by decide +kernel
theorem dX0_choose_35 : decode cX0_choose 35 = .ok (.istore 4, 2) := by decide +kernel
theorem dX0_choose_37 : decode cX0_choose 37 = .ok (.iload 4, 2) := by decide +kernel
theorem dX0_choose_39 : decode cX0_choose 39 = .ok (.iconst (-1), 1) := by decide +kernel
theorem dX0_choose_40 : decode cX0_choose 40 = .ok (.if_icmp .ne 5, 3) := by decide +kernel
theorem dX0_choose_43 : decode cX0_choose 43 = .ok (.iconst 0, 1) := by decide +kernel
theorem dX0_choose_44 : decode cX0_choose 44 = .ok (.ireturn, 1) := by decide +kernel
theorem dX0_choose_45 : decode cX0_choose 45 = .ok (.aload_n 0, 1) := by decide +kernel
theorem dX0_choose_46 : decode cX0_choose 46 = .ok (.getfield 28, 3) := by decide +kernel
theorem dX0_choose_49 : decode cX0_choose 49 = .ok (.iload 4, 2) := by decide +kernel
theorem dX0_choose_51 : decode cX0_choose 51 = .ok (.invokevirtual 94, 3) := by decide +kernel
theorem dX0_choose_54 : decode cX0_choose 54 = .ok (.aload_n 0, 1) := by decide +kernel
theorem dX0_choose_55 : decode cX0_choose 55 = .ok (.iload 4, 2) := by decide +kernel
theorem dX0_choose_57 : decode cX0_choose 57 = .ok (.ifCond .ne 14, 3) := by decide +kernel
theorem dX0_choose_60 : decode cX0_choose 60 = .ok (.aload_n 0, 1) := by decide +kernel
theorem dX0_choose_61 : decode cX0_choose 61 = .ok (.getfield 35, 3) := by decide +kernel
theorem dX0_choose_64 : decode cX0_choose 64 = .ok (.iload_n 1, 1) := by decide +kernel
theorem dX0_choose_65 : decode cX0_choose 65 = .ok (.invokevirtual 76, 3) := by decide +kernel
theorem dX0_choose_68 : decode cX0_choose 68 = .ok (.goto 11, 3) := by decide +kernel
theorem dX0_choose_71 : decode cX0_choose 71 = .ok (.aload_n 0, 1) := by decide +kernel
theorem dX0_choose_72 : decode cX0_choose 72 = .ok (.getfield 35, 3) := by decide +kernel
theorem dX0_choose_75 : decode cX0_choose 75 = .ok (.iload_n 1, 1) := by decide +kernel
theorem dX0_choose_76 : decode cX0_choose 76 = .ok (.invokevirtual 73, 3) := by decide +kernel
theorem dX0_choose_79 : decode cX0_choose 79 = .ok (.invokevirtual 46, 3) := by decide +kernel
theorem dX0_choose_82 : decode cX0_choose 82 = .ok (.iconst 1, 1) := by decide +kernel
theorem dX0_choose_83 : decode cX0_choose 83 = .ok (.ireturn, 1) := by decide +kernel
theorem dX1_init_0 : decode cX1_init 0 = .ok (.aload_n 0, 1) := by decide +kernel
theorem dX1_init_1 : decode cX1_init 1 = .ok (.invokespecial 3, 3) := by decide +kernel
theorem dX1_init_4 : decode cX1_init 4 = .ok (.aload_n 0, 1) := by decide +kernel
theorem dX1_init_5 : decode cX1_init 5 = .ok (.sipush 369, 3) := by decide +kernel
theorem dX1_init_8 : decode cX1_init 8 = .ok (.newarray .int, 2) := by decide +kernel
theorem dX1_init_10 : decode cX1_init 10 = .ok (.putfield 9, 3) := by decide +kernel
theorem dX1_init_13 : decode cX1_init 13 = .ok (.aload_n 0, 1) := by decide +kernel
theorem dX1_init_14 : decode cX1_init 14 = .ok (.iconst 0, 1) := by decide +kernel
theorem dX1_init_15 : decode cX1_init 15 = .ok (.putfield 15, 3) := by decide +kernel
theorem dX1_init_18 : decode cX1_init 18 = .ok (.aload_n 0, 1) := by decide +kernel
theorem dX1_init_19 : decode cX1_init 19 = .ok (.sipush 6290, 3) := by decide +kernel
theorem dX1_init_22 : decode cX1_init 22 = .ok (.newarray .long, 2) := by decide +kernel
theorem dX1_init_24 : decode cX1_init 24 = .ok (.putfield 19, 3) := by decide +kernel
theorem dX1_init_27 : decode cX1_init 27 = .ok (.aload_n 0, 1) := by decide +kernel
theorem dX1_init_28 : decode cX1_init 28 = .ok (.bipush 23, 2) := by decide +kernel
theorem dX1_init_30 : decode cX1_init 30 = .ok (.newarray .int, 2) := by decide +kernel
theorem dX1_init_32 : decode cX1_init 32 = .ok (.putfield 23, 3) := by decide +kernel
theorem dX1_init_35 : decode cX1_init 35 = .ok (.aload_n 0, 1) := by decide +kernel
theorem dX1_init_36 : decode cX1_init 36 = .ok (.iconst 0, 1) := by decide +kernel
theorem dX1_init_37 : decode cX1_init 37 = .ok (.putfield 26, 3) := by decide +kernel
theorem dX1_init_40 : decode cX1_init 40 = .ok (.aload_n 0, 1) := by decide +kernel
theorem dX1_init_41 : decode cX1_init 41 = .ok (.bipush 17, 2) := by decide +kernel
theorem dX1_init_43 : decode cX1_init 43 = .ok (.newarray .long, 2) := by decide +kernel
theorem dX1_init_45 : decode cX1_init 45 = .ok (.putfield 29, 3) := by decide +kernel
theorem dX1_init_48 : decode cX1_init 48 = .ok (.aload_n 0, 1) := by decide +kernel
theorem dX1_init_49 : decode cX1_init 49 = .ok (.aload_n 1, 1) := by decide +kernel
theorem dX1_init_50 : decode cX1_init 50 = .ok (.putfield 32, 3) := by decide +kernel
theorem dX1_init_53 : decode cX1_init 53 = .ok (.aload_n 0, 1) := by decide +kernel
theorem dX1_init_54 : decode cX1_init 54 = .ok (.aload_n 2, 1) := by decide +kernel
theorem dX1_init_55 : decode cX1_init 55 = .ok (.putfield 36, 3) := by decide +kernel
theorem dX1_init_58 : decode cX1_init 58 = .ok (.aload_n 0, 1) := by decide +kernel
theorem dX1_init_59 : decode cX1_init 59 = .ok (.aload_n 3, 1) := by decide +kernel
theorem dX1_init_60 : decode cX1_init 60 = .ok (.putfield 40, 3) := by decide +kernel
theorem dX1_init_63 : decode cX1_init 63 = .ok (.return_, 1) := by decide +kernel
theorem dX1_spell_0 : decode cX1_spell 0 = .ok (.aload 5, 2) := by decide +kernel
theorem dX1_spell_2 : decode cX1_spell 2 = .ok (.iconst 0, 1) := by decide +kernel
theorem dX1_spell_3 : decode cX1_spell 3 = .ok (.invokevirtual 44, 3) := by decide +kernel
theorem dX1_spell_6 : decode cX1_spell 6 = .ok (.aload_n 0, 1) := by decide +kernel
theorem dX1_spell_7 : decode cX1_spell 7 = .ok (.iload_n 1, 1) := by decide +kernel
theorem dX1_spell_8 : decode cX1_spell 8 = .ok (.iload_n 2, 1) := by decide +kernel
theorem dX1_spell_9 : decode cX1_spell 9 = .ok (.invokevirtual 50, 3) := by decide +kernel
theorem dX1_spell_12 : decode cX1_spell 12 = .ok (.lload_n 3, 1) := by decide +kernel
theorem dX1_spell_13 : decode cX1_spell 13 = .ok (.lstore 6, 2) := by decide +kernel
theorem dX1_spell_15 : decode cX1_spell 15 = .ok (.iload_n 2, 1) := by decide +kernel
theorem dX1_spell_16 : decode cX1_spell 16 = .ok (.iconst 1, 1) := by decide +kernel
theorem dX1_spell_17 : decode cX1_spell 17 = .ok (.isub, 1) := by decide +kernel
theorem dX1_spell_18 : decode cX1_spell 18 = .ok (.istore 8, 2) := by decide +kernel
theorem dX1_spell_20 : decode cX1_spell 20 = .ok (.iload 8, 2) := by decide +kernel
theorem dX1_spell_22 : decode cX1_spell 22 = .ok (.ifCond .lt 21, 3) := by decide +kernel
theorem dX1_spell_25 : decode cX1_spell 25 = .ok (.aload_n 0, 1) := by decide +kernel
theorem dX1_spell_26 : decode cX1_spell 26 = .ok (.iload 8, 2) := by decide +kernel
theorem dX1_spell_28 : decode cX1_spell 28 = .ok (.lload 6, 2) := by decide +kernel
theorem dX1_spell_30 : decode cX1_spell 30 = .ok (.aload 5, 2) := by decide +kernel
theorem dX1_spell_32 : decode cX1_spell 32 = .ok (.invokevirtual 54, 3) := by decide +kernel
theorem dX1_spell_35 : decode cX1_spell 35 = .ok (.lstore 6, 2) := by decide +kernel
theorem dX1_spell_37 : decode cX1_spell 37 = .ok (.iinc 8 (-1), 3) := by decide +kernel
theorem dX1_spell_40 : decode cX1_spell 40 = .ok (.goto (-20), 3) := by decide +kernel
theorem dX1_spell_43 : decode cX1_spell 43 = .ok (.return_, 1) := by decide +kernel
theorem dX1_startPile_0 : decode cX1_startPile 0 = .ok (.iconst 0, 1) := by decide +kernel
theorem dX1_startPile_1 : decode cX1_startPile 1 = .ok (.istore_n 3, 1) := by decide +kernel
theorem dX1_startPile_2 : decode cX1_startPile 2 = .ok (.iload_n 3, 1) := by decide +kernel
theorem dX1_startPile_3 : decode cX1_startPile 3 = .ok (.iload_n 2, 1) := by decide +kernel
theorem dX1_startPile_4 : decode cX1_startPile 4 = .ok (.if_icmp .gt 24, 3) := by decide +kernel
theorem dX1_startPile_7 : decode cX1_startPile 7 = .ok (.aload_n 0, 1) := by decide +kernel
theorem dX1_startPile_8 : decode cX1_startPile 8 = .ok (.getfield 19, 3) := by decide +kernel
theorem dX1_startPile_11 : decode cX1_startPile 11 = .ok (.iload_n 3, 1) := by decide +kernel
theorem dX1_startPile_12 : decode cX1_startPile 12 = .ok (.iload_n 3, 1) := by decide +kernel
theorem dX1_startPile_13 : decode cX1_startPile 13 = .ok (.ifCond .ne 7, 3) := by decide +kernel
theorem dX1_startPile_16 : decode cX1_startPile 16 = .ok (.lconst 1, 1) := by decide +kernel
theorem dX1_startPile_17 : decode cX1_startPile 17 = .ok (.goto 4, 3) := by decide +kernel
theorem dX1_startPile_20 : decode cX1_startPile 20 = .ok (.lconst 0, 1) := by decide +kernel
theorem dX1_startPile_21 : decode cX1_startPile 21 = .ok (.lastore, 1) := by decide +kernel
theorem dX1_startPile_22 : decode cX1_startPile 22 = .ok (.iinc 3 1, 3) := by decide +kernel
theorem dX1_startPile_25 : decode cX1_startPile 25 = .ok (.goto (-23), 3) := by decide +kernel
theorem dX1_startPile_28 : decode cX1_startPile 28 = .ok (.aload_n 0, 1) := by decide +kernel
theorem dX1_startPile_29 : decode cX1_startPile 29 = .ok (.iconst 0, 1) := by decide +kernel
theorem dX1_startPile_30 : decode cX1_startPile 30 = .ok (.putfield 15, 3) := by decide +kernel
theorem dX1_startPile_33 : decode cX1_startPile 33 = .ok (.aload_n 0, 1) := by decide +kernel
theorem dX1_startPile_34 : decode cX1_startPile 34 = .ok (.iload_n 1, 1) := by decide +kernel
theorem dX1_startPile_35 : decode cX1_startPile 35 = .ok (.iload_n 2, 1) := by decide +kernel
theorem dX1_startPile_36 : decode cX1_startPile 36 = .ok (.invokevirtual 58, 3) := by decide +kernel
theorem dX1_startPile_39 : decode cX1_startPile 39 = .ok (.return_, 1) := by decide +kernel
theorem dX1_spellNext_0 : decode cX1_spellNext 0 = .ok (.lload_n 2, 1) := by decide +kernel
theorem dX1_spellNext_1 : decode cX1_spellNext 1 = .ok (.lstore 5, 2) := by decide +kernel
theorem dX1_spellNext_3 : decode cX1_spellNext 3 = .ok (.iconst 0, 1) := by decide +kernel
theorem dX1_spellNext_4 : decode cX1_spellNext 4 = .ok (.istore 7, 2) := by decide +kernel
theorem dX1_spellNext_6 : decode cX1_spellNext 6 = .ok (.iload 7, 2) := by decide +kernel
theorem dX1_spellNext_8 : decode cX1_spellNext 8 = .ok (.bipush 8, 2) := by decide +kernel
theorem dX1_spellNext_10 : decode cX1_spellNext 10 = .ok (.if_icmp .ge 77, 3) := by decide +kernel
theorem dX1_spellNext_13 : decode cX1_spellNext 13 = .ok (.aload_n 0, 1) := by decide +kernel
theorem dX1_spellNext_14 : decode cX1_spellNext 14 = .ok (.iload 7, 2) := by decide +kernel
theorem dX1_spellNext_16 : decode cX1_spellNext 16 = .ok (.invokevirtual 61, 3) := by decide +kernel
theorem dX1_spellNext_19 : decode cX1_spellNext 19 = .ok (.istore 8, 2) := by decide +kernel
theorem dX1_spellNext_21 : decode cX1_spellNext 21 = .ok (.iload 8, 2) := by decide +kernel
theorem dX1_spellNext_23 : decode cX1_spellNext 23 = .ok (.iconst (-1), 1) := by decide +kernel
theorem dX1_spellNext_24 : decode cX1_spellNext 24 = .ok (.if_icmp .eq 57, 3) := by decide +kernel
theorem dX1_spellNext_27 : decode cX1_spellNext 27 = .ok (.aload_n 0, 1) := by decide +kernel
theorem dX1_spellNext_28 : decode cX1_spellNext 28 = .ok (.aload_n 0, 1) := by decide +kernel
theorem dX1_spellNext_29 : decode cX1_spellNext 29 = .ok (.getfield 9, 3) := by decide +kernel
theorem dX1_spellNext_32 : decode cX1_spellNext 32 = .ok (.iload 8, 2) := by decide +kernel
theorem dX1_spellNext_34 : decode cX1_spellNext 34 = .ok (.iaload, 1) := by decide +kernel
theorem dX1_spellNext_35 : decode cX1_spellNext 35 = .ok (.iload 7, 2) := by decide +kernel
theorem dX1_spellNext_37 : decode cX1_spellNext 37 = .ok (.invokevirtual 65, 3) := by decide +kernel
theorem dX1_spellNext_40 : decode cX1_spellNext 40 = .ok (.aload_n 0, 1) := by decide +kernel
theorem dX1_spellNext_41 : decode cX1_spellNext 41 = .ok (.iload 8, 2) := by decide +kernel
theorem dX1_spellNext_43 : decode cX1_spellNext 43 = .ok (.iload_n 1, 1) := by decide +kernel
theorem dX1_spellNext_44 : decode cX1_spellNext 44 = .ok (.invokevirtual 68, 3) := by decide +kernel
theorem dX1_spellNext_47 : decode cX1_spellNext 47 = .ok (.lstore 9, 2) := by decide +kernel
theorem dX1_spellNext_49 : decode cX1_spellNext 49 = .ok (.lload 5, 2) := by decide +kernel
theorem dX1_spellNext_51 : decode cX1_spellNext 51 = .ok (.lload 9, 2) := by decide +kernel
theorem dX1_spellNext_53 : decode cX1_spellNext 53 = .ok (.lcmp, 1) := by decide +kernel
theorem dX1_spellNext_54 : decode cX1_spellNext 54 = .ok (.ifCond .ge 20, 3) := by decide +kernel
theorem dX1_spellNext_57 : decode cX1_spellNext 57 = .ok (.aload_n 0, 1) := by decide +kernel
theorem dX1_spellNext_58 : decode cX1_spellNext 58 = .ok (.iload 8, 2) := by decide +kernel
theorem dX1_spellNext_60 : decode cX1_spellNext 60 = .ok (.iload_n 1, 1) := by decide +kernel
theorem dX1_spellNext_61 : decode cX1_spellNext 61 = .ok (.invokevirtual 72, 3) := by decide +kernel
theorem dX1_spellNext_64 : decode cX1_spellNext 64 = .ok (.aload 4, 2) := by decide +kernel
theorem dX1_spellNext_66 : decode cX1_spellNext 66 = .ok (.iload 7, 2) := by decide +kernel
theorem dX1_spellNext_68 : decode cX1_spellNext 68 = .ok (.invokevirtual 75, 3) := by decide +kernel
theorem dX1_spellNext_71 : decode cX1_spellNext 71 = .ok (.lload 5, 2) := by decide +kernel
theorem dX1_spellNext_73 : decode cX1_spellNext 73 = .ok (.lreturn, 1) := by decide +kernel
theorem dX1_spellNext_74 : decode cX1_spellNext 74 = .ok (.lload 5, 2) := by decide +kernel
theorem dX1_spellNext_76 : decode cX1_spellNext 76 = .ok (.lload 9, 2) := by decide +kernel
theorem dX1_spellNext_78 : decode cX1_spellNext 78 = .ok (.lsub, 1) := by decide +kernel
theorem dX1_spellNext_79 : decode cX1_spellNext 79 = .ok (.lstore 5, 2) := by decide +kernel
theorem dX1_spellNext_81 : decode cX1_spellNext 81 = .ok (.iinc 7 1, 3) := by decide +kernel
theorem dX1_spellNext_84 : decode cX1_spellNext 84 = .ok (.goto (-78), 3) := by decide +kernel
theorem dX1_spellNext_87 : decode cX1_spellNext 87 = .ok (.lload 5, 2) := by decide +kernel
theorem dX1_spellNext_89 : decode cX1_spellNext 89 = .ok (.lreturn, 1) := by decide +kernel
theorem dX1_readerOf_0 : decode cX1_readerOf 0 = .ok (.aload_n 0, 1) := by decide +kernel
theorem dX1_readerOf_1 : decode cX1_readerOf 1 = .ok (.getfield 15, 3) := by decide +kernel
theorem dX1_readerOf_4 : decode cX1_readerOf 4 = .ok (.iconst 1, 1) := by decide +kernel
theorem dX1_readerOf_5 : decode cX1_readerOf 5 = .ok (.isub, 1) := by decide +kernel
theorem dX1_readerOf_6 : decode cX1_readerOf 6 = .ok (.istore_n 2, 1) := by decide +kernel
theorem dX1_readerOf_7 : decode cX1_readerOf 7 = .ok (.iload_n 2, 1) := by decide +kernel
theorem dX1_readerOf_8 : decode cX1_readerOf 8 = .ok (.ifCond .lt 49, 3) := by decide +kernel
theorem dX1_readerOf_11 : decode cX1_readerOf 11 = .ok (.aload_n 0, 1) := by decide +kernel
theorem dX1_readerOf_12 : decode cX1_readerOf 12 = .ok (.getfield 36, 3) := by decide +kernel
theorem dX1_readerOf_15 : decode cX1_readerOf 15 = .ok (.aload_n 0, 1) := by decide +kernel
theorem dX1_readerOf_16 : decode cX1_readerOf 16 = .ok (.getfield 9, 3) := by decide +kernel
theorem dX1_readerOf_19 : decode cX1_readerOf 19 = .ok (.iload_n 2, 1) := by decide +kernel
theorem dX1_readerOf_20 : decode cX1_readerOf 20 = .ok (.iaload, 1) := by decide +kernel
theorem dX1_readerOf_21 : decode cX1_readerOf 21 = .ok (.invokevirtual 78, 3) := by decide +kernel
theorem dX1_readerOf_24 : decode cX1_readerOf 24 = .ok (.iconst 1, 1) := by decide +kernel
theorem dX1_readerOf_25 : decode cX1_readerOf 25 = .ok (.iload_n 1, 1) := by decide +kernel
theorem dX1_readerOf_26 : decode cX1_readerOf 26 = .ok (.ishl, 1) := by decide +kernel
theorem dX1_readerOf_27 : decode cX1_readerOf 27 = .ok (.iand, 1) := by decide +kernel
theorem dX1_readerOf_28 : decode cX1_readerOf 28 = .ok (.ifCond .eq 5, 3) := by decide +kernel
theorem dX1_readerOf_31 : decode cX1_readerOf 31 = .ok (.iload_n 2, 1) := by decide +kernel
theorem dX1_readerOf_32 : decode cX1_readerOf 32 = .ok (.ireturn, 1) := by decide +kernel
theorem dX1_readerOf_33 : decode cX1_readerOf 33 = .ok (.aload_n 0, 1) := by decide +kernel
theorem dX1_readerOf_34 : decode cX1_readerOf 34 = .ok (.getfield 36, 3) := by decide +kernel
theorem dX1_readerOf_37 : decode cX1_readerOf 37 = .ok (.aload_n 0, 1) := by decide +kernel
theorem dX1_readerOf_38 : decode cX1_readerOf 38 = .ok (.getfield 9, 3) := by decide +kernel
theorem dX1_readerOf_41 : decode cX1_readerOf 41 = .ok (.iload_n 2, 1) := by decide +kernel
theorem dX1_readerOf_42 : decode cX1_readerOf 42 = .ok (.iaload, 1) := by decide +kernel
theorem dX1_readerOf_43 : decode cX1_readerOf 43 = .ok (.invokevirtual 83, 3) := by decide +kernel
theorem dX1_readerOf_46 : decode cX1_readerOf 46 = .ok (.ifCond .ne 5, 3) := by decide +kernel
theorem dX1_readerOf_49 : decode cX1_readerOf 49 = .ok (.iconst (-1), 1) := by decide +kernel
theorem dX1_readerOf_50 : decode cX1_readerOf 50 = .ok (.ireturn, 1) := by decide +kernel
theorem dX1_readerOf_51 : decode cX1_readerOf 51 = .ok (.iinc 2 (-1), 3) := by decide +kernel
theorem dX1_readerOf_54 : decode cX1_readerOf 54 = .ok (.goto (-47), 3) := by decide +kernel
theorem dX1_readerOf_57 : decode cX1_readerOf 57 = .ok (.iconst (-1), 1) := by decide +kernel
theorem dX1_readerOf_58 : decode cX1_readerOf 58 = .ok (.ireturn, 1) := by decide +kernel
theorem dX1_goDown_0 : decode cX1_goDown 0 = .ok (.aload_n 0, 1) := by decide +kernel
theorem dX1_goDown_1 : decode cX1_goDown 1 = .ok (.iconst 0, 1) := by decide +kernel
theorem dX1_goDown_2 : decode cX1_goDown 2 = .ok (.putfield 26, 3) := by decide +kernel
theorem dX1_goDown_5 : decode cX1_goDown 5 = .ok (.iload_n 1, 1) := by decide +kernel
theorem dX1_goDown_6 : decode cX1_goDown 6 = .ok (.istore_n 3, 1) := by decide +kernel
theorem dX1_goDown_7 : decode cX1_goDown 7 = .ok (.iconst 0, 1) := by decide +kernel
theorem dX1_goDown_8 : decode cX1_goDown 8 = .ok (.istore 4, 2) := by decide +kernel
theorem dX1_goDown_10 : decode cX1_goDown 10 = .ok (.iload 4, 2) := by decide +kernel
theorem dX1_goDown_12 : decode cX1_goDown 12 = .ok (.bipush 48, 2) := by decide +kernel
theorem dX1_goDown_14 : decode cX1_goDown 14 = .ok (.if_icmp .ge 76, 3) := by decide +kernel
theorem dX1_goDown_17 : decode cX1_goDown 17 = .ok (.aload_n 0, 1) := by decide +kernel
theorem dX1_goDown_18 : decode cX1_goDown 18 = .ok (.getfield 32, 3) := by decide +kernel
theorem dX1_goDown_21 : decode cX1_goDown 21 = .ok (.iload_n 3, 1) := by decide +kernel
theorem dX1_goDown_22 : decode cX1_goDown 22 = .ok (.invokevirtual 87, 3) := by decide +kernel
theorem dX1_goDown_25 : decode cX1_goDown 25 = .ok (.iconst 2, 1) := by decide +kernel
theorem dX1_goDown_26 : decode cX1_goDown 26 = .ok (.if_icmp .eq 64, 3) := by decide +kernel
theorem dX1_goDown_29 : decode cX1_goDown 29 = .ok (.aload_n 0, 1) := by decide +kernel
theorem dX1_goDown_30 : decode cX1_goDown 30 = .ok (.getfield 32, 3) := by decide +kernel
theorem dX1_goDown_33 : decode cX1_goDown 33 = .ok (.iload_n 3, 1) := by decide +kernel
theorem dX1_goDown_34 : decode cX1_goDown 34 = .ok (.invokevirtual 87, 3) := by decide +kernel
theorem dX1_goDown_37 : decode cX1_goDown 37 = .ok (.iconst 3, 1) := by decide +kernel
theorem dX1_goDown_38 : decode cX1_goDown 38 = .ok (.if_icmp .ne 39, 3) := by decide +kernel
theorem dX1_goDown_41 : decode cX1_goDown 41 = .ok (.aload_n 0, 1) := by decide +kernel
theorem dX1_goDown_42 : decode cX1_goDown 42 = .ok (.getfield 26, 3) := by decide +kernel
theorem dX1_goDown_45 : decode cX1_goDown 45 = .ok (.bipush 23, 2) := by decide +kernel
theorem dX1_goDown_47 : decode cX1_goDown 47 = .ok (.if_icmp .ge 30, 3) := by decide +kernel
theorem dX1_goDown_50 : decode cX1_goDown 50 = .ok (.aload_n 0, 1) := by decide +kernel
theorem dX1_goDown_51 : decode cX1_goDown 51 = .ok (.getfield 23, 3) := by decide +kernel
theorem dX1_goDown_54 : decode cX1_goDown 54 = .ok (.aload_n 0, 1) := by decide +kernel
theorem dX1_goDown_55 : decode cX1_goDown 55 = .ok (.getfield 26, 3) := by decide +kernel
theorem dX1_goDown_58 : decode cX1_goDown 58 = .ok (.aload_n 0, 1) := by decide +kernel
theorem dX1_goDown_59 : decode cX1_goDown 59 = .ok (.getfield 32, 3) := by decide +kernel
theorem dX1_goDown_62 : decode cX1_goDown 62 = .ok (.iload_n 3, 1) := by decide +kernel
theorem dX1_goDown_63 : decode cX1_goDown 63 = .ok (.invokevirtual 92, 3) := by decide +kernel
theorem dX1_goDown_66 : decode cX1_goDown 66 = .ok (.iastore, 1) := by decide +kernel
theorem dX1_goDown_67 : decode cX1_goDown 67 = .ok (.aload_n 0, 1) := by decide +kernel
theorem dX1_goDown_68 : decode cX1_goDown 68 = .ok (.dup, 1) := by decide +kernel
theorem dX1_goDown_69 : decode cX1_goDown 69 = .ok (.getfield 26, 3) := by decide +kernel
theorem dX1_goDown_72 : decode cX1_goDown 72 = .ok (.iconst 1, 1) := by decide +kernel
theorem dX1_goDown_73 : decode cX1_goDown 73 = .ok (.iadd, 1) := by decide +kernel
theorem dX1_goDown_74 : decode cX1_goDown 74 = .ok (.putfield 26, 3) := by decide +kernel
theorem dX1_goDown_77 : decode cX1_goDown 77 = .ok (.aload_n 0, 1) := by decide +kernel
theorem dX1_goDown_78 : decode cX1_goDown 78 = .ok (.iload_n 3, 1) := by decide +kernel
theorem dX1_goDown_79 : decode cX1_goDown 79 = .ok (.iload_n 2, 1) := by decide +kernel
theorem dX1_goDown_80 : decode cX1_goDown 80 = .ok (.invokevirtual 95, 3) := by decide +kernel
theorem dX1_goDown_83 : decode cX1_goDown 83 = .ok (.istore_n 3, 1) := by decide +kernel
theorem dX1_goDown_84 : decode cX1_goDown 84 = .ok (.iinc 4 1, 3) := by decide +kernel
theorem dX1_goDown_87 : decode cX1_goDown 87 = .ok (.goto (-77), 3) := by decide +kernel
theorem dX1_goDown_90 : decode cX1_goDown 90 = .ok (.return_, 1) := by decide +kernel
theorem dX1_below_0 : decode cX1_below 0 = .ok (.aload_n 0, 1) := by decide +kernel
theorem dX1_below_1 : decode cX1_below 1 = .ok (.getfield 32, 3) := by decide +kernel
theorem dX1_below_4 : decode cX1_below 4 = .ok (.iload_n 1, 1) := by decide +kernel
theorem dX1_below_5 : decode cX1_below 5 = .ok (.invokevirtual 87, 3) := by decide +kernel
theorem dX1_below_8 : decode cX1_below 8 = .ok (.iconst 5, 1) := by decide +kernel
theorem dX1_below_9 : decode cX1_below 9 = .ok (.if_icmp .ne 12, 3) := by decide +kernel
theorem dX1_below_12 : decode cX1_below 12 = .ok (.aload_n 0, 1) := by decide +kernel
theorem dX1_below_13 : decode cX1_below 13 = .ok (.getfield 36, 3) := by decide +kernel
theorem dX1_below_16 : decode cX1_below 16 = .ok (.iload_n 1, 1) := by decide +kernel
theorem dX1_below_17 : decode cX1_below 17 = .ok (.invokevirtual 99, 3) := by decide +kernel
theorem dX1_below_20 : decode cX1_below 20 = .ok (.ireturn, 1) := by decide +kernel
theorem dX1_below_21 : decode cX1_below 21 = .ok (.aload_n 0, 1) := by decide +kernel
theorem dX1_below_22 : decode cX1_below 22 = .ok (.getfield 32, 3) := by decide +kernel
theorem dX1_below_25 : decode cX1_below 25 = .ok (.iload_n 1, 1) := by decide +kernel
theorem dX1_below_26 : decode cX1_below 26 = .ok (.invokevirtual 87, 3) := by decide +kernel
theorem dX1_below_29 : decode cX1_below 29 = .ok (.iconst 4, 1) := by decide +kernel
theorem dX1_below_30 : decode cX1_below 30 = .ok (.if_icmp .ne 27, 3) := by decide +kernel
theorem dX1_below_33 : decode cX1_below 33 = .ok (.aload_n 0, 1) := by decide +kernel
theorem dX1_below_34 : decode cX1_below 34 = .ok (.getfield 36, 3) := by decide +kernel
theorem dX1_below_37 : decode cX1_below 37 = .ok (.iload_n 1, 1) := by decide +kernel
theorem dX1_below_38 : decode cX1_below 38 = .ok (.iconst 1, 1) := by decide +kernel
theorem dX1_below_39 : decode cX1_below 39 = .ok (.iload_n 2, 1) := by decide +kernel
theorem dX1_below_40 : decode cX1_below 40 = .ok (.ishl, 1) := by decide +kernel
theorem dX1_below_41 : decode cX1_below 41 = .ok (.invokevirtual 102, 3) := by decide +kernel
theorem dX1_below_44 : decode cX1_below 44 = .ok (.iconst 1, 1) := by decide +kernel
theorem dX1_below_45 : decode cX1_below 45 = .ok (.if_icmp .ne 12, 3) := by decide +kernel
theorem dX1_below_48 : decode cX1_below 48 = .ok (.aload_n 0, 1) := by decide +kernel
theorem dX1_below_49 : decode cX1_below 49 = .ok (.getfield 32, 3) := by decide +kernel
theorem dX1_below_52 : decode cX1_below 52 = .ok (.iload_n 1, 1) := by decide +kernel
theorem dX1_below_53 : decode cX1_below 53 = .ok (.invokevirtual 92, 3) := by decide +kernel
theorem dX1_below_56 : decode cX1_below 56 = .ok (.ireturn, 1) := by decide +kernel
theorem dX1_below_57 : decode cX1_below 57 = .ok (.aload_n 0, 1) := by decide +kernel
theorem dX1_below_58 : decode cX1_below 58 = .ok (.getfield 32, 3) := by decide +kernel
theorem dX1_below_61 : decode cX1_below 61 = .ok (.iload_n 1, 1) := by decide +kernel
theorem dX1_below_62 : decode cX1_below 62 = .ok (.invokevirtual 105, 3) := by decide +kernel
theorem dX1_below_65 : decode cX1_below 65 = .ok (.ireturn, 1) := by decide +kernel
theorem dX1_wordsAhead_0 : decode cX1_wordsAhead 0 = .ok (.aload_n 0, 1) := by decide +kernel
theorem dX1_wordsAhead_1 : decode cX1_wordsAhead 1 = .ok (.getfield 19, 3) := by decide +kernel
theorem dX1_wordsAhead_4 : decode cX1_wordsAhead 4 = .ok (.iload_n 1, 1) := by decide +kernel
theorem dX1_wordsAhead_5 : decode cX1_wordsAhead 5 = .ok (.bipush 17, 2) := by decide +kernel
theorem dX1_wordsAhead_7 : decode cX1_wordsAhead 7 = .ok (.imul, 1) := by decide +kernel
theorem dX1_wordsAhead_8 : decode cX1_wordsAhead 8 = .ok (.aload_n 0, 1) := by decide +kernel
theorem dX1_wordsAhead_9 : decode cX1_wordsAhead 9 = .ok (.getfield 29, 3) := by decide +kernel
theorem dX1_wordsAhead_12 : decode cX1_wordsAhead 12 = .ok (.iconst 0, 1) := by decide +kernel
theorem dX1_wordsAhead_13 : decode cX1_wordsAhead 13 = .ok (.iload_n 2, 1) := by decide +kernel
theorem dX1_wordsAhead_14 : decode cX1_wordsAhead 14 = .ok (.iconst 1, 1) := by decide +kernel
theorem dX1_wordsAhead_15 : decode cX1_wordsAhead 15 = .ok (.iadd, 1) := by decide +kernel
theorem dX1_wordsAhead_16 : decode cX1_wordsAhead 16 = .ok (.invokestatic 108, 3) := by decide +kernel
theorem dX1_wordsAhead_19 : decode cX1_wordsAhead 19 = .ok (.iconst 0, 1) := by decide +kernel
theorem dX1_wordsAhead_20 : decode cX1_wordsAhead 20 = .ok (.istore_n 3, 1) := by decide +kernel
theorem dX1_wordsAhead_21 : decode cX1_wordsAhead 21 = .ok (.iload_n 3, 1) := by decide +kernel
theorem dX1_wordsAhead_22 : decode cX1_wordsAhead 22 = .ok (.aload_n 0, 1) := by decide +kernel
theorem dX1_wordsAhead_23 : decode cX1_wordsAhead 23 = .ok (.getfield 26, 3) := by decide +kernel
theorem dX1_wordsAhead_26 : decode cX1_wordsAhead 26 = .ok (.if_icmp .ge 28, 3) := by decide +kernel
theorem dX1_wordsAhead_29 : decode cX1_wordsAhead 29 = .ok (.aload_n 0, 1) := by decide +kernel
theorem dX1_wordsAhead_30 : decode cX1_wordsAhead 30 = .ok (.getfield 40, 3) := by decide +kernel
theorem dX1_wordsAhead_33 : decode cX1_wordsAhead 33 = .ok (.aload_n 0, 1) := by decide +kernel
theorem dX1_wordsAhead_34 : decode cX1_wordsAhead 34 = .ok (.getfield 29, 3) := by decide +kernel
theorem dX1_wordsAhead_37 : decode cX1_wordsAhead 37 = .ok (.iconst 0, 1) := by decide +kernel
theorem dX1_wordsAhead_38 : decode cX1_wordsAhead 38 = .ok (.aload_n 0, 1) := by decide +kernel
theorem dX1_wordsAhead_39 : decode cX1_wordsAhead 39 = .ok (.getfield 23, 3) := by decide +kernel
theorem dX1_wordsAhead_42 : decode cX1_wordsAhead 42 = .ok (.iload_n 3, 1) := by decide +kernel
theorem dX1_wordsAhead_43 : decode cX1_wordsAhead 43 = .ok (.iaload, 1) := by decide +kernel
theorem dX1_wordsAhead_44 : decode cX1_wordsAhead 44 = .ok (.iload_n 2, 1) := by decide +kernel
theorem dX1_wordsAhead_45 : decode cX1_wordsAhead 45 = .ok (.invokevirtual 114, 3) := by decide +kernel
theorem dX1_wordsAhead_48 : decode cX1_wordsAhead 48 = .ok (.iinc 3 1, 3) := by decide +kernel
theorem dX1_wordsAhead_51 : decode cX1_wordsAhead 51 = .ok (.goto (-30), 3) := by decide +kernel
theorem dX1_wordsAhead_54 : decode cX1_wordsAhead 54 = .ok (.aload_n 0, 1) := by decide +kernel
theorem dX1_wordsAhead_55 : decode cX1_wordsAhead 55 = .ok (.getfield 29, 3) := by decide +kernel
theorem dX1_wordsAhead_58 : decode cX1_wordsAhead 58 = .ok (.iload_n 2, 1) := by decide +kernel
theorem dX1_wordsAhead_59 : decode cX1_wordsAhead 59 = .ok (.laload, 1) := by decide +kernel
theorem dX1_wordsAhead_60 : decode cX1_wordsAhead 60 = .ok (.lreturn, 1) := by decide +kernel
theorem dX1_takeFresh_0 : decode cX1_takeFresh 0 = .ok (.aload_n 0, 1) := by decide +kernel
theorem dX1_takeFresh_1 : decode cX1_takeFresh 1 = .ok (.iload_n 1, 1) := by decide +kernel
theorem dX1_takeFresh_2 : decode cX1_takeFresh 2 = .ok (.putfield 15, 3) := by decide +kernel
theorem dX1_takeFresh_5 : decode cX1_takeFresh 5 = .ok (.iconst 0, 1) := by decide +kernel
theorem dX1_takeFresh_6 : decode cX1_takeFresh 6 = .ok (.istore_n 3, 1) := by decide +kernel
theorem dX1_takeFresh_7 : decode cX1_takeFresh 7 = .ok (.iload_n 3, 1) := by decide +kernel
theorem dX1_takeFresh_8 : decode cX1_takeFresh 8 = .ok (.aload_n 0, 1) := by decide +kernel
theorem dX1_takeFresh_9 : decode cX1_takeFresh 9 = .ok (.getfield 26, 3) := by decide +kernel
theorem dX1_takeFresh_12 : decode cX1_takeFresh 12 = .ok (.if_icmp .ge 20, 3) := by decide +kernel
theorem dX1_takeFresh_15 : decode cX1_takeFresh 15 = .ok (.aload_n 0, 1) := by decide +kernel
theorem dX1_takeFresh_16 : decode cX1_takeFresh 16 = .ok (.aload_n 0, 1) := by decide +kernel
theorem dX1_takeFresh_17 : decode cX1_takeFresh 17 = .ok (.getfield 23, 3) := by decide +kernel
theorem dX1_takeFresh_20 : decode cX1_takeFresh 20 = .ok (.iload_n 3, 1) := by decide +kernel
theorem dX1_takeFresh_21 : decode cX1_takeFresh 21 = .ok (.iaload, 1) := by decide +kernel
theorem dX1_takeFresh_22 : decode cX1_takeFresh 22 = .ok (.iload_n 2, 1) := by decide +kernel
theorem dX1_takeFresh_23 : decode cX1_takeFresh 23 = .ok (.invokevirtual 58, 3) := by decide +kernel
theorem dX1_takeFresh_26 : decode cX1_takeFresh 26 = .ok (.iinc 3 1, 3) := by decide +kernel
theorem dX1_takeFresh_29 : decode cX1_takeFresh 29 = .ok (.goto (-22), 3) := by decide +kernel
theorem dX1_takeFresh_32 : decode cX1_takeFresh 32 = .ok (.return_, 1) := by decide +kernel
theorem dX1_pileUp_0 : decode cX1_pileUp 0 = .ok (.aload_n 0, 1) := by decide +kernel
theorem dX1_pileUp_1 : decode cX1_pileUp 1 = .ok (.getfield 15, 3) := by decide +kernel
theorem dX1_pileUp_4 : decode cX1_pileUp 4 = .ok (.sipush 369, 3) := by decide +kernel
theorem dX1_pileUp_7 : decode cX1_pileUp 7 = .ok (.if_icmp .lt 4, 3) := by decide +kernel
theorem dX1_pileUp_10 : decode cX1_pileUp 10 = .ok (.return_, 1) := by decide +kernel
theorem dX1_pileUp_11 : decode cX1_pileUp 11 = .ok (.aload_n 0, 1) := by decide +kernel
theorem dX1_pileUp_12 : decode cX1_pileUp 12 = .ok (.getfield 15, 3) := by decide +kernel
theorem dX1_pileUp_15 : decode cX1_pileUp 15 = .ok (.iconst 1, 1) := by decide +kernel
theorem dX1_pileUp_16 : decode cX1_pileUp 16 = .ok (.iadd, 1) := by decide +kernel
theorem dX1_pileUp_17 : decode cX1_pileUp 17 = .ok (.bipush 17, 2) := by decide +kernel
theorem dX1_pileUp_19 : decode cX1_pileUp 19 = .ok (.imul, 1) := by decide +kernel
theorem dX1_pileUp_20 : decode cX1_pileUp 20 = .ok (.istore_n 3, 1) := by decide +kernel
theorem dX1_pileUp_21 : decode cX1_pileUp 21 = .ok (.aload_n 0, 1) := by decide +kernel
theorem dX1_pileUp_22 : decode cX1_pileUp 22 = .ok (.getfield 19, 3) := by decide +kernel
theorem dX1_pileUp_25 : decode cX1_pileUp 25 = .ok (.aload_n 0, 1) := by decide +kernel
theorem dX1_pileUp_26 : decode cX1_pileUp 26 = .ok (.getfield 15, 3) := by decide +kernel
theorem dX1_pileUp_29 : decode cX1_pileUp 29 = .ok (.bipush 17, 2) := by decide +kernel
theorem dX1_pileUp_31 : decode cX1_pileUp 31 = .ok (.imul, 1) := by decide +kernel
theorem dX1_pileUp_32 : decode cX1_pileUp 32 = .ok (.aload_n 0, 1) := by decide +kernel
theorem dX1_pileUp_33 : decode cX1_pileUp 33 = .ok (.getfield 19, 3) := by decide +kernel
theorem dX1_pileUp_36 : decode cX1_pileUp 36 = .ok (.iload_n 3, 1) := by decide +kernel
theorem dX1_pileUp_37 : decode cX1_pileUp 37 = .ok (.iload_n 2, 1) := by decide +kernel
theorem dX1_pileUp_38 : decode cX1_pileUp 38 = .ok (.iconst 1, 1) := by decide +kernel
theorem dX1_pileUp_39 : decode cX1_pileUp 39 = .ok (.iadd, 1) := by decide +kernel
theorem dX1_pileUp_40 : decode cX1_pileUp 40 = .ok (.invokestatic 108, 3) := by decide +kernel
theorem dX1_pileUp_43 : decode cX1_pileUp 43 = .ok (.aload_n 0, 1) := by decide +kernel
theorem dX1_pileUp_44 : decode cX1_pileUp 44 = .ok (.getfield 40, 3) := by decide +kernel
theorem dX1_pileUp_47 : decode cX1_pileUp 47 = .ok (.aload_n 0, 1) := by decide +kernel
theorem dX1_pileUp_48 : decode cX1_pileUp 48 = .ok (.getfield 19, 3) := by decide +kernel
theorem dX1_pileUp_51 : decode cX1_pileUp 51 = .ok (.iload_n 3, 1) := by decide +kernel
theorem dX1_pileUp_52 : decode cX1_pileUp 52 = .ok (.iload_n 1, 1) := by decide +kernel
theorem dX1_pileUp_53 : decode cX1_pileUp 53 = .ok (.iload_n 2, 1) := by decide +kernel
theorem dX1_pileUp_54 : decode cX1_pileUp 54 = .ok (.invokevirtual 114, 3) := by decide +kernel
theorem dX1_pileUp_57 : decode cX1_pileUp 57 = .ok (.aload_n 0, 1) := by decide +kernel
theorem dX1_pileUp_58 : decode cX1_pileUp 58 = .ok (.getfield 9, 3) := by decide +kernel
theorem dX1_pileUp_61 : decode cX1_pileUp 61 = .ok (.aload_n 0, 1) := by decide +kernel
theorem dX1_pileUp_62 : decode cX1_pileUp 62 = .ok (.getfield 15, 3) := by decide +kernel
theorem dX1_pileUp_65 : decode cX1_pileUp 65 = .ok (.iload_n 1, 1) := by decide +kernel
theorem dX1_pileUp_66 : decode cX1_pileUp 66 = .ok (.iastore, 1) := by decide +kernel
theorem dX1_pileUp_67 : decode cX1_pileUp 67 = .ok (.aload_n 0, 1) := by decide +kernel
theorem dX1_pileUp_68 : decode cX1_pileUp 68 = .ok (.dup, 1) := by decide +kernel
theorem dX1_pileUp_69 : decode cX1_pileUp 69 = .ok (.getfield 15, 3) := by decide +kernel
theorem dX1_pileUp_72 : decode cX1_pileUp 72 = .ok (.iconst 1, 1) := by decide +kernel
theorem dX1_pileUp_73 : decode cX1_pileUp 73 = .ok (.iadd, 1) := by decide +kernel
theorem dX1_pileUp_74 : decode cX1_pileUp 74 = .ok (.putfield 15, 3) := by decide +kernel
theorem dX1_pileUp_77 : decode cX1_pileUp 77 = .ok (.return_, 1) := by decide +kernel
theorem dX2_init_0 : decode cX2_init 0 = .ok (.aload_n 0, 1) := by decide +kernel
theorem dX2_init_1 : decode cX2_init 1 = .ok (.invokespecial 3, 3) := by decide +kernel
theorem dX2_init_4 : decode cX2_init 4 = .ok (.aload_n 0, 1) := by decide +kernel
theorem dX2_init_5 : decode cX2_init 5 = .ok (.sipush 256, 3) := by decide +kernel
theorem dX2_init_8 : decode cX2_init 8 = .ok (.newarray .long, 2) := by decide +kernel
theorem dX2_init_10 : decode cX2_init 10 = .ok (.putfield 9, 3) := by decide +kernel
theorem dX2_init_13 : decode cX2_init 13 = .ok (.aload_n 0, 1) := by decide +kernel
theorem dX2_init_14 : decode cX2_init 14 = .ok (.iconst 0, 1) := by decide +kernel
theorem dX2_init_15 : decode cX2_init 15 = .ok (.putfield 15, 3) := by decide +kernel
theorem dX2_init_18 : decode cX2_init 18 = .ok (.return_, 1) := by decide +kernel
theorem dX2_forgetAll_0 : decode cX2_forgetAll 0 = .ok (.aload_n 0, 1) := by decide +kernel
theorem dX2_forgetAll_1 : decode cX2_forgetAll 1 = .ok (.iconst 0, 1) := by decide +kernel
theorem dX2_forgetAll_2 : decode cX2_forgetAll 2 = .ok (.putfield 15, 3) := by decide +kernel
theorem dX2_forgetAll_5 : decode cX2_forgetAll 5 = .ok (.return_, 1) := by decide +kernel
theorem dX2_add_0 : decode cX2_add 0 = .ok (.aload_n 0, 1) := by decide +kernel
theorem dX2_add_1 : decode cX2_add 1 = .ok (.getfield 15, 3) := by decide +kernel
theorem dX2_add_4 : decode cX2_add 4 = .ok (.sipush 16384, 3) := by decide +kernel
theorem dX2_add_7 : decode cX2_add 7 = .ok (.if_icmp .lt 4, 3) := by decide +kernel
theorem dX2_add_10 : decode cX2_add 10 = .ok (.return_, 1) := by decide +kernel
theorem dX2_add_11 : decode cX2_add 11 = .ok (.aload_n 0, 1) := by decide +kernel
theorem dX2_add_12 : decode cX2_add 12 = .ok (.getfield 15, 3) := by decide +kernel
theorem dX2_add_15 : decode cX2_add 15 = .ok (.bipush 64, 2) := by decide +kernel
theorem dX2_add_17 : decode cX2_add 17 = .ok (.idiv, 1) := by decide +kernel
theorem dX2_add_18 : decode cX2_add 18 = .ok (.istore_n 2, 1) := by decide +kernel
theorem dX2_add_19 : decode cX2_add 19 = .ok (.lconst 1, 1) := by decide +kernel
theorem dX2_add_20 : decode cX2_add 20 = .ok (.aload_n 0, 1) := by decide +kernel
theorem dX2_add_21 : decode cX2_add 21 = .ok (.getfield 15, 3) := by decide +kernel
theorem dX2_add_24 : decode cX2_add 24 = .ok (.bipush 64, 2) := by decide +kernel
theorem dX2_add_26 : decode cX2_add 26 = .ok (.irem, 1) := by decide +kernel
theorem dX2_add_27 : decode cX2_add 27 = .ok (.lshl, 1) := by decide +kernel
theorem dX2_add_28 : decode cX2_add 28 = .ok (.lstore_n 3, 1) := by decide +kernel
theorem dX2_add_29 : decode cX2_add 29 = .ok (.aload_n 0, 1) := by decide +kernel
theorem dX2_add_30 : decode cX2_add 30 = .ok (.getfield 9, 3) := by decide +kernel
theorem dX2_add_33 : decode cX2_add 33 = .ok (.iload_n 2, 1) := by decide +kernel
theorem dX2_add_34 : decode cX2_add 34 = .ok (.iload_n 1, 1) := by decide +kernel
theorem dX2_add_35 : decode cX2_add 35 = .ok (.iconst 1, 1) := by decide +kernel
theorem dX2_add_36 : decode cX2_add 36 = .ok (.if_icmp .ne 14, 3) := by decide +kernel
theorem dX2_add_39 : decode cX2_add 39 = .ok (.aload_n 0, 1) := by decide +kernel
theorem dX2_add_40 : decode cX2_add 40 = .ok (.getfield 9, 3) := by decide +kernel
theorem dX2_add_43 : decode cX2_add 43 = .ok (.iload_n 2, 1) := by decide +kernel
theorem dX2_add_44 : decode cX2_add 44 = .ok (.laload, 1) := by decide +kernel
theorem dX2_add_45 : decode cX2_add 45 = .ok (.lload_n 3, 1) := by decide +kernel
theorem dX2_add_46 : decode cX2_add 46 = .ok (.lor, 1) := by decide +kernel
theorem dX2_add_47 : decode cX2_add 47 = .ok (.goto 15, 3) := by decide +kernel
theorem dX2_add_50 : decode cX2_add 50 = .ok (.aload_n 0, 1) := by decide +kernel
theorem dX2_add_51 : decode cX2_add 51 = .ok (.getfield 9, 3) := by decide +kernel
theorem dX2_add_54 : decode cX2_add 54 = .ok (.iload_n 2, 1) := by decide +kernel
theorem dX2_add_55 : decode cX2_add 55 = .ok (.laload, 1) := by decide +kernel
theorem dX2_add_56 : decode cX2_add 56 = .ok (.lload_n 3, 1) := by decide +kernel
theorem dX2_add_57 : decode cX2_add 57 = .ok (.ldc2_w 19, 3) := by decide +kernel
theorem dX2_add_60 : decode cX2_add 60 = .ok (.lxor, 1) := by decide +kernel
theorem dX2_add_61 : decode cX2_add 61 = .ok (.land, 1) := by decide +kernel
theorem dX2_add_62 : decode cX2_add 62 = .ok (.lastore, 1) := by decide +kernel
theorem dX2_add_63 : decode cX2_add 63 = .ok (.aload_n 0, 1) := by decide +kernel
theorem dX2_add_64 : decode cX2_add 64 = .ok (.dup, 1) := by decide +kernel
theorem dX2_add_65 : decode cX2_add 65 = .ok (.getfield 15, 3) := by decide +kernel
theorem dX2_add_68 : decode cX2_add 68 = .ok (.iconst 1, 1) := by decide +kernel
theorem dX2_add_69 : decode cX2_add 69 = .ok (.iadd, 1) := by decide +kernel
theorem dX2_add_70 : decode cX2_add 70 = .ok (.putfield 15, 3) := by decide +kernel
theorem dX2_add_73 : decode cX2_add 73 = .ok (.return_, 1) := by decide +kernel
theorem dX2_size_0 : decode cX2_size 0 = .ok (.aload_n 0, 1) := by decide +kernel
theorem dX2_size_1 : decode cX2_size 1 = .ok (.getfield 15, 3) := by decide +kernel
theorem dX2_size_4 : decode cX2_size 4 = .ok (.ireturn, 1) := by decide +kernel
theorem dX2_at_0 : decode cX2_at 0 = .ok (.aload_n 0, 1) := by decide +kernel
theorem dX2_at_1 : decode cX2_at 1 = .ok (.getfield 9, 3) := by decide +kernel
theorem dX2_at_4 : decode cX2_at 4 = .ok (.iload_n 1, 1) := by decide +kernel
theorem dX2_at_5 : decode cX2_at 5 = .ok (.bipush 64, 2) := by decide +kernel
theorem dX2_at_7 : decode cX2_at 7 = .ok (.idiv, 1) := by decide +kernel
theorem dX2_at_8 : decode cX2_at 8 = .ok (.laload, 1) := by decide +kernel
theorem dX2_at_9 : decode cX2_at 9 = .ok (.iload_n 1, 1) := by decide +kernel
theorem dX2_at_10 : decode cX2_at 10 = .ok (.bipush 64, 2) := by decide +kernel
theorem dX2_at_12 : decode cX2_at 12 = .ok (.irem, 1) := by decide +kernel
theorem dX2_at_13 : decode cX2_at 13 = .ok (.lushr, 1) := by decide +kernel
theorem dX2_at_14 : decode cX2_at 14 = .ok (.lconst 1, 1) := by decide +kernel
theorem dX2_at_15 : decode cX2_at 15 = .ok (.land, 1) := by decide +kernel
theorem dX2_at_16 : decode cX2_at 16 = .ok (.l2i, 1) := by decide +kernel
theorem dX2_at_17 : decode cX2_at 17 = .ok (.ireturn, 1) := by decide +kernel
theorem dX3_init_0 : decode cX3_init 0 = .ok (.aload_n 0, 1) := by decide +kernel
theorem dX3_init_1 : decode cX3_init 1 = .ok (.invokespecial 3, 3) := by decide +kernel
theorem dX3_init_4 : decode cX3_init 4 = .ok (.aload_n 0, 1) := by decide +kernel
theorem dX3_init_5 : decode cX3_init 5 = .ok (.bipush 48, 2) := by decide +kernel
theorem dX3_init_7 : decode cX3_init 7 = .ok (.bipush 17, 2) := by decide +kernel
theorem dX3_init_9 : decode cX3_init 9 = .ok (.multianewarray 9 2, 4) := by decide +kernel
theorem dX3_init_13 : decode cX3_init 13 = .ok (.putfield 11, 3) := by decide +kernel
theorem dX3_init_16 : decode cX3_init 16 = .ok (.aload_n 0, 1) := by decide +kernel
theorem dX3_init_17 : decode cX3_init 17 = .ok (.aload_n 1, 1) := by decide +kernel
theorem dX3_init_18 : decode cX3_init 18 = .ok (.putfield 16, 3) := by decide +kernel
theorem dX3_init_21 : decode cX3_init 21 = .ok (.aload_n 0, 1) := by decide +kernel
theorem dX3_init_22 : decode cX3_init 22 = .ok (.aload_n 2, 1) := by decide +kernel
theorem dX3_init_23 : decode cX3_init 23 = .ok (.putfield 20, 3) := by decide +kernel
theorem dX3_init_26 : decode cX3_init 26 = .ok (.return_, 1) := by decide +kernel
theorem dX3_words_0 : decode cX3_words 0 = .ok (.aload_n 0, 1) := by decide +kernel
theorem dX3_words_1 : decode cX3_words 1 = .ok (.getfield 11, 3) := by decide +kernel
theorem dX3_words_4 : decode cX3_words 4 = .ok (.iload_n 1, 1) := by decide +kernel
theorem dX3_words_5 : decode cX3_words 5 = .ok (.aaload, 1) := by decide +kernel
theorem dX3_words_6 : decode cX3_words 6 = .ok (.iload_n 2, 1) := by decide +kernel
theorem dX3_words_7 : decode cX3_words 7 = .ok (.laload, 1) := by decide +kernel
theorem dX3_words_8 : decode cX3_words 8 = .ok (.lreturn, 1) := by decide +kernel
theorem dX3_countTo_0 : decode cX3_countTo 0 = .ok (.iconst 0, 1) := by decide +kernel
theorem dX3_countTo_1 : decode cX3_countTo 1 = .ok (.istore_n 2, 1) := by decide +kernel
theorem dX3_countTo_2 : decode cX3_countTo 2 = .ok (.iload_n 2, 1) := by decide +kernel
theorem dX3_countTo_3 : decode cX3_countTo 3 = .ok (.iload_n 1, 1) := by decide +kernel
theorem dX3_countTo_4 : decode cX3_countTo 4 = .ok (.if_icmp .gt 14, 3) := by decide +kernel
theorem dX3_countTo_7 : decode cX3_countTo 7 = .ok (.aload_n 0, 1) := by decide +kernel
theorem dX3_countTo_8 : decode cX3_countTo 8 = .ok (.iload_n 2, 1) := by decide +kernel
theorem dX3_countTo_9 : decode cX3_countTo 9 = .ok (.invokevirtual 24, 3) := by decide +kernel
theorem dX3_countTo_12 : decode cX3_countTo 12 = .ok (.iinc 2 1, 3) := by decide +kernel
theorem dX3_countTo_15 : decode cX3_countTo 15 = .ok (.goto (-13), 3) := by decide +kernel
theorem dX3_countTo_18 : decode cX3_countTo 18 = .ok (.return_, 1) := by decide +kernel
theorem dX3_lengthen_0 : decode cX3_lengthen 0 = .ok (.iload 4, 2) := by decide +kernel
theorem dX3_lengthen_2 : decode cX3_lengthen 2 = .ok (.istore 5, 2) := by decide +kernel
theorem dX3_lengthen_4 : decode cX3_lengthen 4 = .ok (.iload 5, 2) := by decide +kernel
theorem dX3_lengthen_6 : decode cX3_lengthen 6 = .ok (.ifCond .lt 60, 3) := by decide +kernel
theorem dX3_lengthen_9 : decode cX3_lengthen 9 = .ok (.lconst 0, 1) := by decide +kernel
theorem dX3_lengthen_10 : decode cX3_lengthen 10 = .ok (.lstore 6, 2) := by decide +kernel
theorem dX3_lengthen_12 : decode cX3_lengthen 12 = .ok (.iconst 0, 1) := by decide +kernel
theorem dX3_lengthen_13 : decode cX3_lengthen 13 = .ok (.istore 8, 2) := by decide +kernel
theorem dX3_lengthen_15 : decode cX3_lengthen 15 = .ok (.iload 8, 2) := by decide +kernel
theorem dX3_lengthen_17 : decode cX3_lengthen 17 = .ok (.iload 5, 2) := by decide +kernel
theorem dX3_lengthen_19 : decode cX3_lengthen 19 = .ok (.if_icmp .gt 33, 3) := by decide +kernel
theorem dX3_lengthen_22 : decode cX3_lengthen 22 = .ok (.lload 6, 2) := by decide +kernel
theorem dX3_lengthen_24 : decode cX3_lengthen 24 = .ok (.aload_n 1, 1) := by decide +kernel
theorem dX3_lengthen_25 : decode cX3_lengthen 25 = .ok (.iload_n 2, 1) := by decide +kernel
theorem dX3_lengthen_26 : decode cX3_lengthen 26 = .ok (.iload 5, 2) := by decide +kernel
theorem dX3_lengthen_28 : decode cX3_lengthen 28 = .ok (.iadd, 1) := by decide +kernel
theorem dX3_lengthen_29 : decode cX3_lengthen 29 = .ok (.iload 8, 2) := by decide +kernel
theorem dX3_lengthen_31 : decode cX3_lengthen 31 = .ok (.isub, 1) := by decide +kernel
theorem dX3_lengthen_32 : decode cX3_lengthen 32 = .ok (.laload, 1) := by decide +kernel
theorem dX3_lengthen_33 : decode cX3_lengthen 33 = .ok (.aload_n 0, 1) := by decide +kernel
theorem dX3_lengthen_34 : decode cX3_lengthen 34 = .ok (.getfield 11, 3) := by decide +kernel
theorem dX3_lengthen_37 : decode cX3_lengthen 37 = .ok (.iload_n 3, 1) := by decide +kernel
theorem dX3_lengthen_38 : decode cX3_lengthen 38 = .ok (.aaload, 1) := by decide +kernel
theorem dX3_lengthen_39 : decode cX3_lengthen 39 = .ok (.iload 8, 2) := by decide +kernel
theorem dX3_lengthen_41 : decode cX3_lengthen 41 = .ok (.laload, 1) := by decide +kernel
theorem dX3_lengthen_42 : decode cX3_lengthen 42 = .ok (.lmul, 1) := by decide +kernel
theorem dX3_lengthen_43 : decode cX3_lengthen 43 = .ok (.ladd, 1) := by decide +kernel
theorem dX3_lengthen_44 : decode cX3_lengthen 44 = .ok (.lstore 6, 2) := by decide +kernel
theorem dX3_lengthen_46 : decode cX3_lengthen 46 = .ok (.iinc 8 1, 3) := by decide +kernel
theorem dX3_lengthen_49 : decode cX3_lengthen 49 = .ok (.goto (-34), 3) := by decide +kernel
theorem dX3_lengthen_52 : decode cX3_lengthen 52 = .ok (.aload_n 1, 1) := by decide +kernel
theorem dX3_lengthen_53 : decode cX3_lengthen 53 = .ok (.iload_n 2, 1) := by decide +kernel
theorem dX3_lengthen_54 : decode cX3_lengthen 54 = .ok (.iload 5, 2) := by decide +kernel
theorem dX3_lengthen_56 : decode cX3_lengthen 56 = .ok (.iadd, 1) := by decide +kernel
theorem dX3_lengthen_57 : decode cX3_lengthen 57 = .ok (.lload 6, 2) := by decide +kernel
theorem dX3_lengthen_59 : decode cX3_lengthen 59 = .ok (.lastore, 1) := by decide +kernel
theorem dX3_lengthen_60 : decode cX3_lengthen 60 = .ok (.iinc 5 (-1), 3) := by decide +kernel
theorem dX3_lengthen_63 : decode cX3_lengthen 63 = .ok (.goto (-59), 3) := by decide +kernel
theorem dX3_lengthen_66 : decode cX3_lengthen 66 = .ok (.return_, 1) := by decide +kernel
theorem dX3_countLength_0 : decode cX3_countLength 0 = .ok (.iconst 0, 1) := by decide +kernel
theorem dX3_countLength_1 : decode cX3_countLength 1 = .ok (.istore_n 2, 1) := by decide +kernel
theorem dX3_countLength_2 : decode cX3_countLength 2 = .ok (.iload_n 2, 1) := by decide +kernel
theorem dX3_countLength_3 : decode cX3_countLength 3 = .ok (.aload_n 0, 1) := by decide +kernel
theorem dX3_countLength_4 : decode cX3_countLength 4 = .ok (.getfield 20, 3) := by decide +kernel
theorem dX3_countLength_7 : decode cX3_countLength 7 = .ok (.invokevirtual 28, 3) := by decide +kernel
theorem dX3_countLength_10 : decode cX3_countLength 10 = .ok (.if_icmp .ge 25, 3) := by decide +kernel
theorem dX3_countLength_13 : decode cX3_countLength 13 = .ok (.aload_n 0, 1) := by decide +kernel
theorem dX3_countLength_14 : decode cX3_countLength 14 = .ok (.getfield 11, 3) := by decide +kernel
theorem dX3_countLength_17 : decode cX3_countLength 17 = .ok (.aload_n 0, 1) := by decide +kernel
theorem dX3_countLength_18 : decode cX3_countLength 18 = .ok (.getfield 20, 3) := by decide +kernel
theorem dX3_countLength_21 : decode cX3_countLength 21 = .ok (.iload_n 2, 1) := by decide +kernel
theorem dX3_countLength_22 : decode cX3_countLength 22 = .ok (.invokevirtual 34, 3) := by decide +kernel
theorem dX3_countLength_25 : decode cX3_countLength 25 = .ok (.aaload, 1) := by decide +kernel
theorem dX3_countLength_26 : decode cX3_countLength 26 = .ok (.iload_n 1, 1) := by decide +kernel
theorem dX3_countLength_27 : decode cX3_countLength 27 = .ok (.lconst 0, 1) := by decide +kernel
theorem dX3_countLength_28 : decode cX3_countLength 28 = .ok (.lastore, 1) := by decide +kernel
theorem dX3_countLength_29 : decode cX3_countLength 29 = .ok (.iinc 2 1, 3) := by decide +kernel
theorem dX3_countLength_32 : decode cX3_countLength 32 = .ok (.goto (-30), 3) := by decide +kernel
theorem dX3_countLength_35 : decode cX3_countLength 35 = .ok (.iconst 1, 1) := by decide +kernel
theorem dX3_countLength_36 : decode cX3_countLength 36 = .ok (.istore_n 2, 1) := by decide +kernel
theorem dX3_countLength_37 : decode cX3_countLength 37 = .ok (.iconst 0, 1) := by decide +kernel
theorem dX3_countLength_38 : decode cX3_countLength 38 = .ok (.istore_n 3, 1) := by decide +kernel
theorem dX3_countLength_39 : decode cX3_countLength 39 = .ok (.iload_n 2, 1) := by decide +kernel
theorem dX3_countLength_40 : decode cX3_countLength 40 = .ok (.ifCond .eq 94, 3) := by decide +kernel
theorem dX3_countLength_43 : decode cX3_countLength 43 = .ok (.iload_n 3, 1) := by decide +kernel
theorem dX3_countLength_44 : decode cX3_countLength 44 = .ok (.bipush 48, 2) := by decide +kernel
theorem dX3_countLength_46 : decode cX3_countLength 46 = .ok (.if_icmp .gt 88, 3) := by decide +kernel
theorem dX3_countLength_49 : decode cX3_countLength 49 = .ok (.iconst 0, 1) := by decide +kernel
theorem dX3_countLength_50 : decode cX3_countLength 50 = .ok (.istore_n 2, 1) := by decide +kernel
theorem dX3_countLength_51 : decode cX3_countLength 51 = .ok (.iconst 0, 1) := by decide +kernel
theorem dX3_countLength_52 : decode cX3_countLength 52 = .ok (.istore 4, 2) := by decide +kernel
theorem dX3_countLength_54 : decode cX3_countLength 54 = .ok (.iload 4, 2) := by decide +kernel
theorem dX3_countLength_56 : decode cX3_countLength 56 = .ok (.aload_n 0, 1) := by decide +kernel
theorem dX3_countLength_57 : decode cX3_countLength 57 = .ok (.getfield 20, 3) := by decide +kernel
theorem dX3_countLength_60 : decode cX3_countLength 60 = .ok (.invokevirtual 28, 3) := by decide +kernel
theorem dX3_countLength_63 : decode cX3_countLength 63 = .ok (.if_icmp .ge 65, 3) := by decide +kernel
theorem dX3_countLength_66 : decode cX3_countLength 66 = .ok (.aload_n 0, 1) := by decide +kernel
theorem dX3_countLength_67 : decode cX3_countLength 67 = .ok (.getfield 20, 3) := by decide +kernel
theorem dX3_countLength_70 : decode cX3_countLength 70 = .ok (.iload 4, 2) := by decide +kernel
theorem dX3_countLength_72 : decode cX3_countLength 72 = .ok (.invokevirtual 34, 3) := by decide +kernel
theorem dX3_countLength_75 : decode cX3_countLength 75 = .ok (.istore 5, 2) := by decide +kernel
theorem dX3_countLength_77 : decode cX3_countLength 77 = .ok (.aload_n 0, 1) := by decide +kernel
theorem dX3_countLength_78 : decode cX3_countLength 78 = .ok (.iload 5, 2) := by decide +kernel
theorem dX3_countLength_80 : decode cX3_countLength 80 = .ok (.iload_n 1, 1) := by decide +kernel
theorem dX3_countLength_81 : decode cX3_countLength 81 = .ok (.invokevirtual 38, 3) := by decide +kernel
theorem dX3_countLength_84 : decode cX3_countLength 84 = .ok (.lstore 6, 2) := by decide +kernel
theorem dX3_countLength_86 : decode cX3_countLength 86 = .ok (.iload_n 2, 1) := by decide +kernel
theorem dX3_countLength_87 : decode cX3_countLength 87 = .ok (.ifCond .ne 18, 3) := by decide +kernel
theorem dX3_countLength_90 : decode cX3_countLength 90 = .ok (.lload 6, 2) := by decide +kernel
theorem dX3_countLength_92 : decode cX3_countLength 92 = .ok (.aload_n 0, 1) := by decide +kernel
theorem dX3_countLength_93 : decode cX3_countLength 93 = .ok (.getfield 11, 3) := by decide +kernel
theorem dX3_countLength_96 : decode cX3_countLength 96 = .ok (.iload 5, 2) := by decide +kernel
theorem dX3_countLength_98 : decode cX3_countLength 98 = .ok (.aaload, 1) := by decide +kernel
theorem dX3_countLength_99 : decode cX3_countLength 99 = .ok (.iload_n 1, 1) := by decide +kernel
theorem dX3_countLength_100 : decode cX3_countLength 100 = .ok (.laload, 1) := by decide +kernel
theorem dX3_countLength_101 : decode cX3_countLength 101 = .ok (.lcmp, 1) := by decide +kernel
theorem dX3_countLength_102 : decode cX3_countLength 102 = .ok (.ifCond .eq 7, 3) := by decide +kernel
theorem dX3_countLength_105 : decode cX3_countLength 105 = .ok (.iconst 1, 1) := by decide +kernel
theorem dX3_countLength_106 : decode cX3_countLength 106 = .ok (.goto 4, 3) := by decide +kernel
theorem dX3_countLength_109 : decode cX3_countLength 109 = .ok (.iconst 0, 1) := by decide +kernel
theorem dX3_countLength_110 : decode cX3_countLength 110 = .ok (.istore_n 2, 1) := by decide +kernel
theorem dX3_countLength_111 : decode cX3_countLength 111 = .ok (.aload_n 0, 1) := by decide +kernel
theorem dX3_countLength_112 : decode cX3_countLength 112 = .ok (.getfield 11, 3) := by decide +kernel
theorem dX3_countLength_115 : decode cX3_countLength 115 = .ok (.iload 5, 2) := by decide +kernel
theorem dX3_countLength_117 : decode cX3_countLength 117 = .ok (.aaload, 1) := by decide +kernel
theorem dX3_countLength_118 : decode cX3_countLength 118 = .ok (.iload_n 1, 1) := by decide +kernel
theorem dX3_countLength_119 : decode cX3_countLength 119 = .ok (.lload 6, 2) := by decide +kernel
theorem dX3_countLength_121 : decode cX3_countLength 121 = .ok (.lastore, 1) := by decide +kernel
theorem dX3_countLength_122 : decode cX3_countLength 122 = .ok (.iinc 4 1, 3) := by decide +kernel
theorem dX3_countLength_125 : decode cX3_countLength 125 = .ok (.goto (-71), 3) := by decide +kernel
theorem dX3_countLength_128 : decode cX3_countLength 128 = .ok (.iinc 3 1, 3) := by decide +kernel
theorem dX3_countLength_131 : decode cX3_countLength 131 = .ok (.goto (-92), 3) := by decide +kernel
theorem dX3_countLength_134 : decode cX3_countLength 134 = .ok (.return_, 1) := by decide +kernel
theorem dX3_wordsByParts_0 : decode cX3_wordsByParts 0 = .ok (.aload_n 0, 1) := by decide +kernel
theorem dX3_wordsByParts_1 : decode cX3_wordsByParts 1 = .ok (.getfield 16, 3) := by decide +kernel
theorem dX3_wordsByParts_4 : decode cX3_wordsByParts 4 = .ok (.iload_n 1, 1) := by decide +kernel
theorem dX3_wordsByParts_5 : decode cX3_wordsByParts 5 = .ok (.invokevirtual 42, 3) := by decide +kernel
theorem dX3_wordsByParts_8 : decode cX3_wordsByParts 8 = .ok (.tableswitch 151 0 6 #[44, 151, 54, 65, 87, 119, 135], 44) := by decide +kernel
theorem dX3_wordsByParts_52 : decode cX3_wordsByParts 52 = .ok (.iload_n 2, 1) := by decide +kernel
theorem dX3_wordsByParts_53 : decode cX3_wordsByParts 53 = .ok (.ifCond .ne 7, 3) := by decide +kernel
theorem dX3_wordsByParts_56 : decode cX3_wordsByParts 56 = .ok (.lconst 1, 1) := by decide +kernel
theorem dX3_wordsByParts_57 : decode cX3_wordsByParts 57 = .ok (.goto 4, 3) := by decide +kernel
theorem dX3_wordsByParts_60 : decode cX3_wordsByParts 60 = .ok (.lconst 0, 1) := by decide +kernel
theorem dX3_wordsByParts_61 : decode cX3_wordsByParts 61 = .ok (.lreturn, 1) := by decide +kernel
theorem dX3_wordsByParts_62 : decode cX3_wordsByParts 62 = .ok (.iload_n 2, 1) := by decide +kernel
theorem dX3_wordsByParts_63 : decode cX3_wordsByParts 63 = .ok (.iconst 1, 1) := by decide +kernel
theorem dX3_wordsByParts_64 : decode cX3_wordsByParts 64 = .ok (.if_icmp .ne 7, 3) := by decide +kernel
theorem dX3_wordsByParts_67 : decode cX3_wordsByParts 67 = .ok (.lconst 1, 1) := by decide +kernel
theorem dX3_wordsByParts_68 : decode cX3_wordsByParts 68 = .ok (.goto 4, 3) := by decide +kernel
theorem dX3_wordsByParts_71 : decode cX3_wordsByParts 71 = .ok (.lconst 0, 1) := by decide +kernel
theorem dX3_wordsByParts_72 : decode cX3_wordsByParts 72 = .ok (.lreturn, 1) := by decide +kernel
theorem dX3_wordsByParts_73 : decode cX3_wordsByParts 73 = .ok (.aload_n 0, 1) := by decide +kernel
theorem dX3_wordsByParts_74 : decode cX3_wordsByParts 74 = .ok (.aload_n 0, 1) := by decide +kernel
theorem dX3_wordsByParts_75 : decode cX3_wordsByParts 75 = .ok (.getfield 16, 3) := by decide +kernel
theorem dX3_wordsByParts_78 : decode cX3_wordsByParts 78 = .ok (.iload_n 1, 1) := by decide +kernel
theorem dX3_wordsByParts_79 : decode cX3_wordsByParts 79 = .ok (.invokevirtual 47, 3) := by decide +kernel
theorem dX3_wordsByParts_82 : decode cX3_wordsByParts 82 = .ok (.aload_n 0, 1) := by decide +kernel
theorem dX3_wordsByParts_83 : decode cX3_wordsByParts 83 = .ok (.getfield 16, 3) := by decide +kernel
theorem dX3_wordsByParts_86 : decode cX3_wordsByParts 86 = .ok (.iload_n 1, 1) := by decide +kernel
theorem dX3_wordsByParts_87 : decode cX3_wordsByParts 87 = .ok (.invokevirtual 50, 3) := by decide +kernel
theorem dX3_wordsByParts_90 : decode cX3_wordsByParts 90 = .ok (.iload_n 2, 1) := by decide +kernel
theorem dX3_wordsByParts_91 : decode cX3_wordsByParts 91 = .ok (.invokevirtual 53, 3) := by decide +kernel
theorem dX3_wordsByParts_94 : decode cX3_wordsByParts 94 = .ok (.lreturn, 1) := by decide +kernel
theorem dX3_wordsByParts_95 : decode cX3_wordsByParts 95 = .ok (.aload_n 0, 1) := by decide +kernel
theorem dX3_wordsByParts_96 : decode cX3_wordsByParts 96 = .ok (.getfield 11, 3) := by decide +kernel
theorem dX3_wordsByParts_99 : decode cX3_wordsByParts 99 = .ok (.aload_n 0, 1) := by decide +kernel
theorem dX3_wordsByParts_100 : decode cX3_wordsByParts 100 = .ok (.getfield 16, 3) := by decide +kernel
theorem dX3_wordsByParts_103 : decode cX3_wordsByParts 103 = .ok (.iload_n 1, 1) := by decide +kernel
theorem dX3_wordsByParts_104 : decode cX3_wordsByParts 104 = .ok (.invokevirtual 47, 3) := by decide +kernel
theorem dX3_wordsByParts_107 : decode cX3_wordsByParts 107 = .ok (.aaload, 1) := by decide +kernel
theorem dX3_wordsByParts_108 : decode cX3_wordsByParts 108 = .ok (.iload_n 2, 1) := by decide +kernel
theorem dX3_wordsByParts_109 : decode cX3_wordsByParts 109 = .ok (.laload, 1) := by decide +kernel
theorem dX3_wordsByParts_110 : decode cX3_wordsByParts 110 = .ok (.aload_n 0, 1) := by decide +kernel
theorem dX3_wordsByParts_111 : decode cX3_wordsByParts 111 = .ok (.getfield 11, 3) := by decide +kernel
theorem dX3_wordsByParts_114 : decode cX3_wordsByParts 114 = .ok (.aload_n 0, 1) := by decide +kernel
theorem dX3_wordsByParts_115 : decode cX3_wordsByParts 115 = .ok (.getfield 16, 3) := by decide +kernel
theorem dX3_wordsByParts_118 : decode cX3_wordsByParts 118 = .ok (.iload_n 1, 1) := by decide +kernel
theorem dX3_wordsByParts_119 : decode cX3_wordsByParts 119 = .ok (.invokevirtual 50, 3) := by decide +kernel
theorem dX3_wordsByParts_122 : decode cX3_wordsByParts 122 = .ok (.aaload, 1) := by decide +kernel
theorem dX3_wordsByParts_123 : decode cX3_wordsByParts 123 = .ok (.iload_n 2, 1) := by decide +kernel
theorem dX3_wordsByParts_124 : decode cX3_wordsByParts 124 = .ok (.laload, 1) := by decide +kernel
theorem dX3_wordsByParts_125 : decode cX3_wordsByParts 125 = .ok (.ladd, 1) := by decide +kernel
theorem dX3_wordsByParts_126 : decode cX3_wordsByParts 126 = .ok (.lreturn, 1) := by decide +kernel
theorem dX3_wordsByParts_127 : decode cX3_wordsByParts 127 = .ok (.aload_n 0, 1) := by decide +kernel
theorem dX3_wordsByParts_128 : decode cX3_wordsByParts 128 = .ok (.getfield 11, 3) := by decide +kernel
theorem dX3_wordsByParts_131 : decode cX3_wordsByParts 131 = .ok (.aload_n 0, 1) := by decide +kernel
theorem dX3_wordsByParts_132 : decode cX3_wordsByParts 132 = .ok (.getfield 20, 3) := by decide +kernel
theorem dX3_wordsByParts_135 : decode cX3_wordsByParts 135 = .ok (.iload_n 1, 1) := by decide +kernel
theorem dX3_wordsByParts_136 : decode cX3_wordsByParts 136 = .ok (.invokevirtual 57, 3) := by decide +kernel
theorem dX3_wordsByParts_139 : decode cX3_wordsByParts 139 = .ok (.aaload, 1) := by decide +kernel
theorem dX3_wordsByParts_140 : decode cX3_wordsByParts 140 = .ok (.iload_n 2, 1) := by decide +kernel
theorem dX3_wordsByParts_141 : decode cX3_wordsByParts 141 = .ok (.laload, 1) := by decide +kernel
theorem dX3_wordsByParts_142 : decode cX3_wordsByParts 142 = .ok (.lreturn, 1) := by decide +kernel
theorem dX3_wordsByParts_143 : decode cX3_wordsByParts 143 = .ok (.aload_n 0, 1) := by decide +kernel
theorem dX3_wordsByParts_144 : decode cX3_wordsByParts 144 = .ok (.getfield 11, 3) := by decide +kernel
theorem dX3_wordsByParts_147 : decode cX3_wordsByParts 147 = .ok (.aload_n 0, 1) := by decide +kernel
theorem dX3_wordsByParts_148 : decode cX3_wordsByParts 148 = .ok (.getfield 16, 3) := by decide +kernel
theorem dX3_wordsByParts_151 : decode cX3_wordsByParts 151 = .ok (.iload_n 1, 1) := by decide +kernel
theorem dX3_wordsByParts_152 : decode cX3_wordsByParts 152 = .ok (.invokevirtual 47, 3) := by decide +kernel
theorem dX3_wordsByParts_155 : decode cX3_wordsByParts 155 = .ok (.aaload, 1) := by decide +kernel
theorem dX3_wordsByParts_156 : decode cX3_wordsByParts 156 = .ok (.iload_n 2, 1) := by decide +kernel
theorem dX3_wordsByParts_157 : decode cX3_wordsByParts 157 = .ok (.laload, 1) := by decide +kernel
theorem dX3_wordsByParts_158 : decode cX3_wordsByParts 158 = .ok (.lreturn, 1) := by decide +kernel
theorem dX3_wordsByParts_159 : decode cX3_wordsByParts 159 = .ok (.lconst 0, 1) := by decide +kernel
theorem dX3_wordsByParts_160 : decode cX3_wordsByParts 160 = .ok (.lreturn, 1) := by decide +kernel
theorem dX3_wordsOfPair_0 : decode cX3_wordsOfPair 0 = .ok (.lconst 0, 1) := by decide +kernel
theorem dX3_wordsOfPair_1 : decode cX3_wordsOfPair 1 = .ok (.lstore 4, 2) := by decide +kernel
theorem dX3_wordsOfPair_3 : decode cX3_wordsOfPair 3 = .ok (.iconst 0, 1) := by decide +kernel
theorem dX3_wordsOfPair_4 : decode cX3_wordsOfPair 4 = .ok (.istore 6, 2) := by decide +kernel
theorem dX3_wordsOfPair_6 : decode cX3_wordsOfPair 6 = .ok (.iload 6, 2) := by decide +kernel
theorem dX3_wordsOfPair_8 : decode cX3_wordsOfPair 8 = .ok (.iload_n 3, 1) := by decide +kernel
theorem dX3_wordsOfPair_9 : decode cX3_wordsOfPair 9 = .ok (.if_icmp .gt 35, 3) := by decide +kernel
theorem dX3_wordsOfPair_12 : decode cX3_wordsOfPair 12 = .ok (.lload 4, 2) := by decide +kernel
theorem dX3_wordsOfPair_14 : decode cX3_wordsOfPair 14 = .ok (.aload_n 0, 1) := by decide +kernel
theorem dX3_wordsOfPair_15 : decode cX3_wordsOfPair 15 = .ok (.getfield 11, 3) := by decide +kernel
theorem dX3_wordsOfPair_18 : decode cX3_wordsOfPair 18 = .ok (.iload_n 1, 1) := by decide +kernel
theorem dX3_wordsOfPair_19 : decode cX3_wordsOfPair 19 = .ok (.aaload, 1) := by decide +kernel
theorem dX3_wordsOfPair_20 : decode cX3_wordsOfPair 20 = .ok (.iload 6, 2) := by decide +kernel
theorem dX3_wordsOfPair_22 : decode cX3_wordsOfPair 22 = .ok (.laload, 1) := by decide +kernel
theorem dX3_wordsOfPair_23 : decode cX3_wordsOfPair 23 = .ok (.aload_n 0, 1) := by decide +kernel
theorem dX3_wordsOfPair_24 : decode cX3_wordsOfPair 24 = .ok (.getfield 11, 3) := by decide +kernel
theorem dX3_wordsOfPair_27 : decode cX3_wordsOfPair 27 = .ok (.iload_n 2, 1) := by decide +kernel
theorem dX3_wordsOfPair_28 : decode cX3_wordsOfPair 28 = .ok (.aaload, 1) := by decide +kernel
theorem dX3_wordsOfPair_29 : decode cX3_wordsOfPair 29 = .ok (.iload_n 3, 1) := by decide +kernel
theorem dX3_wordsOfPair_30 : decode cX3_wordsOfPair 30 = .ok (.iload 6, 2) := by decide +kernel
theorem dX3_wordsOfPair_32 : decode cX3_wordsOfPair 32 = .ok (.isub, 1) := by decide +kernel
theorem dX3_wordsOfPair_33 : decode cX3_wordsOfPair 33 = .ok (.laload, 1) := by decide +kernel
theorem dX3_wordsOfPair_34 : decode cX3_wordsOfPair 34 = .ok (.lmul, 1) := by decide +kernel
theorem dX3_wordsOfPair_35 : decode cX3_wordsOfPair 35 = .ok (.ladd, 1) := by decide +kernel
theorem dX3_wordsOfPair_36 : decode cX3_wordsOfPair 36 = .ok (.lstore 4, 2) := by decide +kernel
theorem dX3_wordsOfPair_38 : decode cX3_wordsOfPair 38 = .ok (.iinc 6 1, 3) := by decide +kernel
theorem dX3_wordsOfPair_41 : decode cX3_wordsOfPair 41 = .ok (.goto (-35), 3) := by decide +kernel
theorem dX3_wordsOfPair_44 : decode cX3_wordsOfPair 44 = .ok (.lload 4, 2) := by decide +kernel
theorem dX3_wordsOfPair_46 : decode cX3_wordsOfPair 46 = .ok (.lreturn, 1) := by decide +kernel
theorem dX4_init_0 : decode cX4_init 0 = .ok (.aload_n 0, 1) := by decide +kernel
theorem dX4_init_1 : decode cX4_init 1 = .ok (.invokespecial 3, 3) := by decide +kernel
theorem dX4_init_4 : decode cX4_init 4 = .ok (.aload_n 0, 1) := by decide +kernel
theorem dX4_init_5 : decode cX4_init 5 = .ok (.bipush 48, 2) := by decide +kernel
theorem dX4_init_7 : decode cX4_init 7 = .ok (.newarray .int, 2) := by decide +kernel
theorem dX4_init_9 : decode cX4_init 9 = .ok (.putfield 9, 3) := by decide +kernel
theorem dX4_init_12 : decode cX4_init 12 = .ok (.aload_n 0, 1) := by decide +kernel
theorem dX4_init_13 : decode cX4_init 13 = .ok (.bipush 48, 2) := by decide +kernel
theorem dX4_init_15 : decode cX4_init 15 = .ok (.newarray .int, 2) := by decide +kernel
theorem dX4_init_17 : decode cX4_init 17 = .ok (.putfield 15, 3) := by decide +kernel
theorem dX4_init_20 : decode cX4_init 20 = .ok (.aload_n 0, 1) := by decide +kernel
theorem dX4_init_21 : decode cX4_init 21 = .ok (.bipush 48, 2) := by decide +kernel
theorem dX4_init_23 : decode cX4_init 23 = .ok (.newarray .int, 2) := by decide +kernel
theorem dX4_init_25 : decode cX4_init 25 = .ok (.putfield 18, 3) := by decide +kernel
theorem dX4_init_28 : decode cX4_init 28 = .ok (.aload_n 0, 1) := by decide +kernel
theorem dX4_init_29 : decode cX4_init 29 = .ok (.bipush 48, 2) := by decide +kernel
theorem dX4_init_31 : decode cX4_init 31 = .ok (.newarray .int, 2) := by decide +kernel
theorem dX4_init_33 : decode cX4_init 33 = .ok (.putfield 21, 3) := by decide +kernel
theorem dX4_init_36 : decode cX4_init 36 = .ok (.aload_n 0, 1) := by decide +kernel
theorem dX4_init_37 : decode cX4_init 37 = .ok (.bipush 48, 2) := by decide +kernel
theorem dX4_init_39 : decode cX4_init 39 = .ok (.newarray .int, 2) := by decide +kernel
theorem dX4_init_41 : decode cX4_init 41 = .ok (.putfield 24, 3) := by decide +kernel
theorem dX4_init_44 : decode cX4_init 44 = .ok (.aload_n 0, 1) := by decide +kernel
theorem dX4_init_45 : decode cX4_init 45 = .ok (.bipush 48, 2) := by decide +kernel
theorem dX4_init_47 : decode cX4_init 47 = .ok (.newarray .int, 2) := by decide +kernel
theorem dX4_init_49 : decode cX4_init 49 = .ok (.putfield 27, 3) := by decide +kernel
theorem dX4_init_52 : decode cX4_init 52 = .ok (.aload_n 0, 1) := by decide +kernel
theorem dX4_init_53 : decode cX4_init 53 = .ok (.iconst 0, 1) := by decide +kernel
theorem dX4_init_54 : decode cX4_init 54 = .ok (.putfield 30, 3) := by decide +kernel
theorem dX4_init_57 : decode cX4_init 57 = .ok (.return_, 1) := by decide +kernel
theorem dX4_add_0 : decode cX4_add 0 = .ok (.aload_n 0, 1) := by decide +kernel
theorem dX4_add_1 : decode cX4_add 1 = .ok (.getfield 30, 3) := by decide +kernel
theorem dX4_add_4 : decode cX4_add 4 = .ok (.istore 5, 2) := by decide +kernel
theorem dX4_add_6 : decode cX4_add 6 = .ok (.aload_n 0, 1) := by decide +kernel
theorem dX4_add_7 : decode cX4_add 7 = .ok (.dup, 1) := by decide +kernel
theorem dX4_add_8 : decode cX4_add 8 = .ok (.getfield 30, 3) := by decide +kernel
theorem dX4_add_11 : decode cX4_add 11 = .ok (.iconst 1, 1) := by decide +kernel
theorem dX4_add_12 : decode cX4_add 12 = .ok (.iadd, 1) := by decide +kernel
theorem dX4_add_13 : decode cX4_add 13 = .ok (.putfield 30, 3) := by decide +kernel
theorem dX4_add_16 : decode cX4_add 16 = .ok (.aload_n 0, 1) := by decide +kernel
theorem dX4_add_17 : decode cX4_add 17 = .ok (.getfield 9, 3) := by decide +kernel
theorem dX4_add_20 : decode cX4_add 20 = .ok (.iload 5, 2) := by decide +kernel
theorem dX4_add_22 : decode cX4_add 22 = .ok (.iload_n 1, 1) := by decide +kernel
theorem dX4_add_23 : decode cX4_add 23 = .ok (.iastore, 1) := by decide +kernel
theorem dX4_add_24 : decode cX4_add 24 = .ok (.aload_n 0, 1) := by decide +kernel
theorem dX4_add_25 : decode cX4_add 25 = .ok (.getfield 15, 3) := by decide +kernel
theorem dX4_add_28 : decode cX4_add 28 = .ok (.iload 5, 2) := by decide +kernel
theorem dX4_add_30 : decode cX4_add 30 = .ok (.iload_n 2, 1) := by decide +kernel
theorem dX4_add_31 : decode cX4_add 31 = .ok (.iastore, 1) := by decide +kernel
theorem dX4_add_32 : decode cX4_add 32 = .ok (.aload_n 0, 1) := by decide +kernel
theorem dX4_add_33 : decode cX4_add 33 = .ok (.getfield 18, 3) := by decide +kernel
theorem dX4_add_36 : decode cX4_add 36 = .ok (.iload 5, 2) := by decide +kernel
theorem dX4_add_38 : decode cX4_add 38 = .ok (.iload_n 3, 1) := by decide +kernel
theorem dX4_add_39 : decode cX4_add 39 = .ok (.iastore, 1) := by decide +kernel
theorem dX4_add_40 : decode cX4_add 40 = .ok (.aload_n 0, 1) := by decide +kernel
theorem dX4_add_41 : decode cX4_add 41 = .ok (.getfield 21, 3) := by decide +kernel
theorem dX4_add_44 : decode cX4_add 44 = .ok (.iload 5, 2) := by decide +kernel
theorem dX4_add_46 : decode cX4_add 46 = .ok (.iload 4, 2) := by decide +kernel
theorem dX4_add_48 : decode cX4_add 48 = .ok (.iastore, 1) := by decide +kernel
theorem dX4_add_49 : decode cX4_add 49 = .ok (.aload_n 0, 1) := by decide +kernel
theorem dX4_add_50 : decode cX4_add 50 = .ok (.getfield 24, 3) := by decide +kernel
theorem dX4_add_53 : decode cX4_add 53 = .ok (.iload 5, 2) := by decide +kernel
theorem dX4_add_55 : decode cX4_add 55 = .ok (.iconst (-1), 1) := by decide +kernel
theorem dX4_add_56 : decode cX4_add 56 = .ok (.iastore, 1) := by decide +kernel
theorem dX4_add_57 : decode cX4_add 57 = .ok (.aload_n 0, 1) := by decide +kernel
theorem dX4_add_58 : decode cX4_add 58 = .ok (.getfield 27, 3) := by decide +kernel
theorem dX4_add_61 : decode cX4_add 61 = .ok (.iload 5, 2) := by decide +kernel
theorem dX4_add_63 : decode cX4_add 63 = .ok (.aload_n 0, 1) := by decide +kernel
theorem dX4_add_64 : decode cX4_add 64 = .ok (.iload_n 3, 1) := by decide +kernel
theorem dX4_add_65 : decode cX4_add 65 = .ok (.invokevirtual 34, 3) := by decide +kernel
theorem dX4_add_68 : decode cX4_add 68 = .ok (.aload_n 0, 1) := by decide +kernel
theorem dX4_add_69 : decode cX4_add 69 = .ok (.iload 4, 2) := by decide +kernel
theorem dX4_add_71 : decode cX4_add 71 = .ok (.invokevirtual 34, 3) := by decide +kernel
theorem dX4_add_74 : decode cX4_add 74 = .ok (.invokestatic 38, 3) := by decide +kernel
theorem dX4_add_77 : decode cX4_add 77 = .ok (.iload_n 1, 1) := by decide +kernel
theorem dX4_add_78 : decode cX4_add 78 = .ok (.bipush 6, 2) := by decide +kernel
theorem dX4_add_80 : decode cX4_add 80 = .ok (.if_icmp .ne 7, 3) := by decide +kernel
theorem dX4_add_83 : decode cX4_add 83 = .ok (.iconst 1, 1) := by decide +kernel
theorem dX4_add_84 : decode cX4_add 84 = .ok (.goto 4, 3) := by decide +kernel
theorem dX4_add_87 : decode cX4_add 87 = .ok (.iconst 0, 1) := by decide +kernel
theorem dX4_add_88 : decode cX4_add 88 = .ok (.iadd, 1) := by decide +kernel
theorem dX4_add_89 : decode cX4_add 89 = .ok (.iastore, 1) := by decide +kernel
theorem dX4_add_90 : decode cX4_add 90 = .ok (.aload_n 0, 1) := by decide +kernel
theorem dX4_add_91 : decode cX4_add 91 = .ok (.iload_n 3, 1) := by decide +kernel
theorem dX4_add_92 : decode cX4_add 92 = .ok (.iload 5, 2) := by decide +kernel
theorem dX4_add_94 : decode cX4_add 94 = .ok (.invokevirtual 44, 3) := by decide +kernel
theorem dX4_add_97 : decode cX4_add 97 = .ok (.aload_n 0, 1) := by decide +kernel
theorem dX4_add_98 : decode cX4_add 98 = .ok (.iload 4, 2) := by decide +kernel
theorem dX4_add_100 : decode cX4_add 100 = .ok (.iload 5, 2) := by decide +kernel
theorem dX4_add_102 : decode cX4_add 102 = .ok (.invokevirtual 44, 3) := by decide +kernel
theorem dX4_add_105 : decode cX4_add 105 = .ok (.iload 5, 2) := by decide +kernel
theorem dX4_add_107 : decode cX4_add 107 = .ok (.ireturn, 1) := by decide +kernel
theorem dX4_makePart_0 : decode cX4_makePart 0 = .ok (.iload_n 1, 1) := by decide +kernel
theorem dX4_makePart_1 : decode cX4_makePart 1 = .ok (.iconst (-1), 1) := by decide +kernel
theorem dX4_makePart_2 : decode cX4_makePart 2 = .ok (.if_icmp .eq 10, 3) := by decide +kernel
theorem dX4_makePart_5 : decode cX4_makePart 5 = .ok (.aload_n 0, 1) := by decide +kernel
theorem dX4_makePart_6 : decode cX4_makePart 6 = .ok (.getfield 24, 3) := by decide +kernel
theorem dX4_makePart_9 : decode cX4_makePart 9 = .ok (.iload_n 1, 1) := by decide +kernel
theorem dX4_makePart_10 : decode cX4_makePart 10 = .ok (.iload_n 2, 1) := by decide +kernel
theorem dX4_makePart_11 : decode cX4_makePart 11 = .ok (.iastore, 1) := by decide +kernel
theorem dX4_makePart_12 : decode cX4_makePart 12 = .ok (.return_, 1) := by decide +kernel
theorem dX4_forgetAll_0 : decode cX4_forgetAll 0 = .ok (.aload_n 0, 1) := by decide +kernel
theorem dX4_forgetAll_1 : decode cX4_forgetAll 1 = .ok (.iconst 0, 1) := by decide +kernel
theorem dX4_forgetAll_2 : decode cX4_forgetAll 2 = .ok (.putfield 30, 3) := by decide +kernel
theorem dX4_forgetAll_5 : decode cX4_forgetAll 5 = .ok (.return_, 1) := by decide +kernel
theorem dX4_size_0 : decode cX4_size 0 = .ok (.aload_n 0, 1) := by decide +kernel
theorem dX4_size_1 : decode cX4_size 1 = .ok (.getfield 30, 3) := by decide +kernel
theorem dX4_size_4 : decode cX4_size 4 = .ok (.ireturn, 1) := by decide +kernel
theorem dX4_has_0 : decode cX4_has 0 = .ok (.iload_n 1, 1) := by decide +kernel
theorem dX4_has_1 : decode cX4_has 1 = .ok (.ifCond .lt 15, 3) := by decide +kernel
theorem dX4_has_4 : decode cX4_has 4 = .ok (.iload_n 1, 1) := by decide +kernel
theorem dX4_has_5 : decode cX4_has 5 = .ok (.aload_n 0, 1) := by decide +kernel
theorem dX4_has_6 : decode cX4_has 6 = .ok (.getfield 30, 3) := by decide +kernel
theorem dX4_has_9 : decode cX4_has 9 = .ok (.if_icmp .ge 7, 3) := by decide +kernel
theorem dX4_has_12 : decode cX4_has 12 = .ok (.iconst 1, 1) := by decide +kernel
theorem dX4_has_13 : decode cX4_has 13 = .ok (.goto 4, 3) := by decide +kernel
theorem dX4_has_16 : decode cX4_has 16 = .ok (.iconst 0, 1) := by decide +kernel
theorem dX4_has_17 : decode cX4_has 17 = .ok (.ireturn, 1) := by decide +kernel
theorem dX4_isFull_0 : decode cX4_isFull 0 = .ok (.aload_n 0, 1) := by decide +kernel
theorem dX4_isFull_1 : decode cX4_isFull 1 = .ok (.getfield 30, 3) := by decide +kernel
theorem dX4_isFull_4 : decode cX4_isFull 4 = .ok (.bipush 48, 2) := by decide +kernel
theorem dX4_isFull_6 : decode cX4_isFull 6 = .ok (.if_icmp .lt 7, 3) := by decide +kernel
theorem dX4_isFull_9 : decode cX4_isFull 9 = .ok (.iconst 1, 1) := by decide +kernel
theorem dX4_isFull_10 : decode cX4_isFull 10 = .ok (.goto 4, 3) := by decide +kernel
theorem dX4_isFull_13 : decode cX4_isFull 13 = .ok (.iconst 0, 1) := by decide +kernel
theorem dX4_isFull_14 : decode cX4_isFull 14 = .ok (.ireturn, 1) := by decide +kernel
theorem dX4_isPart_0 : decode cX4_isPart 0 = .ok (.aload_n 0, 1) := by decide +kernel
theorem dX4_isPart_1 : decode cX4_isPart 1 = .ok (.getfield 24, 3) := by decide +kernel
theorem dX4_isPart_4 : decode cX4_isPart 4 = .ok (.iload_n 1, 1) := by decide +kernel
theorem dX4_isPart_5 : decode cX4_isPart 5 = .ok (.iaload, 1) := by decide +kernel
theorem dX4_isPart_6 : decode cX4_isPart 6 = .ok (.iconst (-1), 1) := by decide +kernel
theorem dX4_isPart_7 : decode cX4_isPart 7 = .ok (.if_icmp .eq 7, 3) := by decide +kernel
theorem dX4_isPart_10 : decode cX4_isPart 10 = .ok (.iconst 1, 1) := by decide +kernel
theorem dX4_isPart_11 : decode cX4_isPart 11 = .ok (.goto 4, 3) := by decide +kernel
theorem dX4_isPart_14 : decode cX4_isPart 14 = .ok (.iconst 0, 1) := by decide +kernel
theorem dX4_isPart_15 : decode cX4_isPart 15 = .ok (.ireturn, 1) := by decide +kernel
theorem dX4_knotsIn_0 : decode cX4_knotsIn 0 = .ok (.iload_n 1, 1) := by decide +kernel
theorem dX4_knotsIn_1 : decode cX4_knotsIn 1 = .ok (.iconst (-1), 1) := by decide +kernel
theorem dX4_knotsIn_2 : decode cX4_knotsIn 2 = .ok (.if_icmp .ne 7, 3) := by decide +kernel
theorem dX4_knotsIn_5 : decode cX4_knotsIn 5 = .ok (.iconst 0, 1) := by decide +kernel
theorem dX4_knotsIn_6 : decode cX4_knotsIn 6 = .ok (.goto 9, 3) := by decide +kernel
theorem dX4_knotsIn_9 : decode cX4_knotsIn 9 = .ok (.aload_n 0, 1) := by decide +kernel
theorem dX4_knotsIn_10 : decode cX4_knotsIn 10 = .ok (.getfield 27, 3) := by decide +kernel
theorem dX4_knotsIn_13 : decode cX4_knotsIn 13 = .ok (.iload_n 1, 1) := by decide +kernel
theorem dX4_knotsIn_14 : decode cX4_knotsIn 14 = .ok (.iaload, 1) := by decide +kernel
theorem dX4_knotsIn_15 : decode cX4_knotsIn 15 = .ok (.ireturn, 1) := by decide +kernel
theorem dX4_kind_0 : decode cX4_kind 0 = .ok (.aload_n 0, 1) := by decide +kernel
theorem dX4_kind_1 : decode cX4_kind 1 = .ok (.getfield 9, 3) := by decide +kernel
theorem dX4_kind_4 : decode cX4_kind 4 = .ok (.iload_n 1, 1) := by decide +kernel
theorem dX4_kind_5 : decode cX4_kind 5 = .ok (.iaload, 1) := by decide +kernel
theorem dX4_kind_6 : decode cX4_kind 6 = .ok (.ireturn, 1) := by decide +kernel
theorem dX4_value_0 : decode cX4_value 0 = .ok (.aload_n 0, 1) := by decide +kernel
theorem dX4_value_1 : decode cX4_value 1 = .ok (.getfield 15, 3) := by decide +kernel
theorem dX4_value_4 : decode cX4_value 4 = .ok (.iload_n 1, 1) := by decide +kernel
theorem dX4_value_5 : decode cX4_value 5 = .ok (.iaload, 1) := by decide +kernel
theorem dX4_value_6 : decode cX4_value 6 = .ok (.ireturn, 1) := by decide +kernel
theorem dX4_left_0 : decode cX4_left 0 = .ok (.aload_n 0, 1) := by decide +kernel
theorem dX4_left_1 : decode cX4_left 1 = .ok (.getfield 18, 3) := by decide +kernel
theorem dX4_left_4 : decode cX4_left 4 = .ok (.iload_n 1, 1) := by decide +kernel
theorem dX4_left_5 : decode cX4_left 5 = .ok (.iaload, 1) := by decide +kernel
theorem dX4_left_6 : decode cX4_left 6 = .ok (.ireturn, 1) := by decide +kernel
theorem dX4_right_0 : decode cX4_right 0 = .ok (.aload_n 0, 1) := by decide +kernel
theorem dX4_right_1 : decode cX4_right 1 = .ok (.getfield 21, 3) := by decide +kernel
theorem dX4_right_4 : decode cX4_right 4 = .ok (.iload_n 1, 1) := by decide +kernel
theorem dX4_right_5 : decode cX4_right 5 = .ok (.iaload, 1) := by decide +kernel
theorem dX4_right_6 : decode cX4_right 6 = .ok (.ireturn, 1) := by decide +kernel
theorem dX4_whole_0 : decode cX4_whole 0 = .ok (.aload_n 0, 1) := by decide +kernel
theorem dX4_whole_1 : decode cX4_whole 1 = .ok (.getfield 24, 3) := by decide +kernel
theorem dX4_whole_4 : decode cX4_whole 4 = .ok (.iload_n 1, 1) := by decide +kernel
theorem dX4_whole_5 : decode cX4_whole 5 = .ok (.iaload, 1) := by decide +kernel
theorem dX4_whole_6 : decode cX4_whole 6 = .ok (.ireturn, 1) := by decide +kernel
theorem dX5_init_0 : decode cX5_init 0 = .ok (.aload_n 0, 1) := by decide +kernel
theorem dX5_init_1 : decode cX5_init 1 = .ok (.invokespecial 3, 3) := by decide +kernel
theorem dX5_init_4 : decode cX5_init 4 = .ok (.aload_n 0, 1) := by decide +kernel
theorem dX5_init_5 : decode cX5_init 5 = .ok (.bipush 48, 2) := by decide +kernel
theorem dX5_init_7 : decode cX5_init 7 = .ok (.newarray .int, 2) := by decide +kernel
theorem dX5_init_9 : decode cX5_init 9 = .ok (.putfield 9, 3) := by decide +kernel
theorem dX5_init_12 : decode cX5_init 12 = .ok (.aload_n 0, 1) := by decide +kernel
theorem dX5_init_13 : decode cX5_init 13 = .ok (.bipush 48, 2) := by decide +kernel
theorem dX5_init_15 : decode cX5_init 15 = .ok (.newarray .int, 2) := by decide +kernel
theorem dX5_init_17 : decode cX5_init 17 = .ok (.putfield 15, 3) := by decide +kernel
theorem dX5_init_20 : decode cX5_init 20 = .ok (.aload_n 0, 1) := by decide +kernel
theorem dX5_init_21 : decode cX5_init 21 = .ok (.bipush 48, 2) := by decide +kernel
theorem dX5_init_23 : decode cX5_init 23 = .ok (.newarray .int, 2) := by decide +kernel
theorem dX5_init_25 : decode cX5_init 25 = .ok (.putfield 18, 3) := by decide +kernel
theorem dX5_init_28 : decode cX5_init 28 = .ok (.aload_n 0, 1) := by decide +kernel
theorem dX5_init_29 : decode cX5_init 29 = .ok (.bipush 48, 2) := by decide +kernel
theorem dX5_init_31 : decode cX5_init 31 = .ok (.newarray .boolean, 2) := by decide +kernel
theorem dX5_init_33 : decode cX5_init 33 = .ok (.putfield 21, 3) := by decide +kernel
theorem dX5_init_36 : decode cX5_init 36 = .ok (.aload_n 0, 1) := by decide +kernel
theorem dX5_init_37 : decode cX5_init 37 = .ok (.bipush 48, 2) := by decide +kernel
theorem dX5_init_39 : decode cX5_init 39 = .ok (.newarray .boolean, 2) := by decide +kernel
theorem dX5_init_41 : decode cX5_init 41 = .ok (.putfield 25, 3) := by decide +kernel
theorem dX5_init_44 : decode cX5_init 44 = .ok (.aload_n 0, 1) := by decide +kernel
theorem dX5_init_45 : decode cX5_init 45 = .ok (.bipush 48, 2) := by decide +kernel
theorem dX5_init_47 : decode cX5_init 47 = .ok (.newarray .int, 2) := by decide +kernel
theorem dX5_init_49 : decode cX5_init 49 = .ok (.putfield 28, 3) := by decide +kernel
theorem dX5_init_52 : decode cX5_init 52 = .ok (.aload_n 0, 1) := by decide +kernel
theorem dX5_init_53 : decode cX5_init 53 = .ok (.bipush 48, 2) := by decide +kernel
theorem dX5_init_55 : decode cX5_init 55 = .ok (.newarray .int, 2) := by decide +kernel
theorem dX5_init_57 : decode cX5_init 57 = .ok (.putfield 31, 3) := by decide +kernel
theorem dX5_init_60 : decode cX5_init 60 = .ok (.aload_n 0, 1) := by decide +kernel
theorem dX5_init_61 : decode cX5_init 61 = .ok (.bipush 48, 2) := by decide +kernel
theorem dX5_init_63 : decode cX5_init 63 = .ok (.putfield 34, 3) := by decide +kernel
theorem dX5_init_66 : decode cX5_init 66 = .ok (.aload_n 0, 1) := by decide +kernel
theorem dX5_init_67 : decode cX5_init 67 = .ok (.aload_n 1, 1) := by decide +kernel
theorem dX5_init_68 : decode cX5_init 68 = .ok (.putfield 38, 3) := by decide +kernel
theorem dX5_init_71 : decode cX5_init 71 = .ok (.return_, 1) := by decide +kernel
theorem dX5_study_0 : decode cX5_study 0 = .ok (.aload_n 0, 1) := by decide +kernel
theorem dX5_study_1 : decode cX5_study 1 = .ok (.iload_n 1, 1) := by decide +kernel
theorem dX5_study_2 : decode cX5_study 2 = .ok (.invokevirtual 42, 3) := by decide +kernel
theorem dX5_study_5 : decode cX5_study 5 = .ok (.aload_n 0, 1) := by decide +kernel
theorem dX5_study_6 : decode cX5_study 6 = .ok (.getfield 34, 3) := by decide +kernel
theorem dX5_study_9 : decode cX5_study 9 = .ok (.istore_n 2, 1) := by decide +kernel
theorem dX5_study_10 : decode cX5_study 10 = .ok (.iload_n 2, 1) := by decide +kernel
theorem dX5_study_11 : decode cX5_study 11 = .ok (.bipush 48, 2) := by decide +kernel
theorem dX5_study_13 : decode cX5_study 13 = .ok (.if_icmp .ge 20, 3) := by decide +kernel
theorem dX5_study_16 : decode cX5_study 16 = .ok (.aload_n 0, 1) := by decide +kernel
theorem dX5_study_17 : decode cX5_study 17 = .ok (.aload_n 0, 1) := by decide +kernel
theorem dX5_study_18 : decode cX5_study 18 = .ok (.getfield 9, 3) := by decide +kernel
theorem dX5_study_21 : decode cX5_study 21 = .ok (.iload_n 2, 1) := by decide +kernel
theorem dX5_study_22 : decode cX5_study 22 = .ok (.iaload, 1) := by decide +kernel
theorem dX5_study_23 : decode cX5_study 23 = .ok (.iload_n 1, 1) := by decide +kernel
theorem dX5_study_24 : decode cX5_study 24 = .ok (.invokevirtual 46, 3) := by decide +kernel
theorem dX5_study_27 : decode cX5_study 27 = .ok (.iinc 2 1, 3) := by decide +kernel
theorem dX5_study_30 : decode cX5_study 30 = .ok (.goto (-20), 3) := by decide +kernel
theorem dX5_study_33 : decode cX5_study 33 = .ok (.aload_n 0, 1) := by decide +kernel
theorem dX5_study_34 : decode cX5_study 34 = .ok (.invokevirtual 50, 3) := by decide +kernel
theorem dX5_study_37 : decode cX5_study 37 = .ok (.return_, 1) := by decide +kernel
theorem dX5_size_0 : decode cX5_size 0 = .ok (.bipush 48, 2) := by decide +kernel
theorem dX5_size_2 : decode cX5_size 2 = .ok (.aload_n 0, 1) := by decide +kernel
theorem dX5_size_3 : decode cX5_size 3 = .ok (.getfield 34, 3) := by decide +kernel
theorem dX5_size_6 : decode cX5_size 6 = .ok (.isub, 1) := by decide +kernel
theorem dX5_size_7 : decode cX5_size 7 = .ok (.ireturn, 1) := by decide +kernel
theorem dX5_inOrder_0 : decode cX5_inOrder 0 = .ok (.aload_n 0, 1) := by decide +kernel
theorem dX5_inOrder_1 : decode cX5_inOrder 1 = .ok (.getfield 9, 3) := by decide +kernel
theorem dX5_inOrder_4 : decode cX5_inOrder 4 = .ok (.aload_n 0, 1) := by decide +kernel
theorem dX5_inOrder_5 : decode cX5_inOrder 5 = .ok (.getfield 34, 3) := by decide +kernel
theorem dX5_inOrder_8 : decode cX5_inOrder 8 = .ok (.iload_n 1, 1) := by decide +kernel
theorem dX5_inOrder_9 : decode cX5_inOrder 9 = .ok (.iadd, 1) := by decide +kernel
theorem dX5_inOrder_10 : decode cX5_inOrder 10 = .ok (.iaload, 1) := by decide +kernel
theorem dX5_inOrder_11 : decode cX5_inOrder 11 = .ok (.ireturn, 1) := by decide +kernel
theorem dX5_isNullable_0 : decode cX5_isNullable 0 = .ok (.aload_n 0, 1) := by decide +kernel
theorem dX5_isNullable_1 : decode cX5_isNullable 1 = .ok (.getfield 25, 3) := by decide +kernel
theorem dX5_isNullable_4 : decode cX5_isNullable 4 = .ok (.iload_n 1, 1) := by decide +kernel
theorem dX5_isNullable_5 : decode cX5_isNullable 5 = .ok (.baload, 1) := by decide +kernel
theorem dX5_isNullable_6 : decode cX5_isNullable 6 = .ok (.ireturn, 1) := by decide +kernel
theorem dX5_firstOf_0 : decode cX5_firstOf 0 = .ok (.aload_n 0, 1) := by decide +kernel
theorem dX5_firstOf_1 : decode cX5_firstOf 1 = .ok (.getfield 28, 3) := by decide +kernel
theorem dX5_firstOf_4 : decode cX5_firstOf 4 = .ok (.iload_n 1, 1) := by decide +kernel
theorem dX5_firstOf_5 : decode cX5_firstOf 5 = .ok (.iaload, 1) := by decide +kernel
theorem dX5_firstOf_6 : decode cX5_firstOf 6 = .ok (.ireturn, 1) := by decide +kernel
theorem dX5_afterOf_0 : decode cX5_afterOf 0 = .ok (.aload_n 0, 1) := by decide +kernel
theorem dX5_afterOf_1 : decode cX5_afterOf 1 = .ok (.getfield 31, 3) := by decide +kernel
theorem dX5_afterOf_4 : decode cX5_afterOf 4 = .ok (.iload_n 1, 1) := by decide +kernel
theorem dX5_afterOf_5 : decode cX5_afterOf 5 = .ok (.iaload, 1) := by decide +kernel
theorem dX5_afterOf_6 : decode cX5_afterOf 6 = .ok (.ireturn, 1) := by decide +kernel
theorem dX5_binder_0 : decode cX5_binder 0 = .ok (.aload_n 0, 1) := by decide +kernel
theorem dX5_binder_1 : decode cX5_binder 1 = .ok (.getfield 18, 3) := by decide +kernel
theorem dX5_binder_4 : decode cX5_binder 4 = .ok (.iload_n 1, 1) := by decide +kernel
theorem dX5_binder_5 : decode cX5_binder 5 = .ok (.iaload, 1) := by decide +kernel
theorem dX5_binder_6 : decode cX5_binder 6 = .ok (.ireturn, 1) := by decide +kernel
theorem dX5_side_0 : decode cX5_side 0 = .ok (.aload_n 0, 1) := by decide +kernel
theorem dX5_side_1 : decode cX5_side 1 = .ok (.getfield 38, 3) := by decide +kernel
theorem dX5_side_4 : decode cX5_side 4 = .ok (.iload_n 1, 1) := by decide +kernel
theorem dX5_side_5 : decode cX5_side 5 = .ok (.invokevirtual 53, 3) := by decide +kernel
theorem dX5_side_8 : decode cX5_side 8 = .ok (.istore_n 3, 1) := by decide +kernel
theorem dX5_side_9 : decode cX5_side 9 = .ok (.aload_n 0, 1) := by decide +kernel
theorem dX5_side_10 : decode cX5_side 10 = .ok (.getfield 38, 3) := by decide +kernel
theorem dX5_side_13 : decode cX5_side 13 = .ok (.iload_n 1, 1) := by decide +kernel
theorem dX5_side_14 : decode cX5_side 14 = .ok (.invokevirtual 59, 3) := by decide +kernel
theorem dX5_side_17 : decode cX5_side 17 = .ok (.istore 4, 2) := by decide +kernel
theorem dX5_side_19 : decode cX5_side 19 = .ok (.aload_n 0, 1) := by decide +kernel
theorem dX5_side_20 : decode cX5_side 20 = .ok (.getfield 28, 3) := by decide +kernel
theorem dX5_side_23 : decode cX5_side 23 = .ok (.iload_n 3, 1) := by decide +kernel
theorem dX5_side_24 : decode cX5_side 24 = .ok (.iaload, 1) := by decide +kernel
theorem dX5_side_25 : decode cX5_side 25 = .ok (.iload_n 2, 1) := by decide +kernel
theorem dX5_side_26 : decode cX5_side 26 = .ok (.iand, 1) := by decide +kernel
theorem dX5_side_27 : decode cX5_side 27 = .ok (.ifCond .eq 5, 3) := by decide +kernel
theorem dX5_side_30 : decode cX5_side 30 = .ok (.iconst 0, 1) := by decide +kernel
theorem dX5_side_31 : decode cX5_side 31 = .ok (.ireturn, 1) := by decide +kernel
theorem dX5_side_32 : decode cX5_side 32 = .ok (.aload_n 0, 1) := by decide +kernel
theorem dX5_side_33 : decode cX5_side 33 = .ok (.getfield 28, 3) := by decide +kernel
theorem dX5_side_36 : decode cX5_side 36 = .ok (.iload 4, 2) := by decide +kernel
theorem dX5_side_38 : decode cX5_side 38 = .ok (.iaload, 1) := by decide +kernel
theorem dX5_side_39 : decode cX5_side 39 = .ok (.iload_n 2, 1) := by decide +kernel
theorem dX5_side_40 : decode cX5_side 40 = .ok (.iand, 1) := by decide +kernel
theorem dX5_side_41 : decode cX5_side 41 = .ok (.ifCond .eq 5, 3) := by decide +kernel
theorem dX5_side_44 : decode cX5_side 44 = .ok (.iconst 1, 1) := by decide +kernel
theorem dX5_side_45 : decode cX5_side 45 = .ok (.ireturn, 1) := by decide +kernel
theorem dX5_side_46 : decode cX5_side 46 = .ok (.aload_n 0, 1) := by decide +kernel
theorem dX5_side_47 : decode cX5_side 47 = .ok (.getfield 25, 3) := by decide +kernel
theorem dX5_side_50 : decode cX5_side 50 = .ok (.iload_n 3, 1) := by decide +kernel
theorem dX5_side_51 : decode cX5_side 51 = .ok (.baload, 1) := by decide +kernel
theorem dX5_side_52 : decode cX5_side 52 = .ok (.ifCond .eq 5, 3) := by decide +kernel
theorem dX5_side_55 : decode cX5_side 55 = .ok (.iconst 0, 1) := by decide +kernel
theorem dX5_side_56 : decode cX5_side 56 = .ok (.ireturn, 1) := by decide +kernel
theorem dX5_side_57 : decode cX5_side 57 = .ok (.aload_n 0, 1) := by decide +kernel
theorem dX5_side_58 : decode cX5_side 58 = .ok (.getfield 25, 3) := by decide +kernel
theorem dX5_side_61 : decode cX5_side 61 = .ok (.iload 4, 2) := by decide +kernel
theorem dX5_side_63 : decode cX5_side 63 = .ok (.baload, 1) := by decide +kernel
theorem dX5_side_64 : decode cX5_side 64 = .ok (.ifCond .eq 7, 3) := by decide +kernel
theorem dX5_side_67 : decode cX5_side 67 = .ok (.iconst 1, 1) := by decide +kernel
theorem dX5_side_68 : decode cX5_side 68 = .ok (.goto 4, 3) := by decide +kernel
theorem dX5_side_71 : decode cX5_side 71 = .ok (.iconst (-1), 1) := by decide +kernel
theorem dX5_side_72 : decode cX5_side 72 = .ok (.ireturn, 1) := by decide +kernel
theorem dX5_firstFault_0 : decode cX5_firstFault 0 = .ok (.aload_n 0, 1) := by decide +kernel
theorem dX5_firstFault_1 : decode cX5_firstFault 1 = .ok (.getfield 34, 3) := by decide +kernel
theorem dX5_firstFault_4 : decode cX5_firstFault 4 = .ok (.istore_n 1, 1) := by decide +kernel
theorem dX5_firstFault_5 : decode cX5_firstFault 5 = .ok (.iload_n 1, 1) := by decide +kernel
theorem dX5_firstFault_6 : decode cX5_firstFault 6 = .ok (.bipush 48, 2) := by decide +kernel
theorem dX5_firstFault_8 : decode cX5_firstFault 8 = .ok (.if_icmp .ge 36, 3) := by decide +kernel
theorem dX5_firstFault_11 : decode cX5_firstFault 11 = .ok (.aload_n 0, 1) := by decide +kernel
theorem dX5_firstFault_12 : decode cX5_firstFault 12 = .ok (.aload_n 0, 1) := by decide +kernel
theorem dX5_firstFault_13 : decode cX5_firstFault 13 = .ok (.getfield 9, 3) := by decide +kernel
theorem dX5_firstFault_16 : decode cX5_firstFault 16 = .ok (.iload_n 1, 1) := by decide +kernel
theorem dX5_firstFault_17 : decode cX5_firstFault 17 = .ok (.iaload, 1) := by decide +kernel
theorem dX5_firstFault_18 : decode cX5_firstFault 18 = .ok (.invokevirtual 62, 3) := by decide +kernel
theorem dX5_firstFault_21 : decode cX5_firstFault 21 = .ok (.istore_n 2, 1) := by decide +kernel
theorem dX5_firstFault_22 : decode cX5_firstFault 22 = .ok (.iload_n 2, 1) := by decide +kernel
theorem dX5_firstFault_23 : decode cX5_firstFault 23 = .ok (.ifCond .eq 15, 3) := by decide +kernel
theorem dX5_firstFault_26 : decode cX5_firstFault 26 = .ok (.iload_n 2, 1) := by decide +kernel
theorem dX5_firstFault_27 : decode cX5_firstFault 27 = .ok (.bipush 8, 2) := by decide +kernel
theorem dX5_firstFault_29 : decode cX5_firstFault 29 = .ok (.aload_n 0, 1) := by decide +kernel
theorem dX5_firstFault_30 : decode cX5_firstFault 30 = .ok (.getfield 9, 3) := by decide +kernel
theorem dX5_firstFault_33 : decode cX5_firstFault 33 = .ok (.iload_n 1, 1) := by decide +kernel
theorem dX5_firstFault_34 : decode cX5_firstFault 34 = .ok (.iaload, 1) := by decide +kernel
theorem dX5_firstFault_35 : decode cX5_firstFault 35 = .ok (.imul, 1) := by decide +kernel
theorem dX5_firstFault_36 : decode cX5_firstFault 36 = .ok (.iadd, 1) := by decide +kernel
theorem dX5_firstFault_37 : decode cX5_firstFault 37 = .ok (.ireturn, 1) := by decide +kernel
theorem dX5_firstFault_38 : decode cX5_firstFault 38 = .ok (.iinc 1 1, 3) := by decide +kernel
theorem dX5_firstFault_41 : decode cX5_firstFault 41 = .ok (.goto (-36), 3) := by decide +kernel
theorem dX5_firstFault_44 : decode cX5_firstFault 44 = .ok (.iconst 0, 1) := by decide +kernel
theorem dX5_firstFault_45 : decode cX5_firstFault 45 = .ok (.ireturn, 1) := by decide +kernel
theorem dX5_lineUp_0 : decode cX5_lineUp 0 = .ok (.aload_n 0, 1) := by decide +kernel
theorem dX5_lineUp_1 : decode cX5_lineUp 1 = .ok (.bipush 48, 2) := by decide +kernel
theorem dX5_lineUp_3 : decode cX5_lineUp 3 = .ok (.putfield 34, 3) := by decide +kernel
theorem dX5_lineUp_6 : decode cX5_lineUp 6 = .ok (.iconst 1, 1) := by decide +kernel
theorem dX5_lineUp_7 : decode cX5_lineUp 7 = .ok (.istore_n 2, 1) := by decide +kernel
theorem dX5_lineUp_8 : decode cX5_lineUp 8 = .ok (.aload_n 0, 1) := by decide +kernel
theorem dX5_lineUp_9 : decode cX5_lineUp 9 = .ok (.getfield 15, 3) := by decide +kernel
theorem dX5_lineUp_12 : decode cX5_lineUp 12 = .ok (.iconst 0, 1) := by decide +kernel
theorem dX5_lineUp_13 : decode cX5_lineUp 13 = .ok (.iload_n 1, 1) := by decide +kernel
theorem dX5_lineUp_14 : decode cX5_lineUp 14 = .ok (.iastore, 1) := by decide +kernel
theorem dX5_lineUp_15 : decode cX5_lineUp 15 = .ok (.iload_n 2, 1) := by decide +kernel
theorem dX5_lineUp_16 : decode cX5_lineUp 16 = .ok (.ifCond .le 101, 3) := by decide +kernel
theorem dX5_lineUp_19 : decode cX5_lineUp 19 = .ok (.aload_n 0, 1) := by decide +kernel
theorem dX5_lineUp_20 : decode cX5_lineUp 20 = .ok (.getfield 34, 3) := by decide +kernel
theorem dX5_lineUp_23 : decode cX5_lineUp 23 = .ok (.ifCond .le 94, 3) := by decide +kernel
theorem dX5_lineUp_26 : decode cX5_lineUp 26 = .ok (.iinc 2 (-1), 3) := by decide +kernel
theorem dX5_lineUp_29 : decode cX5_lineUp 29 = .ok (.aload_n 0, 1) := by decide +kernel
theorem dX5_lineUp_30 : decode cX5_lineUp 30 = .ok (.getfield 15, 3) := by decide +kernel
theorem dX5_lineUp_33 : decode cX5_lineUp 33 = .ok (.iload_n 2, 1) := by decide +kernel
theorem dX5_lineUp_34 : decode cX5_lineUp 34 = .ok (.iaload, 1) := by decide +kernel
theorem dX5_lineUp_35 : decode cX5_lineUp 35 = .ok (.istore_n 3, 1) := by decide +kernel
theorem dX5_lineUp_36 : decode cX5_lineUp 36 = .ok (.aload_n 0, 1) := by decide +kernel
theorem dX5_lineUp_37 : decode cX5_lineUp 37 = .ok (.dup, 1) := by decide +kernel
theorem dX5_lineUp_38 : decode cX5_lineUp 38 = .ok (.getfield 34, 3) := by decide +kernel
theorem dX5_lineUp_41 : decode cX5_lineUp 41 = .ok (.iconst 1, 1) := by decide +kernel
theorem dX5_lineUp_42 : decode cX5_lineUp 42 = .ok (.isub, 1) := by decide +kernel
theorem dX5_lineUp_43 : decode cX5_lineUp 43 = .ok (.putfield 34, 3) := by decide +kernel
theorem dX5_lineUp_46 : decode cX5_lineUp 46 = .ok (.aload_n 0, 1) := by decide +kernel
theorem dX5_lineUp_47 : decode cX5_lineUp 47 = .ok (.getfield 9, 3) := by decide +kernel
theorem dX5_lineUp_50 : decode cX5_lineUp 50 = .ok (.aload_n 0, 1) := by decide +kernel
theorem dX5_lineUp_51 : decode cX5_lineUp 51 = .ok (.getfield 34, 3) := by decide +kernel
theorem dX5_lineUp_54 : decode cX5_lineUp 54 = .ok (.iload_n 3, 1) := by decide +kernel
theorem dX5_lineUp_55 : decode cX5_lineUp 55 = .ok (.iastore, 1) := by decide +kernel
theorem dX5_lineUp_56 : decode cX5_lineUp 56 = .ok (.aload_n 0, 1) := by decide +kernel
theorem dX5_lineUp_57 : decode cX5_lineUp 57 = .ok (.getfield 38, 3) := by decide +kernel
theorem dX5_lineUp_60 : decode cX5_lineUp 60 = .ok (.iload_n 3, 1) := by decide +kernel
theorem dX5_lineUp_61 : decode cX5_lineUp 61 = .ok (.invokevirtual 53, 3) := by decide +kernel
theorem dX5_lineUp_64 : decode cX5_lineUp 64 = .ok (.iconst (-1), 1) := by decide +kernel
theorem dX5_lineUp_65 : decode cX5_lineUp 65 = .ok (.if_icmp .eq 20, 3) := by decide +kernel
theorem dX5_lineUp_68 : decode cX5_lineUp 68 = .ok (.aload_n 0, 1) := by decide +kernel
theorem dX5_lineUp_69 : decode cX5_lineUp 69 = .ok (.getfield 15, 3) := by decide +kernel
theorem dX5_lineUp_72 : decode cX5_lineUp 72 = .ok (.iload_n 2, 1) := by decide +kernel
theorem dX5_lineUp_73 : decode cX5_lineUp 73 = .ok (.aload_n 0, 1) := by decide +kernel
theorem dX5_lineUp_74 : decode cX5_lineUp 74 = .ok (.getfield 38, 3) := by decide +kernel
theorem dX5_lineUp_77 : decode cX5_lineUp 77 = .ok (.iload_n 3, 1) := by decide +kernel
theorem dX5_lineUp_78 : decode cX5_lineUp 78 = .ok (.invokevirtual 53, 3) := by decide +kernel
theorem dX5_lineUp_81 : decode cX5_lineUp 81 = .ok (.iastore, 1) := by decide +kernel
theorem dX5_lineUp_82 : decode cX5_lineUp 82 = .ok (.iinc 2 1, 3) := by decide +kernel
theorem dX5_lineUp_85 : decode cX5_lineUp 85 = .ok (.aload_n 0, 1) := by decide +kernel
theorem dX5_lineUp_86 : decode cX5_lineUp 86 = .ok (.getfield 38, 3) := by decide +kernel
theorem dX5_lineUp_89 : decode cX5_lineUp 89 = .ok (.iload_n 3, 1) := by decide +kernel
theorem dX5_lineUp_90 : decode cX5_lineUp 90 = .ok (.invokevirtual 59, 3) := by decide +kernel
theorem dX5_lineUp_93 : decode cX5_lineUp 93 = .ok (.iconst (-1), 1) := by decide +kernel
theorem dX5_lineUp_94 : decode cX5_lineUp 94 = .ok (.if_icmp .eq 20, 3) := by decide +kernel
theorem dX5_lineUp_97 : decode cX5_lineUp 97 = .ok (.aload_n 0, 1) := by decide +kernel
theorem dX5_lineUp_98 : decode cX5_lineUp 98 = .ok (.getfield 15, 3) := by decide +kernel
theorem dX5_lineUp_101 : decode cX5_lineUp 101 = .ok (.iload_n 2, 1) := by decide +kernel
theorem dX5_lineUp_102 : decode cX5_lineUp 102 = .ok (.aload_n 0, 1) := by decide +kernel
theorem dX5_lineUp_103 : decode cX5_lineUp 103 = .ok (.getfield 38, 3) := by decide +kernel
theorem dX5_lineUp_106 : decode cX5_lineUp 106 = .ok (.iload_n 3, 1) := by decide +kernel
theorem dX5_lineUp_107 : decode cX5_lineUp 107 = .ok (.invokevirtual 59, 3) := by decide +kernel
theorem dX5_lineUp_110 : decode cX5_lineUp 110 = .ok (.iastore, 1) := by decide +kernel
theorem dX5_lineUp_111 : decode cX5_lineUp 111 = .ok (.iinc 2 1, 3) := by decide +kernel
theorem dX5_lineUp_114 : decode cX5_lineUp 114 = .ok (.goto (-99), 3) := by decide +kernel
theorem dX5_lineUp_117 : decode cX5_lineUp 117 = .ok (.return_, 1) := by decide +kernel
theorem dX5_bind_0 : decode cX5_bind 0 = .ok (.aload_n 0, 1) := by decide +kernel
theorem dX5_bind_1 : decode cX5_bind 1 = .ok (.getfield 18, 3) := by decide +kernel
theorem dX5_bind_4 : decode cX5_bind 4 = .ok (.iload_n 1, 1) := by decide +kernel
theorem dX5_bind_5 : decode cX5_bind 5 = .ok (.iconst (-1), 1) := by decide +kernel
theorem dX5_bind_6 : decode cX5_bind 6 = .ok (.iastore, 1) := by decide +kernel
theorem dX5_bind_7 : decode cX5_bind 7 = .ok (.aload_n 0, 1) := by decide +kernel
theorem dX5_bind_8 : decode cX5_bind 8 = .ok (.getfield 21, 3) := by decide +kernel
theorem dX5_bind_11 : decode cX5_bind 11 = .ok (.iload_n 1, 1) := by decide +kernel
theorem dX5_bind_12 : decode cX5_bind 12 = .ok (.iconst 0, 1) := by decide +kernel
theorem dX5_bind_13 : decode cX5_bind 13 = .ok (.bastore, 1) := by decide +kernel
theorem dX5_bind_14 : decode cX5_bind 14 = .ok (.aload_n 0, 1) := by decide +kernel
theorem dX5_bind_15 : decode cX5_bind 15 = .ok (.getfield 38, 3) := by decide +kernel
theorem dX5_bind_18 : decode cX5_bind 18 = .ok (.iload_n 1, 1) := by decide +kernel
theorem dX5_bind_19 : decode cX5_bind 19 = .ok (.invokevirtual 65, 3) := by decide +kernel
theorem dX5_bind_22 : decode cX5_bind 22 = .ok (.iconst 5, 1) := by decide +kernel
theorem dX5_bind_23 : decode cX5_bind 23 = .ok (.if_icmp .eq 4, 3) := by decide +kernel
theorem dX5_bind_26 : decode cX5_bind 26 = .ok (.return_, 1) := by decide +kernel
theorem dX5_bind_27 : decode cX5_bind 27 = .ok (.iload_n 1, 1) := by decide +kernel
theorem dX5_bind_28 : decode cX5_bind 28 = .ok (.istore_n 3, 1) := by decide +kernel
theorem dX5_bind_29 : decode cX5_bind 29 = .ok (.iconst 0, 1) := by decide +kernel
theorem dX5_bind_30 : decode cX5_bind 30 = .ok (.istore 4, 2) := by decide +kernel
theorem dX5_bind_32 : decode cX5_bind 32 = .ok (.iload 4, 2) := by decide +kernel
theorem dX5_bind_34 : decode cX5_bind 34 = .ok (.bipush 48, 2) := by decide +kernel
theorem dX5_bind_36 : decode cX5_bind 36 = .ok (.if_icmp .ge 112, 3) := by decide +kernel
theorem dX5_bind_39 : decode cX5_bind 39 = .ok (.iload_n 3, 1) := by decide +kernel
theorem dX5_bind_40 : decode cX5_bind 40 = .ok (.iload_n 2, 1) := by decide +kernel
theorem dX5_bind_41 : decode cX5_bind 41 = .ok (.if_icmp .eq 107, 3) := by decide +kernel
theorem dX5_bind_44 : decode cX5_bind 44 = .ok (.aload_n 0, 1) := by decide +kernel
theorem dX5_bind_45 : decode cX5_bind 45 = .ok (.getfield 18, 3) := by decide +kernel
theorem dX5_bind_48 : decode cX5_bind 48 = .ok (.iload_n 1, 1) := by decide +kernel
theorem dX5_bind_49 : decode cX5_bind 49 = .ok (.iaload, 1) := by decide +kernel
theorem dX5_bind_50 : decode cX5_bind 50 = .ok (.iconst (-1), 1) := by decide +kernel
theorem dX5_bind_51 : decode cX5_bind 51 = .ok (.if_icmp .ne 97, 3) := by decide +kernel
theorem dX5_bind_54 : decode cX5_bind 54 = .ok (.aload_n 0, 1) := by decide +kernel
theorem dX5_bind_55 : decode cX5_bind 55 = .ok (.getfield 38, 3) := by decide +kernel
theorem dX5_bind_58 : decode cX5_bind 58 = .ok (.iload_n 3, 1) := by decide +kernel
theorem dX5_bind_59 : decode cX5_bind 59 = .ok (.invokevirtual 68, 3) := by decide +kernel
theorem dX5_bind_62 : decode cX5_bind 62 = .ok (.istore 5, 2) := by decide +kernel
theorem dX5_bind_64 : decode cX5_bind 64 = .ok (.aload_n 0, 1) := by decide +kernel
theorem dX5_bind_65 : decode cX5_bind 65 = .ok (.getfield 38, 3) := by decide +kernel
theorem dX5_bind_68 : decode cX5_bind 68 = .ok (.iload 5, 2) := by decide +kernel
theorem dX5_bind_70 : decode cX5_bind 70 = .ok (.invokevirtual 65, 3) := by decide +kernel
theorem dX5_bind_73 : decode cX5_bind 73 = .ok (.iconst 3, 1) := by decide +kernel
theorem dX5_bind_74 : decode cX5_bind 74 = .ok (.if_icmp .ne 23, 3) := by decide +kernel
theorem dX5_bind_77 : decode cX5_bind 77 = .ok (.aload_n 0, 1) := by decide +kernel
theorem dX5_bind_78 : decode cX5_bind 78 = .ok (.getfield 38, 3) := by decide +kernel
theorem dX5_bind_81 : decode cX5_bind 81 = .ok (.iload 5, 2) := by decide +kernel
theorem dX5_bind_83 : decode cX5_bind 83 = .ok (.invokevirtual 59, 3) := by decide +kernel
theorem dX5_bind_86 : decode cX5_bind 86 = .ok (.iload_n 3, 1) := by decide +kernel
theorem dX5_bind_87 : decode cX5_bind 87 = .ok (.if_icmp .ne 10, 3) := by decide +kernel
theorem dX5_bind_90 : decode cX5_bind 90 = .ok (.aload_n 0, 1) := by decide +kernel
theorem dX5_bind_91 : decode cX5_bind 91 = .ok (.getfield 21, 3) := by decide +kernel
theorem dX5_bind_94 : decode cX5_bind 94 = .ok (.iload_n 1, 1) := by decide +kernel
theorem dX5_bind_95 : decode cX5_bind 95 = .ok (.iconst 1, 1) := by decide +kernel
theorem dX5_bind_96 : decode cX5_bind 96 = .ok (.bastore, 1) := by decide +kernel
theorem dX5_bind_97 : decode cX5_bind 97 = .ok (.aload_n 0, 1) := by decide +kernel
theorem dX5_bind_98 : decode cX5_bind 98 = .ok (.getfield 38, 3) := by decide +kernel
theorem dX5_bind_101 : decode cX5_bind 101 = .ok (.iload 5, 2) := by decide +kernel
theorem dX5_bind_103 : decode cX5_bind 103 = .ok (.invokevirtual 65, 3) := by decide +kernel
theorem dX5_bind_106 : decode cX5_bind 106 = .ok (.bipush 6, 2) := by decide +kernel
theorem dX5_bind_108 : decode cX5_bind 108 = .ok (.if_icmp .ne 31, 3) := by decide +kernel
theorem dX5_bind_111 : decode cX5_bind 111 = .ok (.aload_n 0, 1) := by decide +kernel
theorem dX5_bind_112 : decode cX5_bind 112 = .ok (.getfield 38, 3) := by decide +kernel
theorem dX5_bind_115 : decode cX5_bind 115 = .ok (.iload 5, 2) := by decide +kernel
theorem dX5_bind_117 : decode cX5_bind 117 = .ok (.invokevirtual 71, 3) := by decide +kernel
theorem dX5_bind_120 : decode cX5_bind 120 = .ok (.aload_n 0, 1) := by decide +kernel
theorem dX5_bind_121 : decode cX5_bind 121 = .ok (.getfield 38, 3) := by decide +kernel
theorem dX5_bind_124 : decode cX5_bind 124 = .ok (.iload_n 1, 1) := by decide +kernel
theorem dX5_bind_125 : decode cX5_bind 125 = .ok (.invokevirtual 71, 3) := by decide +kernel
theorem dX5_bind_128 : decode cX5_bind 128 = .ok (.if_icmp .ne 11, 3) := by decide +kernel
theorem dX5_bind_131 : decode cX5_bind 131 = .ok (.aload_n 0, 1) := by decide +kernel
theorem dX5_bind_132 : decode cX5_bind 132 = .ok (.getfield 18, 3) := by decide +kernel
theorem dX5_bind_135 : decode cX5_bind 135 = .ok (.iload_n 1, 1) := by decide +kernel
theorem dX5_bind_136 : decode cX5_bind 136 = .ok (.iload 5, 2) := by decide +kernel
theorem dX5_bind_138 : decode cX5_bind 138 = .ok (.iastore, 1) := by decide +kernel
theorem dX5_bind_139 : decode cX5_bind 139 = .ok (.iload 5, 2) := by decide +kernel
theorem dX5_bind_141 : decode cX5_bind 141 = .ok (.istore_n 3, 1) := by decide +kernel
theorem dX5_bind_142 : decode cX5_bind 142 = .ok (.iinc 4 1, 3) := by decide +kernel
theorem dX5_bind_145 : decode cX5_bind 145 = .ok (.goto (-113), 3) := by decide +kernel
theorem dX5_bind_148 : decode cX5_bind 148 = .ok (.return_, 1) := by decide +kernel
theorem dX5_inferTypes_0 : decode cX5_inferTypes 0 = .ok (.aload_n 0, 1) := by decide +kernel
theorem dX5_inferTypes_1 : decode cX5_inferTypes 1 = .ok (.getfield 34, 3) := by decide +kernel
theorem dX5_inferTypes_4 : decode cX5_inferTypes 4 = .ok (.istore_n 1, 1) := by decide +kernel
theorem dX5_inferTypes_5 : decode cX5_inferTypes 5 = .ok (.iload_n 1, 1) := by decide +kernel
theorem dX5_inferTypes_6 : decode cX5_inferTypes 6 = .ok (.bipush 48, 2) := by decide +kernel
theorem dX5_inferTypes_8 : decode cX5_inferTypes 8 = .ok (.if_icmp .ge 37, 3) := by decide +kernel
theorem dX5_inferTypes_11 : decode cX5_inferTypes 11 = .ok (.aload_n 0, 1) := by decide +kernel
theorem dX5_inferTypes_12 : decode cX5_inferTypes 12 = .ok (.getfield 9, 3) := by decide +kernel
theorem dX5_inferTypes_15 : decode cX5_inferTypes 15 = .ok (.iload_n 1, 1) := by decide +kernel
theorem dX5_inferTypes_16 : decode cX5_inferTypes 16 = .ok (.iaload, 1) := by decide +kernel
theorem dX5_inferTypes_17 : decode cX5_inferTypes 17 = .ok (.istore_n 2, 1) := by decide +kernel
theorem dX5_inferTypes_18 : decode cX5_inferTypes 18 = .ok (.aload_n 0, 1) := by decide +kernel
theorem dX5_inferTypes_19 : decode cX5_inferTypes 19 = .ok (.getfield 25, 3) := by decide +kernel
theorem dX5_inferTypes_22 : decode cX5_inferTypes 22 = .ok (.iload_n 2, 1) := by decide +kernel
theorem dX5_inferTypes_23 : decode cX5_inferTypes 23 = .ok (.iconst 0, 1) := by decide +kernel
theorem dX5_inferTypes_24 : decode cX5_inferTypes 24 = .ok (.bastore, 1) := by decide +kernel
theorem dX5_inferTypes_25 : decode cX5_inferTypes 25 = .ok (.aload_n 0, 1) := by decide +kernel
theorem dX5_inferTypes_26 : decode cX5_inferTypes 26 = .ok (.getfield 28, 3) := by decide +kernel
theorem dX5_inferTypes_29 : decode cX5_inferTypes 29 = .ok (.iload_n 2, 1) := by decide +kernel
theorem dX5_inferTypes_30 : decode cX5_inferTypes 30 = .ok (.iconst 0, 1) := by decide +kernel
theorem dX5_inferTypes_31 : decode cX5_inferTypes 31 = .ok (.iastore, 1) := by decide +kernel
theorem dX5_inferTypes_32 : decode cX5_inferTypes 32 = .ok (.aload_n 0, 1) := by decide +kernel
theorem dX5_inferTypes_33 : decode cX5_inferTypes 33 = .ok (.getfield 31, 3) := by decide +kernel
theorem dX5_inferTypes_36 : decode cX5_inferTypes 36 = .ok (.iload_n 2, 1) := by decide +kernel
theorem dX5_inferTypes_37 : decode cX5_inferTypes 37 = .ok (.iconst 0, 1) := by decide +kernel
theorem dX5_inferTypes_38 : decode cX5_inferTypes 38 = .ok (.iastore, 1) := by decide +kernel
theorem dX5_inferTypes_39 : decode cX5_inferTypes 39 = .ok (.iinc 1 1, 3) := by decide +kernel
theorem dX5_inferTypes_42 : decode cX5_inferTypes 42 = .ok (.goto (-37), 3) := by decide +kernel
theorem dX5_inferTypes_45 : decode cX5_inferTypes 45 = .ok (.iconst 1, 1) := by decide +kernel
theorem dX5_inferTypes_46 : decode cX5_inferTypes 46 = .ok (.istore_n 1, 1) := by decide +kernel
theorem dX5_inferTypes_47 : decode cX5_inferTypes 47 = .ok (.iconst 0, 1) := by decide +kernel
theorem dX5_inferTypes_48 : decode cX5_inferTypes 48 = .ok (.istore_n 2, 1) := by decide +kernel
theorem dX5_inferTypes_49 : decode cX5_inferTypes 49 = .ok (.iload_n 1, 1) := by decide +kernel
theorem dX5_inferTypes_50 : decode cX5_inferTypes 50 = .ok (.ifCond .eq 50, 3) := by decide +kernel
theorem dX5_inferTypes_53 : decode cX5_inferTypes 53 = .ok (.iload_n 2, 1) := by decide +kernel
theorem dX5_inferTypes_54 : decode cX5_inferTypes 54 = .ok (.sipush 817, 3) := by decide +kernel
theorem dX5_inferTypes_57 : decode cX5_inferTypes 57 = .ok (.if_icmp .ge 43, 3) := by decide +kernel
theorem dX5_inferTypes_60 : decode cX5_inferTypes 60 = .ok (.iconst 0, 1) := by decide +kernel
theorem dX5_inferTypes_61 : decode cX5_inferTypes 61 = .ok (.istore_n 1, 1) := by decide +kernel
theorem dX5_inferTypes_62 : decode cX5_inferTypes 62 = .ok (.aload_n 0, 1) := by decide +kernel
theorem dX5_inferTypes_63 : decode cX5_inferTypes 63 = .ok (.getfield 34, 3) := by decide +kernel
theorem dX5_inferTypes_66 : decode cX5_inferTypes 66 = .ok (.istore_n 3, 1) := by decide +kernel
theorem dX5_inferTypes_67 : decode cX5_inferTypes 67 = .ok (.iload_n 3, 1) := by decide +kernel
theorem dX5_inferTypes_68 : decode cX5_inferTypes 68 = .ok (.bipush 48, 2) := by decide +kernel
theorem dX5_inferTypes_70 : decode cX5_inferTypes 70 = .ok (.if_icmp .ge 24, 3) := by decide +kernel
theorem dX5_inferTypes_73 : decode cX5_inferTypes 73 = .ok (.aload_n 0, 1) := by decide +kernel
theorem dX5_inferTypes_74 : decode cX5_inferTypes 74 = .ok (.aload_n 0, 1) := by decide +kernel
theorem dX5_inferTypes_75 : decode cX5_inferTypes 75 = .ok (.getfield 9, 3) := by decide +kernel
theorem dX5_inferTypes_78 : decode cX5_inferTypes 78 = .ok (.iload_n 3, 1) := by decide +kernel
theorem dX5_inferTypes_79 : decode cX5_inferTypes 79 = .ok (.iaload, 1) := by decide +kernel
theorem dX5_inferTypes_80 : decode cX5_inferTypes 80 = .ok (.invokevirtual 74, 3) := by decide +kernel
theorem dX5_inferTypes_83 : decode cX5_inferTypes 83 = .ok (.ifCond .eq 5, 3) := by decide +kernel
theorem dX5_inferTypes_86 : decode cX5_inferTypes 86 = .ok (.iconst 1, 1) := by decide +kernel
theorem dX5_inferTypes_87 : decode cX5_inferTypes 87 = .ok (.istore_n 1, 1) := by decide +kernel
theorem dX5_inferTypes_88 : decode cX5_inferTypes 88 = .ok (.iinc 3 1, 3) := by decide +kernel
theorem dX5_inferTypes_91 : decode cX5_inferTypes 91 = .ok (.goto (-24), 3) := by decide +kernel
theorem dX5_inferTypes_94 : decode cX5_inferTypes 94 = .ok (.iinc 2 1, 3) := by decide +kernel
theorem dX5_inferTypes_97 : decode cX5_inferTypes 97 = .ok (.goto (-48), 3) := by decide +kernel
theorem dX5_inferTypes_100 : decode cX5_inferTypes 100 = .ok (.return_, 1) := by decide +kernel
theorem dX5_widen_0 : decode cX5_widen 0 = .ok (.aload_n 0, 1) := by decide +kernel
theorem dX5_widen_1 : decode cX5_widen 1 = .ok (.getfield 38, 3) := by decide +kernel
theorem dX5_widen_4 : decode cX5_widen 4 = .ok (.iload_n 1, 1) := by decide +kernel
theorem dX5_widen_5 : decode cX5_widen 5 = .ok (.invokevirtual 65, 3) := by decide +kernel
theorem dX5_widen_8 : decode cX5_widen 8 = .ok (.tableswitch 159 0 6 #[44, 159, 53, 71, 93, 133, 145], 44) := by decide +kernel
theorem dX5_widen_52 : decode cX5_widen 52 = .ok (.aload_n 0, 1) := by decide +kernel
theorem dX5_widen_53 : decode cX5_widen 53 = .ok (.iload_n 1, 1) := by decide +kernel
theorem dX5_widen_54 : decode cX5_widen 54 = .ok (.iconst 1, 1) := by decide +kernel
theorem dX5_widen_55 : decode cX5_widen 55 = .ok (.iconst 0, 1) := by decide +kernel
theorem dX5_widen_56 : decode cX5_widen 56 = .ok (.iconst 0, 1) := by decide +kernel
theorem dX5_widen_57 : decode cX5_widen 57 = .ok (.invokevirtual 78, 3) := by decide +kernel
theorem dX5_widen_60 : decode cX5_widen 60 = .ok (.ireturn, 1) := by decide +kernel
theorem dX5_widen_61 : decode cX5_widen 61 = .ok (.aload_n 0, 1) := by decide +kernel
theorem dX5_widen_62 : decode cX5_widen 62 = .ok (.iload_n 1, 1) := by decide +kernel
theorem dX5_widen_63 : decode cX5_widen 63 = .ok (.iconst 0, 1) := by decide +kernel
theorem dX5_widen_64 : decode cX5_widen 64 = .ok (.iconst 1, 1) := by decide +kernel
theorem dX5_widen_65 : decode cX5_widen 65 = .ok (.aload_n 0, 1) := by decide +kernel
theorem dX5_widen_66 : decode cX5_widen 66 = .ok (.getfield 38, 3) := by decide +kernel
theorem dX5_widen_69 : decode cX5_widen 69 = .ok (.iload_n 1, 1) := by decide +kernel
theorem dX5_widen_70 : decode cX5_widen 70 = .ok (.invokevirtual 71, 3) := by decide +kernel
theorem dX5_widen_73 : decode cX5_widen 73 = .ok (.ishl, 1) := by decide +kernel
theorem dX5_widen_74 : decode cX5_widen 74 = .ok (.iconst 0, 1) := by decide +kernel
theorem dX5_widen_75 : decode cX5_widen 75 = .ok (.invokevirtual 78, 3) := by decide +kernel
theorem dX5_widen_78 : decode cX5_widen 78 = .ok (.ireturn, 1) := by decide +kernel
theorem dX5_widen_79 : decode cX5_widen 79 = .ok (.aload_n 0, 1) := by decide +kernel
theorem dX5_widen_80 : decode cX5_widen 80 = .ok (.iload_n 1, 1) := by decide +kernel
theorem dX5_widen_81 : decode cX5_widen 81 = .ok (.aload_n 0, 1) := by decide +kernel
theorem dX5_widen_82 : decode cX5_widen 82 = .ok (.getfield 38, 3) := by decide +kernel
theorem dX5_widen_85 : decode cX5_widen 85 = .ok (.iload_n 1, 1) := by decide +kernel
theorem dX5_widen_86 : decode cX5_widen 86 = .ok (.invokevirtual 53, 3) := by decide +kernel
theorem dX5_widen_89 : decode cX5_widen 89 = .ok (.aload_n 0, 1) := by decide +kernel
theorem dX5_widen_90 : decode cX5_widen 90 = .ok (.getfield 38, 3) := by decide +kernel
theorem dX5_widen_93 : decode cX5_widen 93 = .ok (.iload_n 1, 1) := by decide +kernel
theorem dX5_widen_94 : decode cX5_widen 94 = .ok (.invokevirtual 59, 3) := by decide +kernel
theorem dX5_widen_97 : decode cX5_widen 97 = .ok (.invokevirtual 82, 3) := by decide +kernel
theorem dX5_widen_100 : decode cX5_widen 100 = .ok (.ireturn, 1) := by decide +kernel
theorem dX5_widen_101 : decode cX5_widen 101 = .ok (.aload_n 0, 1) := by decide +kernel
theorem dX5_widen_102 : decode cX5_widen 102 = .ok (.iload_n 1, 1) := by decide +kernel
theorem dX5_widen_103 : decode cX5_widen 103 = .ok (.aload_n 0, 1) := by decide +kernel
theorem dX5_widen_104 : decode cX5_widen 104 = .ok (.getfield 38, 3) := by decide +kernel
theorem dX5_widen_107 : decode cX5_widen 107 = .ok (.iload_n 1, 1) := by decide +kernel
theorem dX5_widen_108 : decode cX5_widen 108 = .ok (.invokevirtual 53, 3) := by decide +kernel
theorem dX5_widen_111 : decode cX5_widen 111 = .ok (.invokevirtual 86, 3) := by decide +kernel
theorem dX5_widen_114 : decode cX5_widen 114 = .ok (.istore_n 2, 1) := by decide +kernel
theorem dX5_widen_115 : decode cX5_widen 115 = .ok (.aload_n 0, 1) := by decide +kernel
theorem dX5_widen_116 : decode cX5_widen 116 = .ok (.iload_n 1, 1) := by decide +kernel
theorem dX5_widen_117 : decode cX5_widen 117 = .ok (.aload_n 0, 1) := by decide +kernel
theorem dX5_widen_118 : decode cX5_widen 118 = .ok (.getfield 38, 3) := by decide +kernel
theorem dX5_widen_121 : decode cX5_widen 121 = .ok (.iload_n 1, 1) := by decide +kernel
theorem dX5_widen_122 : decode cX5_widen 122 = .ok (.invokevirtual 59, 3) := by decide +kernel
theorem dX5_widen_125 : decode cX5_widen 125 = .ok (.invokevirtual 86, 3) := by decide +kernel
theorem dX5_widen_128 : decode cX5_widen 128 = .ok (.ifCond .ne 7, 3) := by decide +kernel
theorem dX5_widen_131 : decode cX5_widen 131 = .ok (.iload_n 2, 1) := by decide +kernel
theorem dX5_widen_132 : decode cX5_widen 132 = .ok (.ifCond .eq 7, 3) := by decide +kernel
theorem dX5_widen_135 : decode cX5_widen 135 = .ok (.iconst 1, 1) := by decide +kernel
theorem dX5_widen_136 : decode cX5_widen 136 = .ok (.goto 4, 3) := by decide +kernel
theorem dX5_widen_139 : decode cX5_widen 139 = .ok (.iconst 0, 1) := by decide +kernel
theorem dX5_widen_140 : decode cX5_widen 140 = .ok (.ireturn, 1) := by decide +kernel
theorem dX5_widen_141 : decode cX5_widen 141 = .ok (.aload_n 0, 1) := by decide +kernel
theorem dX5_widen_142 : decode cX5_widen 142 = .ok (.iload_n 1, 1) := by decide +kernel
theorem dX5_widen_143 : decode cX5_widen 143 = .ok (.aload_n 0, 1) := by decide +kernel
theorem dX5_widen_144 : decode cX5_widen 144 = .ok (.getfield 18, 3) := by decide +kernel
theorem dX5_widen_147 : decode cX5_widen 147 = .ok (.iload_n 1, 1) := by decide +kernel
theorem dX5_widen_148 : decode cX5_widen 148 = .ok (.iaload, 1) := by decide +kernel
theorem dX5_widen_149 : decode cX5_widen 149 = .ok (.invokevirtual 86, 3) := by decide +kernel
theorem dX5_widen_152 : decode cX5_widen 152 = .ok (.ireturn, 1) := by decide +kernel
theorem dX5_widen_153 : decode cX5_widen 153 = .ok (.aload_n 0, 1) := by decide +kernel
theorem dX5_widen_154 : decode cX5_widen 154 = .ok (.iload_n 1, 1) := by decide +kernel
theorem dX5_widen_155 : decode cX5_widen 155 = .ok (.aload_n 0, 1) := by decide +kernel
theorem dX5_widen_156 : decode cX5_widen 156 = .ok (.getfield 38, 3) := by decide +kernel
theorem dX5_widen_159 : decode cX5_widen 159 = .ok (.iload_n 1, 1) := by decide +kernel
theorem dX5_widen_160 : decode cX5_widen 160 = .ok (.invokevirtual 53, 3) := by decide +kernel
theorem dX5_widen_163 : decode cX5_widen 163 = .ok (.invokevirtual 86, 3) := by decide +kernel
theorem dX5_widen_166 : decode cX5_widen 166 = .ok (.ireturn, 1) := by decide +kernel
theorem dX5_widen_167 : decode cX5_widen 167 = .ok (.iconst 0, 1) := by decide +kernel
theorem dX5_widen_168 : decode cX5_widen 168 = .ok (.ireturn, 1) := by decide +kernel
theorem dX5_widenPair_0 : decode cX5_widenPair 0 = .ok (.aload_n 0, 1) := by decide +kernel
theorem dX5_widenPair_1 : decode cX5_widenPair 1 = .ok (.getfield 28, 3) := by decide +kernel
theorem dX5_widenPair_4 : decode cX5_widenPair 4 = .ok (.iload_n 2, 1) := by decide +kernel
theorem dX5_widenPair_5 : decode cX5_widenPair 5 = .ok (.iaload, 1) := by decide +kernel
theorem dX5_widenPair_6 : decode cX5_widenPair 6 = .ok (.aload_n 0, 1) := by decide +kernel
theorem dX5_widenPair_7 : decode cX5_widenPair 7 = .ok (.getfield 25, 3) := by decide +kernel
theorem dX5_widenPair_10 : decode cX5_widenPair 10 = .ok (.iload_n 2, 1) := by decide +kernel
theorem dX5_widenPair_11 : decode cX5_widenPair 11 = .ok (.baload, 1) := by decide +kernel
theorem dX5_widenPair_12 : decode cX5_widenPair 12 = .ok (.ifCond .eq 12, 3) := by decide +kernel
theorem dX5_widenPair_15 : decode cX5_widenPair 15 = .ok (.aload_n 0, 1) := by decide +kernel
theorem dX5_widenPair_16 : decode cX5_widenPair 16 = .ok (.getfield 28, 3) := by decide +kernel
theorem dX5_widenPair_19 : decode cX5_widenPair 19 = .ok (.iload_n 3, 1) := by decide +kernel
theorem dX5_widenPair_20 : decode cX5_widenPair 20 = .ok (.iaload, 1) := by decide +kernel
theorem dX5_widenPair_21 : decode cX5_widenPair 21 = .ok (.goto 4, 3) := by decide +kernel
theorem dX5_widenPair_24 : decode cX5_widenPair 24 = .ok (.iconst 0, 1) := by decide +kernel
theorem dX5_widenPair_25 : decode cX5_widenPair 25 = .ok (.ior, 1) := by decide +kernel
theorem dX5_widenPair_26 : decode cX5_widenPair 26 = .ok (.istore 4, 2) := by decide +kernel
theorem dX5_widenPair_28 : decode cX5_widenPair 28 = .ok (.aload_n 0, 1) := by decide +kernel
theorem dX5_widenPair_29 : decode cX5_widenPair 29 = .ok (.getfield 31, 3) := by decide +kernel
theorem dX5_widenPair_32 : decode cX5_widenPair 32 = .ok (.iload_n 3, 1) := by decide +kernel
theorem dX5_widenPair_33 : decode cX5_widenPair 33 = .ok (.iaload, 1) := by decide +kernel
theorem dX5_widenPair_34 : decode cX5_widenPair 34 = .ok (.aload_n 0, 1) := by decide +kernel
theorem dX5_widenPair_35 : decode cX5_widenPair 35 = .ok (.getfield 25, 3) := by decide +kernel
theorem dX5_widenPair_38 : decode cX5_widenPair 38 = .ok (.iload_n 3, 1) := by decide +kernel
theorem dX5_widenPair_39 : decode cX5_widenPair 39 = .ok (.baload, 1) := by decide +kernel
theorem dX5_widenPair_40 : decode cX5_widenPair 40 = .ok (.ifCond .eq 19, 3) := by decide +kernel
theorem dX5_widenPair_43 : decode cX5_widenPair 43 = .ok (.aload_n 0, 1) := by decide +kernel
theorem dX5_widenPair_44 : decode cX5_widenPair 44 = .ok (.getfield 28, 3) := by decide +kernel
theorem dX5_widenPair_47 : decode cX5_widenPair 47 = .ok (.iload_n 3, 1) := by decide +kernel
theorem dX5_widenPair_48 : decode cX5_widenPair 48 = .ok (.iaload, 1) := by decide +kernel
theorem dX5_widenPair_49 : decode cX5_widenPair 49 = .ok (.aload_n 0, 1) := by decide +kernel
theorem dX5_widenPair_50 : decode cX5_widenPair 50 = .ok (.getfield 31, 3) := by decide +kernel
theorem dX5_widenPair_53 : decode cX5_widenPair 53 = .ok (.iload_n 2, 1) := by decide +kernel
theorem dX5_widenPair_54 : decode cX5_widenPair 54 = .ok (.iaload, 1) := by decide +kernel
theorem dX5_widenPair_55 : decode cX5_widenPair 55 = .ok (.ior, 1) := by decide +kernel
theorem dX5_widenPair_56 : decode cX5_widenPair 56 = .ok (.goto 4, 3) := by decide +kernel
theorem dX5_widenPair_59 : decode cX5_widenPair 59 = .ok (.iconst 0, 1) := by decide +kernel
theorem dX5_widenPair_60 : decode cX5_widenPair 60 = .ok (.ior, 1) := by decide +kernel
theorem dX5_widenPair_61 : decode cX5_widenPair 61 = .ok (.istore 5, 2) := by decide +kernel
theorem dX5_widenPair_63 : decode cX5_widenPair 63 = .ok (.aload_n 0, 1) := by decide +kernel
theorem dX5_widenPair_64 : decode cX5_widenPair 64 = .ok (.iload_n 1, 1) := by decide +kernel
theorem dX5_widenPair_65 : decode cX5_widenPair 65 = .ok (.aload_n 0, 1) := by decide +kernel
theorem dX5_widenPair_66 : decode cX5_widenPair 66 = .ok (.getfield 25, 3) := by decide +kernel
theorem dX5_widenPair_69 : decode cX5_widenPair 69 = .ok (.iload_n 2, 1) := by decide +kernel
theorem dX5_widenPair_70 : decode cX5_widenPair 70 = .ok (.baload, 1) := by decide +kernel
theorem dX5_widenPair_71 : decode cX5_widenPair 71 = .ok (.ifCond .eq 16, 3) := by decide +kernel
theorem dX5_widenPair_74 : decode cX5_widenPair 74 = .ok (.aload_n 0, 1) := by decide +kernel
theorem dX5_widenPair_75 : decode cX5_widenPair 75 = .ok (.getfield 25, 3) := by decide +kernel
theorem dX5_widenPair_78 : decode cX5_widenPair 78 = .ok (.iload_n 3, 1) := by decide +kernel
theorem dX5_widenPair_79 : decode cX5_widenPair 79 = .ok (.baload, 1) := by decide +kernel
theorem dX5_widenPair_80 : decode cX5_widenPair 80 = .ok (.ifCond .eq 7, 3) := by decide +kernel
theorem dX5_widenPair_83 : decode cX5_widenPair 83 = .ok (.iconst 1, 1) := by decide +kernel
theorem dX5_widenPair_84 : decode cX5_widenPair 84 = .ok (.goto 4, 3) := by decide +kernel
theorem dX5_widenPair_87 : decode cX5_widenPair 87 = .ok (.iconst 0, 1) := by decide +kernel
theorem dX5_widenPair_88 : decode cX5_widenPair 88 = .ok (.iload 4, 2) := by decide +kernel
theorem dX5_widenPair_90 : decode cX5_widenPair 90 = .ok (.iload 5, 2) := by decide +kernel
theorem dX5_widenPair_92 : decode cX5_widenPair 92 = .ok (.invokevirtual 78, 3) := by decide +kernel
theorem dX5_widenPair_95 : decode cX5_widenPair 95 = .ok (.ireturn, 1) := by decide +kernel
theorem dX5_addTypeOf_0 : decode cX5_addTypeOf 0 = .ok (.iload_n 2, 1) := by decide +kernel
theorem dX5_addTypeOf_1 : decode cX5_addTypeOf 1 = .ok (.iconst (-1), 1) := by decide +kernel
theorem dX5_addTypeOf_2 : decode cX5_addTypeOf 2 = .ok (.if_icmp .eq 33, 3) := by decide +kernel
theorem dX5_addTypeOf_5 : decode cX5_addTypeOf 5 = .ok (.aload_n 0, 1) := by decide +kernel
theorem dX5_addTypeOf_6 : decode cX5_addTypeOf 6 = .ok (.iload_n 1, 1) := by decide +kernel
theorem dX5_addTypeOf_7 : decode cX5_addTypeOf 7 = .ok (.aload_n 0, 1) := by decide +kernel
theorem dX5_addTypeOf_8 : decode cX5_addTypeOf 8 = .ok (.getfield 25, 3) := by decide +kernel
theorem dX5_addTypeOf_11 : decode cX5_addTypeOf 11 = .ok (.iload_n 2, 1) := by decide +kernel
theorem dX5_addTypeOf_12 : decode cX5_addTypeOf 12 = .ok (.baload, 1) := by decide +kernel
theorem dX5_addTypeOf_13 : decode cX5_addTypeOf 13 = .ok (.aload_n 0, 1) := by decide +kernel
theorem dX5_addTypeOf_14 : decode cX5_addTypeOf 14 = .ok (.getfield 28, 3) := by decide +kernel
theorem dX5_addTypeOf_17 : decode cX5_addTypeOf 17 = .ok (.iload_n 2, 1) := by decide +kernel
theorem dX5_addTypeOf_18 : decode cX5_addTypeOf 18 = .ok (.iaload, 1) := by decide +kernel
theorem dX5_addTypeOf_19 : decode cX5_addTypeOf 19 = .ok (.aload_n 0, 1) := by decide +kernel
theorem dX5_addTypeOf_20 : decode cX5_addTypeOf 20 = .ok (.getfield 31, 3) := by decide +kernel
theorem dX5_addTypeOf_23 : decode cX5_addTypeOf 23 = .ok (.iload_n 2, 1) := by decide +kernel
theorem dX5_addTypeOf_24 : decode cX5_addTypeOf 24 = .ok (.iaload, 1) := by decide +kernel
theorem dX5_addTypeOf_25 : decode cX5_addTypeOf 25 = .ok (.invokevirtual 78, 3) := by decide +kernel
theorem dX5_addTypeOf_28 : decode cX5_addTypeOf 28 = .ok (.ifCond .eq 7, 3) := by decide +kernel
theorem dX5_addTypeOf_31 : decode cX5_addTypeOf 31 = .ok (.iconst 1, 1) := by decide +kernel
theorem dX5_addTypeOf_32 : decode cX5_addTypeOf 32 = .ok (.goto 4, 3) := by decide +kernel
theorem dX5_addTypeOf_35 : decode cX5_addTypeOf 35 = .ok (.iconst 0, 1) := by decide +kernel
theorem dX5_addTypeOf_36 : decode cX5_addTypeOf 36 = .ok (.ireturn, 1) := by decide +kernel
theorem dX5_addToType_0 : decode cX5_addToType 0 = .ok (.iload_n 2, 1) := by decide +kernel
theorem dX5_addToType_1 : decode cX5_addToType 1 = .ok (.ifCond .eq 12, 3) := by decide +kernel
theorem dX5_addToType_4 : decode cX5_addToType 4 = .ok (.aload_n 0, 1) := by decide +kernel
theorem dX5_addToType_5 : decode cX5_addToType 5 = .ok (.getfield 25, 3) := by decide +kernel
theorem dX5_addToType_8 : decode cX5_addToType 8 = .ok (.iload_n 1, 1) := by decide +kernel
theorem dX5_addToType_9 : decode cX5_addToType 9 = .ok (.baload, 1) := by decide +kernel
theorem dX5_addToType_10 : decode cX5_addToType 10 = .ok (.ifCond .eq 30, 3) := by decide +kernel
theorem dX5_addToType_13 : decode cX5_addToType 13 = .ok (.iload_n 3, 1) := by decide +kernel
theorem dX5_addToType_14 : decode cX5_addToType 14 = .ok (.aload_n 0, 1) := by decide +kernel
theorem dX5_addToType_15 : decode cX5_addToType 15 = .ok (.getfield 28, 3) := by decide +kernel
theorem dX5_addToType_18 : decode cX5_addToType 18 = .ok (.iload_n 1, 1) := by decide +kernel
theorem dX5_addToType_19 : decode cX5_addToType 19 = .ok (.iaload, 1) := by decide +kernel
theorem dX5_addToType_20 : decode cX5_addToType 20 = .ok (.iconst (-1), 1) := by decide +kernel
theorem dX5_addToType_21 : decode cX5_addToType 21 = .ok (.ixor, 1) := by decide +kernel
theorem dX5_addToType_22 : decode cX5_addToType 22 = .ok (.iand, 1) := by decide +kernel
