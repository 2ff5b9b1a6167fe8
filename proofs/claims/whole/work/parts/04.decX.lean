theorem dX0_init_0 : decode cX0_init 0 = .ok (.aload_n 0, 1) := by decide +kernel
theorem dX0_init_1 : decode cX0_init 1 = .ok (.invokespecial 3, 3) := by decide +kernel
theorem dX0_init_4 : decode cX0_init 4 = .ok (.aload_n 0, 1) := by decide +kernel
theorem dX0_init_5 : decode cX0_init 5 = .ok (.iconst 4, 1) := by decide +kernel
theorem dX0_init_6 : decode cX0_init 6 = .ok (.newarray .int, 2) := by decide +kernel
theorem dX0_init_8 : decode cX0_init 8 = .ok (.putfield 9, 3) := by decide +kernel
theorem dX0_init_11 : decode cX0_init 11 = .ok (.aload_n 0, 1) := by decide +kernel
theorem dX0_init_12 : decode cX0_init 12 = .ok (.bipush 16, 2) := by decide +kernel
theorem dX0_init_14 : decode cX0_init 14 = .ok (.newarray .int, 2) := by decide +kernel
theorem dX0_init_16 : decode cX0_init 16 = .ok (.putfield 15, 3) := by decide +kernel
theorem dX0_init_19 : decode cX0_init 19 = .ok (.aload_n 0, 1) := by decide +kernel
theorem dX0_init_20 : decode cX0_init 20 = .ok (.bipush 16, 2) := by decide +kernel
theorem dX0_init_22 : decode cX0_init 22 = .ok (.newarray .int, 2) := by decide +kernel
theorem dX0_init_24 : decode cX0_init 24 = .ok (.putfield 18, 3) := by decide +kernel
theorem dX0_init_27 : decode cX0_init 27 = .ok (.aload_n 0, 1) := by decide +kernel
theorem dX0_init_28 : decode cX0_init 28 = .ok (.bipush 16, 2) := by decide +kernel
theorem dX0_init_30 : decode cX0_init 30 = .ok (.newarray .long, 2) := by decide +kernel
theorem dX0_init_32 : decode cX0_init 32 = .ok (.putfield 21, 3) := by decide +kernel
theorem dX0_init_35 : decode cX0_init 35 = .ok (.aload_n 0, 1) := by decide +kernel
theorem dX0_init_36 : decode cX0_init 36 = .ok (.bipush 16, 2) := by decide +kernel
theorem dX0_init_38 : decode cX0_init 38 = .ok (.newarray .int, 2) := by decide +kernel
theorem dX0_init_40 : decode cX0_init 40 = .ok (.putfield 25, 3) := by decide +kernel
theorem dX0_init_43 : decode cX0_init 43 = .ok (.aload_n 0, 1) := by decide +kernel
theorem dX0_init_44 : decode cX0_init 44 = .ok (.bipush 6, 2) := by decide +kernel
theorem dX0_init_46 : decode cX0_init 46 = .ok (.newarray .int, 2) := by decide +kernel
theorem dX0_init_48 : decode cX0_init 48 = .ok (.putfield 28, 3) := by decide +kernel
theorem dX0_init_51 : decode cX0_init 51 = .ok (.aload_n 0, 1) := by decide +kernel
theorem dX0_init_52 : decode cX0_init 52 = .ok (.bipush 108, 2) := by decide +kernel
theorem dX0_init_54 : decode cX0_init 54 = .ok (.newarray .int, 2) := by decide +kernel
theorem dX0_init_56 : decode cX0_init 56 = .ok (.putfield 31, 3) := by decide +kernel
theorem dX0_init_59 : decode cX0_init 59 = .ok (.aload_n 0, 1) := by decide +kernel
theorem dX0_init_60 : decode cX0_init 60 = .ok (.sipush 384, 3) := by decide +kernel
theorem dX0_init_63 : decode cX0_init 63 = .ok (.newarray .int, 2) := by decide +kernel
theorem dX0_init_65 : decode cX0_init 65 = .ok (.putfield 34, 3) := by decide +kernel
theorem dX0_init_68 : decode cX0_init 68 = .ok (.aload_n 0, 1) := by decide +kernel
theorem dX0_init_69 : decode cX0_init 69 = .ok (.aload_n 1, 1) := by decide +kernel
theorem dX0_init_70 : decode cX0_init 70 = .ok (.putfield 37, 3) := by decide +kernel
theorem dX0_init_73 : decode cX0_init 73 = .ok (.aload_n 0, 1) := by decide +kernel
theorem dX0_init_74 : decode cX0_init 74 = .ok (.aload_n 2, 1) := by decide +kernel
theorem dX0_init_75 : decode cX0_init 75 = .ok (.putfield 41, 3) := by decide +kernel
theorem dX0_init_78 : decode cX0_init 78 = .ok (.return_, 1) := by decide +kernel
theorem dX0_begin_0 : decode cX0_begin 0 = .ok (.aload_n 0, 1) := by decide +kernel
theorem dX0_begin_1 : decode cX0_begin 1 = .ok (.iconst 0, 1) := by decide +kernel
theorem dX0_begin_2 : decode cX0_begin 2 = .ok (.putfield 45, 3) := by decide +kernel
theorem dX0_begin_5 : decode cX0_begin 5 = .ok (.aload_n 0, 1) := by decide +kernel
theorem dX0_begin_6 : decode cX0_begin 6 = .ok (.iconst 0, 1) := by decide +kernel
theorem dX0_begin_7 : decode cX0_begin 7 = .ok (.putfield 49, 3) := by decide +kernel
theorem dX0_begin_10 : decode cX0_begin 10 = .ok (.aload_n 0, 1) := by decide +kernel
theorem dX0_begin_11 : decode cX0_begin 11 = .ok (.iconst 0, 1) := by decide +kernel
theorem dX0_begin_12 : decode cX0_begin 12 = .ok (.putfield 53, 3) := by decide +kernel
theorem dX0_begin_15 : decode cX0_begin 15 = .ok (.aload_n 0, 1) := by decide +kernel
theorem dX0_begin_16 : decode cX0_begin 16 = .ok (.getfield 9, 3) := by decide +kernel
theorem dX0_begin_19 : decode cX0_begin 19 = .ok (.iconst 0, 1) := by decide +kernel
theorem dX0_begin_20 : decode cX0_begin 20 = .ok (.invokestatic 56, 3) := by decide +kernel
theorem dX0_begin_23 : decode cX0_begin 23 = .ok (.aload_n 0, 1) := by decide +kernel
theorem dX0_begin_24 : decode cX0_begin 24 = .ok (.getfield 15, 3) := by decide +kernel
theorem dX0_begin_27 : decode cX0_begin 27 = .ok (.iconst 0, 1) := by decide +kernel
theorem dX0_begin_28 : decode cX0_begin 28 = .ok (.invokestatic 56, 3) := by decide +kernel
theorem dX0_begin_31 : decode cX0_begin 31 = .ok (.aload_n 0, 1) := by decide +kernel
theorem dX0_begin_32 : decode cX0_begin 32 = .ok (.getfield 18, 3) := by decide +kernel
theorem dX0_begin_35 : decode cX0_begin 35 = .ok (.iconst 0, 1) := by decide +kernel
theorem dX0_begin_36 : decode cX0_begin 36 = .ok (.invokestatic 56, 3) := by decide +kernel
theorem dX0_begin_39 : decode cX0_begin 39 = .ok (.aload_n 0, 1) := by decide +kernel
theorem dX0_begin_40 : decode cX0_begin 40 = .ok (.getfield 21, 3) := by decide +kernel
theorem dX0_begin_43 : decode cX0_begin 43 = .ok (.lconst 0, 1) := by decide +kernel
theorem dX0_begin_44 : decode cX0_begin 44 = .ok (.invokestatic 62, 3) := by decide +kernel
theorem dX0_begin_47 : decode cX0_begin 47 = .ok (.aload_n 0, 1) := by decide +kernel
theorem dX0_begin_48 : decode cX0_begin 48 = .ok (.getfield 25, 3) := by decide +kernel
theorem dX0_begin_51 : decode cX0_begin 51 = .ok (.iconst 0, 1) := by decide +kernel
theorem dX0_begin_52 : decode cX0_begin 52 = .ok (.invokestatic 56, 3) := by decide +kernel
theorem dX0_begin_55 : decode cX0_begin 55 = .ok (.aload_n 0, 1) := by decide +kernel
theorem dX0_begin_56 : decode cX0_begin 56 = .ok (.iconst 0, 1) := by decide +kernel
theorem dX0_begin_57 : decode cX0_begin 57 = .ok (.putfield 65, 3) := by decide +kernel
theorem dX0_begin_60 : decode cX0_begin 60 = .ok (.aload_n 0, 1) := by decide +kernel
theorem dX0_begin_61 : decode cX0_begin 61 = .ok (.iconst 0, 1) := by decide +kernel
theorem dX0_begin_62 : decode cX0_begin 62 = .ok (.putfield 68, 3) := by decide +kernel
theorem dX0_begin_65 : decode cX0_begin 65 = .ok (.aload_n 0, 1) := by decide +kernel
theorem dX0_begin_66 : decode cX0_begin 66 = .ok (.lconst 0, 1) := by decide +kernel
theorem dX0_begin_67 : decode cX0_begin 67 = .ok (.putfield 71, 3) := by decide +kernel
theorem dX0_begin_70 : decode cX0_begin 70 = .ok (.aload_n 0, 1) := by decide +kernel
theorem dX0_begin_71 : decode cX0_begin 71 = .ok (.iconst 0, 1) := by decide +kernel
theorem dX0_begin_72 : decode cX0_begin 72 = .ok (.putfield 75, 3) := by decide +kernel
theorem dX0_begin_75 : decode cX0_begin 75 = .ok (.aload_n 0, 1) := by decide +kernel
theorem dX0_begin_76 : decode cX0_begin 76 = .ok (.iconst 0, 1) := by decide +kernel
theorem dX0_begin_77 : decode cX0_begin 77 = .ok (.putfield 78, 3) := by decide +kernel
theorem dX0_begin_80 : decode cX0_begin 80 = .ok (.aload_n 0, 1) := by decide +kernel
theorem dX0_begin_81 : decode cX0_begin 81 = .ok (.getfield 31, 3) := by decide +kernel
theorem dX0_begin_84 : decode cX0_begin 84 = .ok (.iconst 0, 1) := by decide +kernel
theorem dX0_begin_85 : decode cX0_begin 85 = .ok (.invokestatic 56, 3) := by decide +kernel
theorem dX0_begin_88 : decode cX0_begin 88 = .ok (.aload_n 0, 1) := by decide +kernel
theorem dX0_begin_89 : decode cX0_begin 89 = .ok (.getfield 34, 3) := by decide +kernel
theorem dX0_begin_92 : decode cX0_begin 92 = .ok (.iconst 0, 1) := by decide +kernel
theorem dX0_begin_93 : decode cX0_begin 93 = .ok (.invokestatic 56, 3) := by decide +kernel
theorem dX0_begin_96 : decode cX0_begin 96 = .ok (.return_, 1) := by decide +kernel
theorem dX0_goOneCycle_0 : decode cX0_goOneCycle 0 = .ok (.aload_n 0, 1) := by decide +kernel
theorem dX0_goOneCycle_1 : decode cX0_goOneCycle 1 = .ok (.dup, 1) := by decide +kernel
theorem dX0_goOneCycle_2 : decode cX0_goOneCycle 2 = .ok (.getfield 45, 3) := by decide +kernel
theorem dX0_goOneCycle_5 : decode cX0_goOneCycle 5 = .ok (.iconst 1, 1) := by decide +kernel
theorem dX0_goOneCycle_6 : decode cX0_goOneCycle 6 = .ok (.iadd, 1) := by decide +kernel
theorem dX0_goOneCycle_7 : decode cX0_goOneCycle 7 = .ok (.putfield 45, 3) := by decide +kernel
theorem dX0_goOneCycle_10 : decode cX0_goOneCycle 10 = .ok (.iconst 0, 1) := by decide +kernel
theorem dX0_goOneCycle_11 : decode cX0_goOneCycle 11 = .ok (.istore_n 1, 1) := by decide +kernel
theorem dX0_goOneCycle_12 : decode cX0_goOneCycle 12 = .ok (.iload_n 1, 1) := by decide +kernel
theorem dX0_goOneCycle_13 : decode cX0_goOneCycle 13 = .ok (.aload_n 0, 1) := by decide +kernel
theorem dX0_goOneCycle_14 : decode cX0_goOneCycle 14 = .ok (.getfield 37, 3) := by decide +kernel
theorem dX0_goOneCycle_17 : decode cX0_goOneCycle 17 = .ok (.getfield 81, 3) := by decide +kernel
theorem dX0_goOneCycle_20 : decode cX0_goOneCycle 20 = .ok (.if_icmp .ge 60, 3) := by decide +kernel
theorem dX0_goOneCycle_23 : decode cX0_goOneCycle 23 = .ok (.aload_n 0, 1) := by decide +kernel
theorem dX0_goOneCycle_24 : decode cX0_goOneCycle 24 = .ok (.getfield 41, 3) := by decide +kernel
theorem dX0_goOneCycle_27 : decode cX0_goOneCycle 27 = .ok (.invokevirtual 86, 3) := by decide +kernel
theorem dX0_goOneCycle_30 : decode cX0_goOneCycle 30 = .ok (.ifCond .ne 24, 3) := by decide +kernel
theorem dX0_goOneCycle_33 : decode cX0_goOneCycle 33 = .ok (.aload_n 0, 1) := by decide +kernel
theorem dX0_goOneCycle_34 : decode cX0_goOneCycle 34 = .ok (.aload_n 0, 1) := by decide +kernel
theorem dX0_goOneCycle_35 : decode cX0_goOneCycle 35 = .ok (.getfield 78, 3) := by decide +kernel
theorem dX0_goOneCycle_38 : decode cX0_goOneCycle 38 = .ok (.aload_n 0, 1) := by decide +kernel
theorem dX0_goOneCycle_39 : decode cX0_goOneCycle 39 = .ok (.getfield 45, 3) := by decide +kernel
theorem dX0_goOneCycle_42 : decode cX0_goOneCycle 42 = .ok (.if_icmp .ge 7, 3) := by decide +kernel
theorem dX0_goOneCycle_45 : decode cX0_goOneCycle 45 = .ok (.iconst 1, 1) := by decide +kernel
theorem dX0_goOneCycle_46 : decode cX0_goOneCycle 46 = .ok (.goto 4, 3) := by decide +kernel
theorem dX0_goOneCycle_49 : decode cX0_goOneCycle 49 = .ok (.iconst 0, 1) := by decide +kernel
theorem dX0_goOneCycle_50 : decode cX0_goOneCycle 50 = .ok (.putfield 49, 3) := by decide +kernel
theorem dX0_goOneCycle_53 : decode cX0_goOneCycle 53 = .ok (.return_, 1) := by decide +kernel
theorem dX0_goOneCycle_54 : decode cX0_goOneCycle 54 = .ok (.aload_n 0, 1) := by decide +kernel
theorem dX0_goOneCycle_55 : decode cX0_goOneCycle 55 = .ok (.invokevirtual 92, 3) := by decide +kernel
theorem dX0_goOneCycle_58 : decode cX0_goOneCycle 58 = .ok (.istore_n 2, 1) := by decide +kernel
theorem dX0_goOneCycle_59 : decode cX0_goOneCycle 59 = .ok (.iload_n 2, 1) := by decide +kernel
theorem dX0_goOneCycle_60 : decode cX0_goOneCycle 60 = .ok (.ifCond .eq 14, 3) := by decide +kernel
theorem dX0_goOneCycle_63 : decode cX0_goOneCycle 63 = .ok (.aload_n 0, 1) := by decide +kernel
theorem dX0_goOneCycle_64 : decode cX0_goOneCycle 64 = .ok (.getfield 9, 3) := by decide +kernel
theorem dX0_goOneCycle_67 : decode cX0_goOneCycle 67 = .ok (.iload_n 2, 1) := by decide +kernel
theorem dX0_goOneCycle_68 : decode cX0_goOneCycle 68 = .ok (.dup2, 1) := by decide +kernel
theorem dX0_goOneCycle_69 : decode cX0_goOneCycle 69 = .ok (.iaload, 1) := by decide +kernel
theorem dX0_goOneCycle_70 : decode cX0_goOneCycle 70 = .ok (.iconst 1, 1) := by decide +kernel
theorem dX0_goOneCycle_71 : decode cX0_goOneCycle 71 = .ok (.iadd, 1) := by decide +kernel
theorem dX0_goOneCycle_72 : decode cX0_goOneCycle 72 = .ok (.iastore, 1) := by decide +kernel
theorem dX0_goOneCycle_73 : decode cX0_goOneCycle 73 = .ok (.return_, 1) := by decide +kernel
theorem dX0_goOneCycle_74 : decode cX0_goOneCycle 74 = .ok (.iinc 1 1, 3) := by decide +kernel
theorem dX0_goOneCycle_77 : decode cX0_goOneCycle 77 = .ok (.goto (-65), 3) := by decide +kernel
theorem dX0_goOneCycle_80 : decode cX0_goOneCycle 80 = .ok (.return_, 1) := by decide +kernel
theorem dX0_tryToIssue_0 : decode cX0_tryToIssue 0 = .ok (.aload_n 0, 1) := by decide +kernel
theorem dX0_tryToIssue_1 : decode cX0_tryToIssue 1 = .ok (.getfield 41, 3) := by decide +kernel
theorem dX0_tryToIssue_4 : decode cX0_tryToIssue 4 = .ok (.invokevirtual 86, 3) := by decide +kernel
theorem dX0_tryToIssue_7 : decode cX0_tryToIssue 7 = .ok (.istore_n 1, 1) := by decide +kernel
theorem dX0_tryToIssue_8 : decode cX0_tryToIssue 8 = .ok (.getstatic 95, 3) := by decide +kernel
theorem dX0_tryToIssue_11 : decode cX0_tryToIssue 11 = .ok (.iload_n 1, 1) := by decide +kernel
theorem dX0_tryToIssue_12 : decode cX0_tryToIssue 12 = .ok (.iaload, 1) := by decide +kernel
theorem dX0_tryToIssue_13 : decode cX0_tryToIssue 13 = .ok (.istore_n 2, 1) := by decide +kernel
theorem dX0_tryToIssue_14 : decode cX0_tryToIssue 14 = .ok (.aload_n 0, 1) := by decide +kernel
theorem dX0_tryToIssue_15 : decode cX0_tryToIssue 15 = .ok (.getfield 75, 3) := by decide +kernel
theorem dX0_tryToIssue_18 : decode cX0_tryToIssue 18 = .ok (.aload_n 0, 1) := by decide +kernel
theorem dX0_tryToIssue_19 : decode cX0_tryToIssue 19 = .ok (.getfield 45, 3) := by decide +kernel
theorem dX0_tryToIssue_22 : decode cX0_tryToIssue 22 = .ok (.if_icmp .lt 5, 3) := by decide +kernel
theorem dX0_tryToIssue_25 : decode cX0_tryToIssue 25 = .ok (.iconst 1, 1) := by decide +kernel
theorem dX0_tryToIssue_26 : decode cX0_tryToIssue 26 = .ok (.ireturn, 1) := by decide +kernel
theorem dX0_tryToIssue_27 : decode cX0_tryToIssue 27 = .ok (.aload_n 0, 1) := by decide +kernel
theorem dX0_tryToIssue_28 : decode cX0_tryToIssue 28 = .ok (.iload_n 2, 1) := by decide +kernel
theorem dX0_tryToIssue_29 : decode cX0_tryToIssue 29 = .ok (.invokevirtual 98, 3) := by decide +kernel
theorem dX0_tryToIssue_32 : decode cX0_tryToIssue 32 = .ok (.istore_n 3, 1) := by decide +kernel
theorem dX0_tryToIssue_33 : decode cX0_tryToIssue 33 = .ok (.iload_n 3, 1) := by decide +kernel
theorem dX0_tryToIssue_34 : decode cX0_tryToIssue 34 = .ok (.iconst (-1), 1) := by decide +kernel
theorem dX0_tryToIssue_35 : decode cX0_tryToIssue 35 = .ok (.if_icmp .ne 5, 3) := by decide +kernel
theorem dX0_tryToIssue_38 : decode cX0_tryToIssue 38 = .ok (.iconst 2, 1) := by decide +kernel
theorem dX0_tryToIssue_39 : decode cX0_tryToIssue 39 = .ok (.ireturn, 1) := by decide +kernel
theorem dX0_tryToIssue_40 : decode cX0_tryToIssue 40 = .ok (.iload_n 1, 1) := by decide +kernel
theorem dX0_tryToIssue_41 : decode cX0_tryToIssue 41 = .ok (.invokestatic 102, 3) := by decide +kernel
theorem dX0_tryToIssue_44 : decode cX0_tryToIssue 44 = .ok (.ifCond .eq 32, 3) := by decide +kernel
theorem dX0_tryToIssue_47 : decode cX0_tryToIssue 47 = .ok (.aload_n 0, 1) := by decide +kernel
theorem dX0_tryToIssue_48 : decode cX0_tryToIssue 48 = .ok (.getfield 18, 3) := by decide +kernel
theorem dX0_tryToIssue_51 : decode cX0_tryToIssue 51 = .ok (.aload_n 0, 1) := by decide +kernel
theorem dX0_tryToIssue_52 : decode cX0_tryToIssue 52 = .ok (.getfield 37, 3) := by decide +kernel
theorem dX0_tryToIssue_55 : decode cX0_tryToIssue 55 = .ok (.getfield 106, 3) := by decide +kernel
theorem dX0_tryToIssue_58 : decode cX0_tryToIssue 58 = .ok (.aload_n 0, 1) := by decide +kernel
theorem dX0_tryToIssue_59 : decode cX0_tryToIssue 59 = .ok (.getfield 41, 3) := by decide +kernel
theorem dX0_tryToIssue_62 : decode cX0_tryToIssue 62 = .ok (.getfield 109, 3) := by decide +kernel
theorem dX0_tryToIssue_65 : decode cX0_tryToIssue 65 = .ok (.iaload, 1) := by decide +kernel
theorem dX0_tryToIssue_66 : decode cX0_tryToIssue 66 = .ok (.iaload, 1) := by decide +kernel
theorem dX0_tryToIssue_67 : decode cX0_tryToIssue 67 = .ok (.aload_n 0, 1) := by decide +kernel
theorem dX0_tryToIssue_68 : decode cX0_tryToIssue 68 = .ok (.getfield 45, 3) := by decide +kernel
theorem dX0_tryToIssue_71 : decode cX0_tryToIssue 71 = .ok (.if_icmp .lt 5, 3) := by decide +kernel
theorem dX0_tryToIssue_74 : decode cX0_tryToIssue 74 = .ok (.iconst 3, 1) := by decide +kernel
theorem dX0_tryToIssue_75 : decode cX0_tryToIssue 75 = .ok (.ireturn, 1) := by decide +kernel
theorem dX0_tryToIssue_76 : decode cX0_tryToIssue 76 = .ok (.aload_n 0, 1) := by decide +kernel
theorem dX0_tryToIssue_77 : decode cX0_tryToIssue 77 = .ok (.iload_n 1, 1) := by decide +kernel
theorem dX0_tryToIssue_78 : decode cX0_tryToIssue 78 = .ok (.iload_n 2, 1) := by decide +kernel
theorem dX0_tryToIssue_79 : decode cX0_tryToIssue 79 = .ok (.invokevirtual 112, 3) := by decide +kernel
theorem dX0_tryToIssue_82 : decode cX0_tryToIssue 82 = .ok (.aload_n 0, 1) := by decide +kernel
theorem dX0_tryToIssue_83 : decode cX0_tryToIssue 83 = .ok (.iload_n 2, 1) := by decide +kernel
theorem dX0_tryToIssue_84 : decode cX0_tryToIssue 84 = .ok (.iload_n 3, 1) := by decide +kernel
theorem dX0_tryToIssue_85 : decode cX0_tryToIssue 85 = .ok (.invokestatic 116, 3) := by decide +kernel
theorem dX0_tryToIssue_88 : decode cX0_tryToIssue 88 = .ok (.invokevirtual 120, 3) := by decide +kernel
theorem dX0_tryToIssue_91 : decode cX0_tryToIssue 91 = .ok (.aload_n 0, 1) := by decide +kernel
theorem dX0_tryToIssue_92 : decode cX0_tryToIssue 92 = .ok (.iload_n 1, 1) := by decide +kernel
theorem dX0_tryToIssue_93 : decode cX0_tryToIssue 93 = .ok (.invokevirtual 124, 3) := by decide +kernel
theorem dX0_tryToIssue_96 : decode cX0_tryToIssue 96 = .ok (.aload_n 0, 1) := by decide +kernel
theorem dX0_tryToIssue_97 : decode cX0_tryToIssue 97 = .ok (.iload_n 1, 1) := by decide +kernel
theorem dX0_tryToIssue_98 : decode cX0_tryToIssue 98 = .ok (.iload_n 2, 1) := by decide +kernel
theorem dX0_tryToIssue_99 : decode cX0_tryToIssue 99 = .ok (.invokevirtual 127, 3) := by decide +kernel
theorem dX0_tryToIssue_102 : decode cX0_tryToIssue 102 = .ok (.aload_n 0, 1) := by decide +kernel
theorem dX0_tryToIssue_103 : decode cX0_tryToIssue 103 = .ok (.getfield 41, 3) := by decide +kernel
theorem dX0_tryToIssue_106 : decode cX0_tryToIssue 106 = .ok (.invokevirtual 130, 3) := by decide +kernel
theorem dX0_tryToIssue_109 : decode cX0_tryToIssue 109 = .ok (.aload_n 0, 1) := by decide +kernel
theorem dX0_tryToIssue_110 : decode cX0_tryToIssue 110 = .ok (.dup, 1) := by decide +kernel
theorem dX0_tryToIssue_111 : decode cX0_tryToIssue 111 = .ok (.getfield 53, 3) := by decide +kernel
theorem dX0_tryToIssue_114 : decode cX0_tryToIssue 114 = .ok (.iconst 1, 1) := by decide +kernel
theorem dX0_tryToIssue_115 : decode cX0_tryToIssue 115 = .ok (.iadd, 1) := by decide +kernel
theorem dX0_tryToIssue_116 : decode cX0_tryToIssue 116 = .ok (.putfield 53, 3) := by decide +kernel
theorem dX0_tryToIssue_119 : decode cX0_tryToIssue 119 = .ok (.iconst 0, 1) := by decide +kernel
theorem dX0_tryToIssue_120 : decode cX0_tryToIssue 120 = .ok (.ireturn, 1) := by decide +kernel
theorem dX0_lowestFreeUnit_0 : decode cX0_lowestFreeUnit 0 = .ok (.iconst 0, 1) := by decide +kernel
theorem dX0_lowestFreeUnit_1 : decode cX0_lowestFreeUnit 1 = .ok (.istore_n 2, 1) := by decide +kernel
theorem dX0_lowestFreeUnit_2 : decode cX0_lowestFreeUnit 2 = .ok (.iload_n 2, 1) := by decide +kernel
theorem dX0_lowestFreeUnit_3 : decode cX0_lowestFreeUnit 3 = .ok (.aload_n 0, 1) := by decide +kernel
theorem dX0_lowestFreeUnit_4 : decode cX0_lowestFreeUnit 4 = .ok (.getfield 37, 3) := by decide +kernel
theorem dX0_lowestFreeUnit_7 : decode cX0_lowestFreeUnit 7 = .ok (.getfield 133, 3) := by decide +kernel
theorem dX0_lowestFreeUnit_10 : decode cX0_lowestFreeUnit 10 = .ok (.iload_n 1, 1) := by decide +kernel
theorem dX0_lowestFreeUnit_11 : decode cX0_lowestFreeUnit 11 = .ok (.iaload, 1) := by decide +kernel
theorem dX0_lowestFreeUnit_12 : decode cX0_lowestFreeUnit 12 = .ok (.if_icmp .ge 33, 3) := by decide +kernel
theorem dX0_lowestFreeUnit_15 : decode cX0_lowestFreeUnit 15 = .ok (.aload_n 0, 1) := by decide +kernel
theorem dX0_lowestFreeUnit_16 : decode cX0_lowestFreeUnit 16 = .ok (.getfield 31, 3) := by decide +kernel
theorem dX0_lowestFreeUnit_19 : decode cX0_lowestFreeUnit 19 = .ok (.iload_n 1, 1) := by decide +kernel
theorem dX0_lowestFreeUnit_20 : decode cX0_lowestFreeUnit 20 = .ok (.iload_n 2, 1) := by decide +kernel
theorem dX0_lowestFreeUnit_21 : decode cX0_lowestFreeUnit 21 = .ok (.invokestatic 116, 3) := by decide +kernel
theorem dX0_lowestFreeUnit_24 : decode cX0_lowestFreeUnit 24 = .ok (.bipush 6, 2) := by decide +kernel
theorem dX0_lowestFreeUnit_26 : decode cX0_lowestFreeUnit 26 = .ok (.imul, 1) := by decide +kernel
theorem dX0_lowestFreeUnit_27 : decode cX0_lowestFreeUnit 27 = .ok (.iconst 5, 1) := by decide +kernel
theorem dX0_lowestFreeUnit_28 : decode cX0_lowestFreeUnit 28 = .ok (.iadd, 1) := by decide +kernel
theorem dX0_lowestFreeUnit_29 : decode cX0_lowestFreeUnit 29 = .ok (.iaload, 1) := by decide +kernel
theorem dX0_lowestFreeUnit_30 : decode cX0_lowestFreeUnit 30 = .ok (.aload_n 0, 1) := by decide +kernel
theorem dX0_lowestFreeUnit_31 : decode cX0_lowestFreeUnit 31 = .ok (.getfield 45, 3) := by decide +kernel
theorem dX0_lowestFreeUnit_34 : decode cX0_lowestFreeUnit 34 = .ok (.if_icmp .ge 5, 3) := by decide +kernel
theorem dX0_lowestFreeUnit_37 : decode cX0_lowestFreeUnit 37 = .ok (.iload_n 2, 1) := by decide +kernel
theorem dX0_lowestFreeUnit_38 : decode cX0_lowestFreeUnit 38 = .ok (.ireturn, 1) := by decide +kernel
theorem dX0_lowestFreeUnit_39 : decode cX0_lowestFreeUnit 39 = .ok (.iinc 2 1, 3) := by decide +kernel
theorem dX0_lowestFreeUnit_42 : decode cX0_lowestFreeUnit 42 = .ok (.goto (-40), 3) := by decide +kernel
theorem dX0_lowestFreeUnit_45 : decode cX0_lowestFreeUnit 45 = .ok (.iconst (-1), 1) := by decide +kernel
theorem dX0_lowestFreeUnit_46 : decode cX0_lowestFreeUnit 46 = .ok (.ireturn, 1) := by decide +kernel
theorem dX0_settleCycles_0 : decode cX0_settleCycles 0 = .ok (.aload_n 0, 1) := by decide +kernel
theorem dX0_settleCycles_1 : decode cX0_settleCycles 1 = .ok (.getfield 41, 3) := by decide +kernel
theorem dX0_settleCycles_4 : decode cX0_settleCycles 4 = .ok (.getfield 109, 3) := by decide +kernel
theorem dX0_settleCycles_7 : decode cX0_settleCycles 7 = .ok (.istore_n 3, 1) := by decide +kernel
theorem dX0_settleCycles_8 : decode cX0_settleCycles 8 = .ok (.aload_n 0, 1) := by decide +kernel
theorem dX0_settleCycles_9 : decode cX0_settleCycles 9 = .ok (.getfield 45, 3) := by decide +kernel
theorem dX0_settleCycles_12 : decode cX0_settleCycles 12 = .ok (.istore 4, 2) := by decide +kernel
theorem dX0_settleCycles_14 : decode cX0_settleCycles 14 = .ok (.iload_n 1, 1) := by decide +kernel
theorem dX0_settleCycles_15 : decode cX0_settleCycles 15 = .ok (.invokestatic 136, 3) := by decide +kernel
theorem dX0_settleCycles_18 : decode cX0_settleCycles 18 = .ok (.ifCond .eq 24, 3) := by decide +kernel
theorem dX0_settleCycles_21 : decode cX0_settleCycles 21 = .ok (.iload 4, 2) := by decide +kernel
theorem dX0_settleCycles_23 : decode cX0_settleCycles 23 = .ok (.aload_n 0, 1) := by decide +kernel
theorem dX0_settleCycles_24 : decode cX0_settleCycles 24 = .ok (.getfield 18, 3) := by decide +kernel
theorem dX0_settleCycles_27 : decode cX0_settleCycles 27 = .ok (.aload_n 0, 1) := by decide +kernel
theorem dX0_settleCycles_28 : decode cX0_settleCycles 28 = .ok (.getfield 37, 3) := by decide +kernel
theorem dX0_settleCycles_31 : decode cX0_settleCycles 31 = .ok (.getfield 139, 3) := by decide +kernel
theorem dX0_settleCycles_34 : decode cX0_settleCycles 34 = .ok (.iload_n 3, 1) := by decide +kernel
theorem dX0_settleCycles_35 : decode cX0_settleCycles 35 = .ok (.iaload, 1) := by decide +kernel
theorem dX0_settleCycles_36 : decode cX0_settleCycles 36 = .ok (.iaload, 1) := by decide +kernel
theorem dX0_settleCycles_37 : decode cX0_settleCycles 37 = .ok (.invokestatic 142, 3) := by decide +kernel
theorem dX0_settleCycles_40 : decode cX0_settleCycles 40 = .ok (.istore 4, 2) := by decide +kernel
theorem dX0_settleCycles_42 : decode cX0_settleCycles 42 = .ok (.iload_n 1, 1) := by decide +kernel
theorem dX0_settleCycles_43 : decode cX0_settleCycles 43 = .ok (.invokestatic 147, 3) := by decide +kernel
theorem dX0_settleCycles_46 : decode cX0_settleCycles 46 = .ok (.ifCond .eq 23, 3) := by decide +kernel
theorem dX0_settleCycles_49 : decode cX0_settleCycles 49 = .ok (.iload 4, 2) := by decide +kernel
theorem dX0_settleCycles_51 : decode cX0_settleCycles 51 = .ok (.aload_n 0, 1) := by decide +kernel
theorem dX0_settleCycles_52 : decode cX0_settleCycles 52 = .ok (.getfield 18, 3) := by decide +kernel
theorem dX0_settleCycles_55 : decode cX0_settleCycles 55 = .ok (.aload_n 0, 1) := by decide +kernel
theorem dX0_settleCycles_56 : decode cX0_settleCycles 56 = .ok (.getfield 37, 3) := by decide +kernel
theorem dX0_settleCycles_59 : decode cX0_settleCycles 59 = .ok (.iload_n 3, 1) := by decide +kernel
theorem dX0_settleCycles_60 : decode cX0_settleCycles 60 = .ok (.invokevirtual 150, 3) := by decide +kernel
theorem dX0_settleCycles_63 : decode cX0_settleCycles 63 = .ok (.iaload, 1) := by decide +kernel
theorem dX0_settleCycles_64 : decode cX0_settleCycles 64 = .ok (.invokestatic 142, 3) := by decide +kernel
theorem dX0_settleCycles_67 : decode cX0_settleCycles 67 = .ok (.istore 4, 2) := by decide +kernel
theorem dX0_settleCycles_69 : decode cX0_settleCycles 69 = .ok (.iload_n 1, 1) := by decide +kernel
theorem dX0_settleCycles_70 : decode cX0_settleCycles 70 = .ok (.invokestatic 153, 3) := by decide +kernel
theorem dX0_settleCycles_73 : decode cX0_settleCycles 73 = .ok (.ifCond .eq 24, 3) := by decide +kernel
theorem dX0_settleCycles_76 : decode cX0_settleCycles 76 = .ok (.iload 4, 2) := by decide +kernel
theorem dX0_settleCycles_78 : decode cX0_settleCycles 78 = .ok (.aload_n 0, 1) := by decide +kernel
theorem dX0_settleCycles_79 : decode cX0_settleCycles 79 = .ok (.getfield 18, 3) := by decide +kernel
theorem dX0_settleCycles_82 : decode cX0_settleCycles 82 = .ok (.aload_n 0, 1) := by decide +kernel
theorem dX0_settleCycles_83 : decode cX0_settleCycles 83 = .ok (.getfield 37, 3) := by decide +kernel
theorem dX0_settleCycles_86 : decode cX0_settleCycles 86 = .ok (.getfield 106, 3) := by decide +kernel
theorem dX0_settleCycles_89 : decode cX0_settleCycles 89 = .ok (.iload_n 3, 1) := by decide +kernel
theorem dX0_settleCycles_90 : decode cX0_settleCycles 90 = .ok (.iaload, 1) := by decide +kernel
theorem dX0_settleCycles_91 : decode cX0_settleCycles 91 = .ok (.iaload, 1) := by decide +kernel
theorem dX0_settleCycles_92 : decode cX0_settleCycles 92 = .ok (.invokestatic 142, 3) := by decide +kernel
theorem dX0_settleCycles_95 : decode cX0_settleCycles 95 = .ok (.istore 4, 2) := by decide +kernel
theorem dX0_settleCycles_97 : decode cX0_settleCycles 97 = .ok (.iload 4, 2) := by decide +kernel
theorem dX0_settleCycles_99 : decode cX0_settleCycles 99 = .ok (.iconst 1, 1) := by decide +kernel
theorem dX0_settleCycles_100 : decode cX0_settleCycles 100 = .ok (.iadd, 1) := by decide +kernel
theorem dX0_settleCycles_101 : decode cX0_settleCycles 101 = .ok (.istore 5, 2) := by decide +kernel
theorem dX0_settleCycles_103 : decode cX0_settleCycles 103 = .ok (.iload 5, 2) := by decide +kernel
theorem dX0_settleCycles_105 : decode cX0_settleCycles 105 = .ok (.aload_n 0, 1) := by decide +kernel
theorem dX0_settleCycles_106 : decode cX0_settleCycles 106 = .ok (.getfield 37, 3) := by decide +kernel
theorem dX0_settleCycles_109 : decode cX0_settleCycles 109 = .ok (.getfield 156, 3) := by decide +kernel
theorem dX0_settleCycles_112 : decode cX0_settleCycles 112 = .ok (.iload_n 2, 1) := by decide +kernel
theorem dX0_settleCycles_113 : decode cX0_settleCycles 113 = .ok (.iaload, 1) := by decide +kernel
theorem dX0_settleCycles_114 : decode cX0_settleCycles 114 = .ok (.iadd, 1) := by decide +kernel
theorem dX0_settleCycles_115 : decode cX0_settleCycles 115 = .ok (.istore 6, 2) := by decide +kernel
theorem dX0_settleCycles_117 : decode cX0_settleCycles 117 = .ok (.iload 6, 2) := by decide +kernel
theorem dX0_settleCycles_119 : decode cX0_settleCycles 119 = .ok (.iconst 1, 1) := by decide +kernel
theorem dX0_settleCycles_120 : decode cX0_settleCycles 120 = .ok (.iadd, 1) := by decide +kernel
theorem dX0_settleCycles_121 : decode cX0_settleCycles 121 = .ok (.istore 7, 2) := by decide +kernel
theorem dX0_settleCycles_123 : decode cX0_settleCycles 123 = .ok (.iload_n 1, 1) := by decide +kernel
theorem dX0_settleCycles_124 : decode cX0_settleCycles 124 = .ok (.invokestatic 102, 3) := by decide +kernel
theorem dX0_settleCycles_127 : decode cX0_settleCycles 127 = .ok (.ifCond .eq 26, 3) := by decide +kernel
theorem dX0_settleCycles_130 : decode cX0_settleCycles 130 = .ok (.iload 7, 2) := by decide +kernel
theorem dX0_settleCycles_132 : decode cX0_settleCycles 132 = .ok (.aload_n 0, 1) := by decide +kernel
theorem dX0_settleCycles_133 : decode cX0_settleCycles 133 = .ok (.getfield 25, 3) := by decide +kernel
theorem dX0_settleCycles_136 : decode cX0_settleCycles 136 = .ok (.aload_n 0, 1) := by decide +kernel
theorem dX0_settleCycles_137 : decode cX0_settleCycles 137 = .ok (.getfield 37, 3) := by decide +kernel
theorem dX0_settleCycles_140 : decode cX0_settleCycles 140 = .ok (.getfield 106, 3) := by decide +kernel
theorem dX0_settleCycles_143 : decode cX0_settleCycles 143 = .ok (.iload_n 3, 1) := by decide +kernel
theorem dX0_settleCycles_144 : decode cX0_settleCycles 144 = .ok (.iaload, 1) := by decide +kernel
theorem dX0_settleCycles_145 : decode cX0_settleCycles 145 = .ok (.iaload, 1) := by decide +kernel
theorem dX0_settleCycles_146 : decode cX0_settleCycles 146 = .ok (.iconst 1, 1) := by decide +kernel
theorem dX0_settleCycles_147 : decode cX0_settleCycles 147 = .ok (.iadd, 1) := by decide +kernel
theorem dX0_settleCycles_148 : decode cX0_settleCycles 148 = .ok (.invokestatic 142, 3) := by decide +kernel
theorem dX0_settleCycles_151 : decode cX0_settleCycles 151 = .ok (.istore 7, 2) := by decide +kernel
theorem dX0_settleCycles_153 : decode cX0_settleCycles 153 = .ok (.aload_n 0, 1) := by decide +kernel
theorem dX0_settleCycles_154 : decode cX0_settleCycles 154 = .ok (.getfield 28, 3) := by decide +kernel
theorem dX0_settleCycles_157 : decode cX0_settleCycles 157 = .ok (.iconst 0, 1) := by decide +kernel
theorem dX0_settleCycles_158 : decode cX0_settleCycles 158 = .ok (.iload_n 3, 1) := by decide +kernel
theorem dX0_settleCycles_159 : decode cX0_settleCycles 159 = .ok (.iastore, 1) := by decide +kernel
theorem dX0_settleCycles_160 : decode cX0_settleCycles 160 = .ok (.aload_n 0, 1) := by decide +kernel
theorem dX0_settleCycles_161 : decode cX0_settleCycles 161 = .ok (.getfield 28, 3) := by decide +kernel
theorem dX0_settleCycles_164 : decode cX0_settleCycles 164 = .ok (.iconst 1, 1) := by decide +kernel
theorem dX0_settleCycles_165 : decode cX0_settleCycles 165 = .ok (.aload_n 0, 1) := by decide +kernel
theorem dX0_settleCycles_166 : decode cX0_settleCycles 166 = .ok (.getfield 53, 3) := by decide +kernel
theorem dX0_settleCycles_169 : decode cX0_settleCycles 169 = .ok (.iastore, 1) := by decide +kernel
theorem dX0_settleCycles_170 : decode cX0_settleCycles 170 = .ok (.aload_n 0, 1) := by decide +kernel
theorem dX0_settleCycles_171 : decode cX0_settleCycles 171 = .ok (.getfield 28, 3) := by decide +kernel
theorem dX0_settleCycles_174 : decode cX0_settleCycles 174 = .ok (.iconst 2, 1) := by decide +kernel
theorem dX0_settleCycles_175 : decode cX0_settleCycles 175 = .ok (.aload_n 0, 1) := by decide +kernel
theorem dX0_settleCycles_176 : decode cX0_settleCycles 176 = .ok (.getfield 45, 3) := by decide +kernel
theorem dX0_settleCycles_179 : decode cX0_settleCycles 179 = .ok (.iastore, 1) := by decide +kernel
theorem dX0_settleCycles_180 : decode cX0_settleCycles 180 = .ok (.aload_n 0, 1) := by decide +kernel
theorem dX0_settleCycles_181 : decode cX0_settleCycles 181 = .ok (.getfield 28, 3) := by decide +kernel
theorem dX0_settleCycles_184 : decode cX0_settleCycles 184 = .ok (.iconst 3, 1) := by decide +kernel
theorem dX0_settleCycles_185 : decode cX0_settleCycles 185 = .ok (.iload 5, 2) := by decide +kernel
theorem dX0_settleCycles_187 : decode cX0_settleCycles 187 = .ok (.iastore, 1) := by decide +kernel
theorem dX0_settleCycles_188 : decode cX0_settleCycles 188 = .ok (.aload_n 0, 1) := by decide +kernel
theorem dX0_settleCycles_189 : decode cX0_settleCycles 189 = .ok (.getfield 28, 3) := by decide +kernel
theorem dX0_settleCycles_192 : decode cX0_settleCycles 192 = .ok (.iconst 4, 1) := by decide +kernel
theorem dX0_settleCycles_193 : decode cX0_settleCycles 193 = .ok (.iload 6, 2) := by decide +kernel
theorem dX0_settleCycles_195 : decode cX0_settleCycles 195 = .ok (.iastore, 1) := by decide +kernel
theorem dX0_settleCycles_196 : decode cX0_settleCycles 196 = .ok (.aload_n 0, 1) := by decide +kernel
theorem dX0_settleCycles_197 : decode cX0_settleCycles 197 = .ok (.getfield 28, 3) := by decide +kernel
theorem dX0_settleCycles_200 : decode cX0_settleCycles 200 = .ok (.iconst 5, 1) := by decide +kernel
theorem dX0_settleCycles_201 : decode cX0_settleCycles 201 = .ok (.iload 7, 2) := by decide +kernel
theorem dX0_settleCycles_203 : decode cX0_settleCycles 203 = .ok (.iastore, 1) := by decide +kernel
theorem dX0_settleCycles_204 : decode cX0_settleCycles 204 = .ok (.return_, 1) := by decide +kernel
theorem dX0_keepRow_0 : decode cX0_keepRow 0 = .ok (.aload_n 0, 1) := by decide +kernel
theorem dX0_keepRow_1 : decode cX0_keepRow 1 = .ok (.getfield 28, 3) := by decide +kernel
theorem dX0_keepRow_4 : decode cX0_keepRow 4 = .ok (.iconst 0, 1) := by decide +kernel
theorem dX0_keepRow_5 : decode cX0_keepRow 5 = .ok (.aload_n 0, 1) := by decide +kernel
theorem dX0_keepRow_6 : decode cX0_keepRow 6 = .ok (.getfield 31, 3) := by decide +kernel
theorem dX0_keepRow_9 : decode cX0_keepRow 9 = .ok (.iload_n 1, 1) := by decide +kernel
theorem dX0_keepRow_10 : decode cX0_keepRow 10 = .ok (.bipush 6, 2) := by decide +kernel
theorem dX0_keepRow_12 : decode cX0_keepRow 12 = .ok (.imul, 1) := by decide +kernel
theorem dX0_keepRow_13 : decode cX0_keepRow 13 = .ok (.bipush 6, 2) := by decide +kernel
theorem dX0_keepRow_15 : decode cX0_keepRow 15 = .ok (.invokestatic 159, 3) := by decide +kernel
theorem dX0_keepRow_18 : decode cX0_keepRow 18 = .ok (.aload_n 0, 1) := by decide +kernel
theorem dX0_keepRow_19 : decode cX0_keepRow 19 = .ok (.getfield 28, 3) := by decide +kernel
theorem dX0_keepRow_22 : decode cX0_keepRow 22 = .ok (.iconst 0, 1) := by decide +kernel
theorem dX0_keepRow_23 : decode cX0_keepRow 23 = .ok (.aload_n 0, 1) := by decide +kernel
theorem dX0_keepRow_24 : decode cX0_keepRow 24 = .ok (.getfield 34, 3) := by decide +kernel
theorem dX0_keepRow_27 : decode cX0_keepRow 27 = .ok (.aload_n 0, 1) := by decide +kernel
theorem dX0_keepRow_28 : decode cX0_keepRow 28 = .ok (.getfield 53, 3) := by decide +kernel
theorem dX0_keepRow_31 : decode cX0_keepRow 31 = .ok (.invokestatic 165, 3) := by decide +kernel
theorem dX0_keepRow_34 : decode cX0_keepRow 34 = .ok (.bipush 6, 2) := by decide +kernel
theorem dX0_keepRow_36 : decode cX0_keepRow 36 = .ok (.invokestatic 159, 3) := by decide +kernel
theorem dX0_keepRow_39 : decode cX0_keepRow 39 = .ok (.return_, 1) := by decide +kernel
theorem dX0_issuedStart_0 : decode cX0_issuedStart 0 = .ok (.iload_n 0, 1) := by decide +kernel
theorem dX0_issuedStart_1 : decode cX0_issuedStart 1 = .ok (.bipush 63, 2) := by decide +kernel
theorem dX0_issuedStart_3 : decode cX0_issuedStart 3 = .ok (.iand, 1) := by decide +kernel
theorem dX0_issuedStart_4 : decode cX0_issuedStart 4 = .ok (.bipush 6, 2) := by decide +kernel
theorem dX0_issuedStart_6 : decode cX0_issuedStart 6 = .ok (.imul, 1) := by decide +kernel
theorem dX0_issuedStart_7 : decode cX0_issuedStart 7 = .ok (.ireturn, 1) := by decide +kernel
theorem dX0_noteReading_0 : decode cX0_noteReading 0 = .ok (.aload_n 0, 1) := by decide +kernel
theorem dX0_noteReading_1 : decode cX0_noteReading 1 = .ok (.getfield 41, 3) := by decide +kernel
theorem dX0_noteReading_4 : decode cX0_noteReading 4 = .ok (.getfield 109, 3) := by decide +kernel
theorem dX0_noteReading_7 : decode cX0_noteReading 7 = .ok (.istore_n 2, 1) := by decide +kernel
theorem dX0_noteReading_8 : decode cX0_noteReading 8 = .ok (.iload_n 1, 1) := by decide +kernel
theorem dX0_noteReading_9 : decode cX0_noteReading 9 = .ok (.invokestatic 136, 3) := by decide +kernel
theorem dX0_noteReading_12 : decode cX0_noteReading 12 = .ok (.ifCond .eq 16, 3) := by decide +kernel
theorem dX0_noteReading_15 : decode cX0_noteReading 15 = .ok (.aload_n 0, 1) := by decide +kernel
theorem dX0_noteReading_16 : decode cX0_noteReading 16 = .ok (.aload_n 0, 1) := by decide +kernel
theorem dX0_noteReading_17 : decode cX0_noteReading 17 = .ok (.getfield 37, 3) := by decide +kernel
theorem dX0_noteReading_20 : decode cX0_noteReading 20 = .ok (.getfield 139, 3) := by decide +kernel
theorem dX0_noteReading_23 : decode cX0_noteReading 23 = .ok (.iload_n 2, 1) := by decide +kernel
theorem dX0_noteReading_24 : decode cX0_noteReading 24 = .ok (.iaload, 1) := by decide +kernel
theorem dX0_noteReading_25 : decode cX0_noteReading 25 = .ok (.invokevirtual 168, 3) := by decide +kernel
theorem dX0_noteReading_28 : decode cX0_noteReading 28 = .ok (.iload_n 1, 1) := by decide +kernel
theorem dX0_noteReading_29 : decode cX0_noteReading 29 = .ok (.invokestatic 147, 3) := by decide +kernel
theorem dX0_noteReading_32 : decode cX0_noteReading 32 = .ok (.ifCond .eq 15, 3) := by decide +kernel
theorem dX0_noteReading_35 : decode cX0_noteReading 35 = .ok (.aload_n 0, 1) := by decide +kernel
theorem dX0_noteReading_36 : decode cX0_noteReading 36 = .ok (.aload_n 0, 1) := by decide +kernel
theorem dX0_noteReading_37 : decode cX0_noteReading 37 = .ok (.getfield 37, 3) := by decide +kernel
theorem dX0_noteReading_40 : decode cX0_noteReading 40 = .ok (.iload_n 2, 1) := by decide +kernel
theorem dX0_noteReading_41 : decode cX0_noteReading 41 = .ok (.invokevirtual 150, 3) := by decide +kernel
theorem dX0_noteReading_44 : decode cX0_noteReading 44 = .ok (.invokevirtual 168, 3) := by decide +kernel
theorem dX0_noteReading_47 : decode cX0_noteReading 47 = .ok (.iload_n 1, 1) := by decide +kernel
theorem dX0_noteReading_48 : decode cX0_noteReading 48 = .ok (.invokestatic 153, 3) := by decide +kernel
theorem dX0_noteReading_51 : decode cX0_noteReading 51 = .ok (.ifCond .eq 16, 3) := by decide +kernel
theorem dX0_noteReading_54 : decode cX0_noteReading 54 = .ok (.aload_n 0, 1) := by decide +kernel
theorem dX0_noteReading_55 : decode cX0_noteReading 55 = .ok (.aload_n 0, 1) := by decide +kernel
theorem dX0_noteReading_56 : decode cX0_noteReading 56 = .ok (.getfield 37, 3) := by decide +kernel
theorem dX0_noteReading_59 : decode cX0_noteReading 59 = .ok (.getfield 106, 3) := by decide +kernel
theorem dX0_noteReading_62 : decode cX0_noteReading 62 = .ok (.iload_n 2, 1) := by decide +kernel
theorem dX0_noteReading_63 : decode cX0_noteReading 63 = .ok (.iaload, 1) := by decide +kernel
theorem dX0_noteReading_64 : decode cX0_noteReading 64 = .ok (.invokevirtual 168, 3) := by decide +kernel
theorem dX0_noteReading_67 : decode cX0_noteReading 67 = .ok (.return_, 1) := by decide +kernel
theorem dX0_noteReader_0 : decode cX0_noteReader 0 = .ok (.aload_n 0, 1) := by decide +kernel
theorem dX0_noteReader_1 : decode cX0_noteReader 1 = .ok (.getfield 25, 3) := by decide +kernel
theorem dX0_noteReader_4 : decode cX0_noteReader 4 = .ok (.iload_n 1, 1) := by decide +kernel
theorem dX0_noteReader_5 : decode cX0_noteReader 5 = .ok (.aload_n 0, 1) := by decide +kernel
theorem dX0_noteReader_6 : decode cX0_noteReader 6 = .ok (.getfield 25, 3) := by decide +kernel
theorem dX0_noteReader_9 : decode cX0_noteReader 9 = .ok (.iload_n 1, 1) := by decide +kernel
theorem dX0_noteReader_10 : decode cX0_noteReader 10 = .ok (.iaload, 1) := by decide +kernel
theorem dX0_noteReader_11 : decode cX0_noteReader 11 = .ok (.aload_n 0, 1) := by decide +kernel
theorem dX0_noteReader_12 : decode cX0_noteReader 12 = .ok (.getfield 28, 3) := by decide +kernel
theorem dX0_noteReader_15 : decode cX0_noteReader 15 = .ok (.iconst 3, 1) := by decide +kernel
theorem dX0_noteReader_16 : decode cX0_noteReader 16 = .ok (.iaload, 1) := by decide +kernel
theorem dX0_noteReader_17 : decode cX0_noteReader 17 = .ok (.invokestatic 142, 3) := by decide +kernel
theorem dX0_noteReader_20 : decode cX0_noteReader 20 = .ok (.iastore, 1) := by decide +kernel
theorem dX0_noteReader_21 : decode cX0_noteReader 21 = .ok (.return_, 1) := by decide +kernel
theorem dX0_noteWriting_0 : decode cX0_noteWriting 0 = .ok (.aload_n 0, 1) := by decide +kernel
theorem dX0_noteWriting_1 : decode cX0_noteWriting 1 = .ok (.getfield 28, 3) := by decide +kernel
theorem dX0_noteWriting_4 : decode cX0_noteWriting 4 = .ok (.iconst 5, 1) := by decide +kernel
theorem dX0_noteWriting_5 : decode cX0_noteWriting 5 = .ok (.iaload, 1) := by decide +kernel
theorem dX0_noteWriting_6 : decode cX0_noteWriting 6 = .ok (.istore_n 3, 1) := by decide +kernel
theorem dX0_noteWriting_7 : decode cX0_noteWriting 7 = .ok (.aload_n 0, 1) := by decide +kernel
theorem dX0_noteWriting_8 : decode cX0_noteWriting 8 = .ok (.aload_n 0, 1) := by decide +kernel
theorem dX0_noteWriting_9 : decode cX0_noteWriting 9 = .ok (.getfield 78, 3) := by decide +kernel
theorem dX0_noteWriting_12 : decode cX0_noteWriting 12 = .ok (.iload_n 3, 1) := by decide +kernel
theorem dX0_noteWriting_13 : decode cX0_noteWriting 13 = .ok (.invokestatic 142, 3) := by decide +kernel
theorem dX0_noteWriting_16 : decode cX0_noteWriting 16 = .ok (.putfield 78, 3) := by decide +kernel
theorem dX0_noteWriting_19 : decode cX0_noteWriting 19 = .ok (.iload_n 2, 1) := by decide +kernel
theorem dX0_noteWriting_20 : decode cX0_noteWriting 20 = .ok (.iconst 5, 1) := by decide +kernel
theorem dX0_noteWriting_21 : decode cX0_noteWriting 21 = .ok (.if_icmp .ne 11, 3) := by decide +kernel
theorem dX0_noteWriting_24 : decode cX0_noteWriting 24 = .ok (.aload_n 0, 1) := by decide +kernel
theorem dX0_noteWriting_25 : decode cX0_noteWriting 25 = .ok (.iload_n 3, 1) := by decide +kernel
theorem dX0_noteWriting_26 : decode cX0_noteWriting 26 = .ok (.putfield 75, 3) := by decide +kernel
theorem dX0_noteWriting_29 : decode cX0_noteWriting 29 = .ok (.goto 97, 3) := by decide +kernel
theorem dX0_noteWriting_32 : decode cX0_noteWriting 32 = .ok (.iload_n 1, 1) := by decide +kernel
theorem dX0_noteWriting_33 : decode cX0_noteWriting 33 = .ok (.bipush 15, 2) := by decide +kernel
theorem dX0_noteWriting_35 : decode cX0_noteWriting 35 = .ok (.if_icmp .ne 38, 3) := by decide +kernel
theorem dX0_noteWriting_38 : decode cX0_noteWriting 38 = .ok (.aload_n 0, 1) := by decide +kernel
theorem dX0_noteWriting_39 : decode cX0_noteWriting 39 = .ok (.aload_n 0, 1) := by decide +kernel
theorem dX0_noteWriting_40 : decode cX0_noteWriting 40 = .ok (.getfield 41, 3) := by decide +kernel
theorem dX0_noteWriting_43 : decode cX0_noteWriting 43 = .ok (.invokevirtual 171, 3) := by decide +kernel
theorem dX0_noteWriting_46 : decode cX0_noteWriting 46 = .ok (.putfield 65, 3) := by decide +kernel
theorem dX0_noteWriting_49 : decode cX0_noteWriting 49 = .ok (.aload_n 0, 1) := by decide +kernel
theorem dX0_noteWriting_50 : decode cX0_noteWriting 50 = .ok (.iload_n 3, 1) := by decide +kernel
theorem dX0_noteWriting_51 : decode cX0_noteWriting 51 = .ok (.putfield 68, 3) := by decide +kernel
theorem dX0_noteWriting_54 : decode cX0_noteWriting 54 = .ok (.aload_n 0, 1) := by decide +kernel
theorem dX0_noteWriting_55 : decode cX0_noteWriting 55 = .ok (.aload_n 0, 1) := by decide +kernel
theorem dX0_noteWriting_56 : decode cX0_noteWriting 56 = .ok (.getfield 41, 3) := by decide +kernel
theorem dX0_noteWriting_59 : decode cX0_noteWriting 59 = .ok (.getfield 174, 3) := by decide +kernel
theorem dX0_noteWriting_62 : decode cX0_noteWriting 62 = .ok (.aload_n 0, 1) := by decide +kernel
theorem dX0_noteWriting_63 : decode cX0_noteWriting 63 = .ok (.getfield 65, 3) := by decide +kernel
theorem dX0_noteWriting_66 : decode cX0_noteWriting 66 = .ok (.laload, 1) := by decide +kernel
theorem dX0_noteWriting_67 : decode cX0_noteWriting 67 = .ok (.putfield 71, 3) := by decide +kernel
theorem dX0_noteWriting_70 : decode cX0_noteWriting 70 = .ok (.goto 56, 3) := by decide +kernel
theorem dX0_noteWriting_73 : decode cX0_noteWriting 73 = .ok (.aload_n 0, 1) := by decide +kernel
theorem dX0_noteWriting_74 : decode cX0_noteWriting 74 = .ok (.getfield 37, 3) := by decide +kernel
theorem dX0_noteWriting_77 : decode cX0_noteWriting 77 = .ok (.getfield 106, 3) := by decide +kernel
theorem dX0_noteWriting_80 : decode cX0_noteWriting 80 = .ok (.aload_n 0, 1) := by decide +kernel
theorem dX0_noteWriting_81 : decode cX0_noteWriting 81 = .ok (.getfield 41, 3) := by decide +kernel
theorem dX0_noteWriting_84 : decode cX0_noteWriting 84 = .ok (.getfield 109, 3) := by decide +kernel
theorem dX0_noteWriting_87 : decode cX0_noteWriting 87 = .ok (.iaload, 1) := by decide +kernel
theorem dX0_noteWriting_88 : decode cX0_noteWriting 88 = .ok (.istore 4, 2) := by decide +kernel
theorem dX0_noteWriting_90 : decode cX0_noteWriting 90 = .ok (.aload_n 0, 1) := by decide +kernel
theorem dX0_noteWriting_91 : decode cX0_noteWriting 91 = .ok (.getfield 15, 3) := by decide +kernel
theorem dX0_noteWriting_94 : decode cX0_noteWriting 94 = .ok (.iload 4, 2) := by decide +kernel
theorem dX0_noteWriting_96 : decode cX0_noteWriting 96 = .ok (.aload_n 0, 1) := by decide +kernel
theorem dX0_noteWriting_97 : decode cX0_noteWriting 97 = .ok (.getfield 53, 3) := by decide +kernel
theorem dX0_noteWriting_100 : decode cX0_noteWriting 100 = .ok (.iastore, 1) := by decide +kernel
theorem dX0_noteWriting_101 : decode cX0_noteWriting 101 = .ok (.aload_n 0, 1) := by decide +kernel
theorem dX0_noteWriting_102 : decode cX0_noteWriting 102 = .ok (.getfield 18, 3) := by decide +kernel
theorem dX0_noteWriting_105 : decode cX0_noteWriting 105 = .ok (.iload 4, 2) := by decide +kernel
theorem dX0_noteWriting_107 : decode cX0_noteWriting 107 = .ok (.iload_n 3, 1) := by decide +kernel
theorem dX0_noteWriting_108 : decode cX0_noteWriting 108 = .ok (.iastore, 1) := by decide +kernel
theorem dX0_noteWriting_109 : decode cX0_noteWriting 109 = .ok (.aload_n 0, 1) := by decide +kernel
theorem dX0_noteWriting_110 : decode cX0_noteWriting 110 = .ok (.getfield 21, 3) := by decide +kernel
theorem dX0_noteWriting_113 : decode cX0_noteWriting 113 = .ok (.iload 4, 2) := by decide +kernel
theorem dX0_noteWriting_115 : decode cX0_noteWriting 115 = .ok (.aload_n 0, 1) := by decide +kernel
theorem dX0_noteWriting_116 : decode cX0_noteWriting 116 = .ok (.getfield 41, 3) := by decide +kernel
theorem dX0_noteWriting_119 : decode cX0_noteWriting 119 = .ok (.getfield 177, 3) := by decide +kernel
theorem dX0_noteWriting_122 : decode cX0_noteWriting 122 = .ok (.iload 4, 2) := by decide +kernel
theorem dX0_noteWriting_124 : decode cX0_noteWriting 124 = .ok (.laload, 1) := by decide +kernel
theorem dX0_noteWriting_125 : decode cX0_noteWriting 125 = .ok (.lastore, 1) := by decide +kernel
theorem dX0_noteWriting_126 : decode cX0_noteWriting 126 = .ok (.return_, 1) := by decide +kernel
theorem dX0_notWritten_0 : decode cX0_notWritten 0 = .ok (.iconst 0, 1) := by decide +kernel
theorem dX0_notWritten_1 : decode cX0_notWritten 1 = .ok (.istore_n 1, 1) := by decide +kernel
theorem dX0_notWritten_2 : decode cX0_notWritten 2 = .ok (.iconst 5, 1) := by decide +kernel
theorem dX0_notWritten_3 : decode cX0_notWritten 3 = .ok (.istore_n 2, 1) := by decide +kernel
theorem dX0_notWritten_4 : decode cX0_notWritten 4 = .ok (.iload_n 2, 1) := by decide +kernel
theorem dX0_notWritten_5 : decode cX0_notWritten 5 = .ok (.aload_n 0, 1) := by decide +kernel
theorem dX0_notWritten_6 : decode cX0_notWritten 6 = .ok (.getfield 31, 3) := by decide +kernel
theorem dX0_notWritten_9 : decode cX0_notWritten 9 = .ok (.arraylength, 1) := by decide +kernel
theorem dX0_notWritten_10 : decode cX0_notWritten 10 = .ok (.if_icmp .ge 25, 3) := by decide +kernel
theorem dX0_notWritten_13 : decode cX0_notWritten 13 = .ok (.aload_n 0, 1) := by decide +kernel
theorem dX0_notWritten_14 : decode cX0_notWritten 14 = .ok (.getfield 31, 3) := by decide +kernel
theorem dX0_notWritten_17 : decode cX0_notWritten 17 = .ok (.iload_n 2, 1) := by decide +kernel
theorem dX0_notWritten_18 : decode cX0_notWritten 18 = .ok (.iaload, 1) := by decide +kernel
theorem dX0_notWritten_19 : decode cX0_notWritten 19 = .ok (.aload_n 0, 1) := by decide +kernel
theorem dX0_notWritten_20 : decode cX0_notWritten 20 = .ok (.getfield 45, 3) := by decide +kernel
theorem dX0_notWritten_23 : decode cX0_notWritten 23 = .ok (.if_icmp .le 6, 3) := by decide +kernel
theorem dX0_notWritten_26 : decode cX0_notWritten 26 = .ok (.iinc 1 1, 3) := by decide +kernel
theorem dX0_notWritten_29 : decode cX0_notWritten 29 = .ok (.iinc 2 6, 3) := by decide +kernel
theorem dX0_notWritten_32 : decode cX0_notWritten 32 = .ok (.goto (-28), 3) := by decide +kernel
theorem dX0_notWritten_35 : decode cX0_notWritten 35 = .ok (.iload_n 1, 1) := by decide +kernel
theorem dX0_notWritten_36 : decode cX0_notWritten 36 = .ok (.ireturn, 1) := by decide +kernel
theorem dX0_registerNow_0 : decode cX0_registerNow 0 = .ok (.aload_n 0, 1) := by decide +kernel
theorem dX0_registerNow_1 : decode cX0_registerNow 1 = .ok (.getfield 18, 3) := by decide +kernel
theorem dX0_registerNow_4 : decode cX0_registerNow 4 = .ok (.iload_n 1, 1) := by decide +kernel
theorem dX0_registerNow_5 : decode cX0_registerNow 5 = .ok (.iaload, 1) := by decide +kernel
theorem dX0_registerNow_6 : decode cX0_registerNow 6 = .ok (.aload_n 0, 1) := by decide +kernel
theorem dX0_registerNow_7 : decode cX0_registerNow 7 = .ok (.getfield 45, 3) := by decide +kernel
theorem dX0_registerNow_10 : decode cX0_registerNow 10 = .ok (.if_icmp .le 12, 3) := by decide +kernel
theorem dX0_registerNow_13 : decode cX0_registerNow 13 = .ok (.aload_n 0, 1) := by decide +kernel
theorem dX0_registerNow_14 : decode cX0_registerNow 14 = .ok (.getfield 21, 3) := by decide +kernel
theorem dX0_registerNow_17 : decode cX0_registerNow 17 = .ok (.iload_n 1, 1) := by decide +kernel
theorem dX0_registerNow_18 : decode cX0_registerNow 18 = .ok (.laload, 1) := by decide +kernel
theorem dX0_registerNow_19 : decode cX0_registerNow 19 = .ok (.goto 12, 3) := by decide +kernel
theorem dX0_registerNow_22 : decode cX0_registerNow 22 = .ok (.aload_n 0, 1) := by decide +kernel
theorem dX0_registerNow_23 : decode cX0_registerNow 23 = .ok (.getfield 41, 3) := by decide +kernel
theorem dX0_registerNow_26 : decode cX0_registerNow 26 = .ok (.getfield 177, 3) := by decide +kernel
theorem dX0_registerNow_29 : decode cX0_registerNow 29 = .ok (.iload_n 1, 1) := by decide +kernel
theorem dX0_registerNow_30 : decode cX0_registerNow 30 = .ok (.laload, 1) := by decide +kernel
theorem dX0_registerNow_31 : decode cX0_registerNow 31 = .ok (.lreturn, 1) := by decide +kernel
theorem dX0_memoryNow_0 : decode cX0_memoryNow 0 = .ok (.iload_n 1, 1) := by decide +kernel
theorem dX0_memoryNow_1 : decode cX0_memoryNow 1 = .ok (.aload_n 0, 1) := by decide +kernel
theorem dX0_memoryNow_2 : decode cX0_memoryNow 2 = .ok (.getfield 65, 3) := by decide +kernel
theorem dX0_memoryNow_5 : decode cX0_memoryNow 5 = .ok (.if_icmp .ne 21, 3) := by decide +kernel
theorem dX0_memoryNow_8 : decode cX0_memoryNow 8 = .ok (.aload_n 0, 1) := by decide +kernel
theorem dX0_memoryNow_9 : decode cX0_memoryNow 9 = .ok (.getfield 68, 3) := by decide +kernel
theorem dX0_memoryNow_12 : decode cX0_memoryNow 12 = .ok (.aload_n 0, 1) := by decide +kernel
theorem dX0_memoryNow_13 : decode cX0_memoryNow 13 = .ok (.getfield 45, 3) := by decide +kernel
theorem dX0_memoryNow_16 : decode cX0_memoryNow 16 = .ok (.if_icmp .le 10, 3) := by decide +kernel
theorem dX0_memoryNow_19 : decode cX0_memoryNow 19 = .ok (.aload_n 0, 1) := by decide +kernel
theorem dX0_memoryNow_20 : decode cX0_memoryNow 20 = .ok (.getfield 71, 3) := by decide +kernel
theorem dX0_memoryNow_23 : decode cX0_memoryNow 23 = .ok (.goto 12, 3) := by decide +kernel
theorem dX0_memoryNow_26 : decode cX0_memoryNow 26 = .ok (.aload_n 0, 1) := by decide +kernel
theorem dX0_memoryNow_27 : decode cX0_memoryNow 27 = .ok (.getfield 41, 3) := by decide +kernel
theorem dX0_memoryNow_30 : decode cX0_memoryNow 30 = .ok (.getfield 174, 3) := by decide +kernel
theorem dX0_memoryNow_33 : decode cX0_memoryNow 33 = .ok (.iload_n 1, 1) := by decide +kernel
theorem dX0_memoryNow_34 : decode cX0_memoryNow 34 = .ok (.laload, 1) := by decide +kernel
theorem dX0_memoryNow_35 : decode cX0_memoryNow 35 = .ok (.lreturn, 1) := by decide +kernel
theorem dX0_tellUnit_0 : decode cX0_tellUnit 0 = .ok (.iload_n 1, 1) := by decide +kernel
theorem dX0_tellUnit_1 : decode cX0_tellUnit 1 = .ok (.bipush 6, 2) := by decide +kernel
theorem dX0_tellUnit_3 : decode cX0_tellUnit 3 = .ok (.imul, 1) := by decide +kernel
theorem dX0_tellUnit_4 : decode cX0_tellUnit 4 = .ok (.istore_n 3, 1) := by decide +kernel
theorem dX0_tellUnit_5 : decode cX0_tellUnit 5 = .ok (.aload_n 0, 1) := by decide +kernel
theorem dX0_tellUnit_6 : decode cX0_tellUnit 6 = .ok (.getfield 31, 3) := by decide +kernel
theorem dX0_tellUnit_9 : decode cX0_tellUnit 9 = .ok (.iload_n 3, 1) := by decide +kernel
theorem dX0_tellUnit_10 : decode cX0_tellUnit 10 = .ok (.iconst 5, 1) := by decide +kernel
theorem dX0_tellUnit_11 : decode cX0_tellUnit 11 = .ok (.iadd, 1) := by decide +kernel
theorem dX0_tellUnit_12 : decode cX0_tellUnit 12 = .ok (.iaload, 1) := by decide +kernel
theorem dX0_tellUnit_13 : decode cX0_tellUnit 13 = .ok (.aload_n 0, 1) := by decide +kernel
theorem dX0_tellUnit_14 : decode cX0_tellUnit 14 = .ok (.getfield 45, 3) := by decide +kernel
theorem dX0_tellUnit_17 : decode cX0_tellUnit 17 = .ok (.if_icmp .gt 5, 3) := by decide +kernel
theorem dX0_tellUnit_20 : decode cX0_tellUnit 20 = .ok (.iconst (-1), 1) := by decide +kernel
theorem dX0_tellUnit_21 : decode cX0_tellUnit 21 = .ok (.ireturn, 1) := by decide +kernel
theorem dX0_tellUnit_22 : decode cX0_tellUnit 22 = .ok (.iload_n 2, 1) := by decide +kernel
theorem dX0_tellUnit_23 : decode cX0_tellUnit 23 = .ok (.tableswitch 83 0 2 #[25, 34, 43], 25) := by decide +kernel
theorem dX0_tellUnit_48 : decode cX0_tellUnit 48 = .ok (.aload_n 0, 1) := by decide +kernel
theorem dX0_tellUnit_49 : decode cX0_tellUnit 49 = .ok (.getfield 31, 3) := by decide +kernel
theorem dX0_tellUnit_52 : decode cX0_tellUnit 52 = .ok (.iload_n 3, 1) := by decide +kernel
theorem dX0_tellUnit_53 : decode cX0_tellUnit 53 = .ok (.iconst 0, 1) := by decide +kernel
theorem dX0_tellUnit_54 : decode cX0_tellUnit 54 = .ok (.iadd, 1) := by decide +kernel
theorem dX0_tellUnit_55 : decode cX0_tellUnit 55 = .ok (.iaload, 1) := by decide +kernel
theorem dX0_tellUnit_56 : decode cX0_tellUnit 56 = .ok (.ireturn, 1) := by decide +kernel
theorem dX0_tellUnit_57 : decode cX0_tellUnit 57 = .ok (.aload_n 0, 1) := by decide +kernel
theorem dX0_tellUnit_58 : decode cX0_tellUnit 58 = .ok (.getfield 31, 3) := by decide +kernel
theorem dX0_tellUnit_61 : decode cX0_tellUnit 61 = .ok (.iload_n 3, 1) := by decide +kernel
theorem dX0_tellUnit_62 : decode cX0_tellUnit 62 = .ok (.iconst 1, 1) := by decide +kernel
theorem dX0_tellUnit_63 : decode cX0_tellUnit 63 = .ok (.iadd, 1) := by decide +kernel
theorem dX0_tellUnit_64 : decode cX0_tellUnit 64 = .ok (.iaload, 1) := by decide +kernel
theorem dX0_tellUnit_65 : decode cX0_tellUnit 65 = .ok (.ireturn, 1) := by decide +kernel
theorem dX0_tellUnit_66 : decode cX0_tellUnit 66 = .ok (.aload_n 0, 1) := by decide +kernel
theorem dX0_tellUnit_67 : decode cX0_tellUnit 67 = .ok (.getfield 31, 3) := by decide +kernel
theorem dX0_tellUnit_70 : decode cX0_tellUnit 70 = .ok (.iload_n 3, 1) := by decide +kernel
theorem dX0_tellUnit_71 : decode cX0_tellUnit 71 = .ok (.iconst 4, 1) := by decide +kernel
theorem dX0_tellUnit_72 : decode cX0_tellUnit 72 = .ok (.iadd, 1) := by decide +kernel
theorem dX0_tellUnit_73 : decode cX0_tellUnit 73 = .ok (.iaload, 1) := by decide +kernel
theorem dX0_tellUnit_74 : decode cX0_tellUnit 74 = .ok (.aload_n 0, 1) := by decide +kernel
theorem dX0_tellUnit_75 : decode cX0_tellUnit 75 = .ok (.getfield 45, 3) := by decide +kernel
theorem dX0_tellUnit_78 : decode cX0_tellUnit 78 = .ok (.if_icmp .gt 7, 3) := by decide +kernel
theorem dX0_tellUnit_81 : decode cX0_tellUnit 81 = .ok (.iconst 3, 1) := by decide +kernel
theorem dX0_tellUnit_82 : decode cX0_tellUnit 82 = .ok (.goto 23, 3) := by decide +kernel
theorem dX0_tellUnit_85 : decode cX0_tellUnit 85 = .ok (.aload_n 0, 1) := by decide +kernel
theorem dX0_tellUnit_86 : decode cX0_tellUnit 86 = .ok (.getfield 31, 3) := by decide +kernel
theorem dX0_tellUnit_89 : decode cX0_tellUnit 89 = .ok (.iload_n 3, 1) := by decide +kernel
theorem dX0_tellUnit_90 : decode cX0_tellUnit 90 = .ok (.iconst 3, 1) := by decide +kernel
theorem dX0_tellUnit_91 : decode cX0_tellUnit 91 = .ok (.iadd, 1) := by decide +kernel
theorem dX0_tellUnit_92 : decode cX0_tellUnit 92 = .ok (.iaload, 1) := by decide +kernel
theorem dX0_tellUnit_93 : decode cX0_tellUnit 93 = .ok (.aload_n 0, 1) := by decide +kernel
theorem dX0_tellUnit_94 : decode cX0_tellUnit 94 = .ok (.getfield 45, 3) := by decide +kernel
theorem dX0_tellUnit_97 : decode cX0_tellUnit 97 = .ok (.if_icmp .gt 7, 3) := by decide +kernel
theorem dX0_tellUnit_100 : decode cX0_tellUnit 100 = .ok (.iconst 2, 1) := by decide +kernel
theorem dX0_tellUnit_101 : decode cX0_tellUnit 101 = .ok (.goto 4, 3) := by decide +kernel
theorem dX0_tellUnit_104 : decode cX0_tellUnit 104 = .ok (.iconst 1, 1) := by decide +kernel
theorem dX0_tellUnit_105 : decode cX0_tellUnit 105 = .ok (.ireturn, 1) := by decide +kernel
theorem dX0_tellUnit_106 : decode cX0_tellUnit 106 = .ok (.iconst (-1), 1) := by decide +kernel
theorem dX0_tellUnit_107 : decode cX0_tellUnit 107 = .ok (.ireturn, 1) := by decide +kernel
theorem dX0_tellIssued_0 : decode cX0_tellIssued 0 = .ok (.aload_n 0, 1) := by decide +kernel
theorem dX0_tellIssued_1 : decode cX0_tellIssued 1 = .ok (.getfield 34, 3) := by decide +kernel
theorem dX0_tellIssued_4 : decode cX0_tellIssued 4 = .ok (.iload_n 1, 1) := by decide +kernel
theorem dX0_tellIssued_5 : decode cX0_tellIssued 5 = .ok (.invokestatic 165, 3) := by decide +kernel
theorem dX0_tellIssued_8 : decode cX0_tellIssued 8 = .ok (.iload_n 2, 1) := by decide +kernel
theorem dX0_tellIssued_9 : decode cX0_tellIssued 9 = .ok (.iadd, 1) := by decide +kernel
theorem dX0_tellIssued_10 : decode cX0_tellIssued 10 = .ok (.iaload, 1) := by decide +kernel
theorem dX0_tellIssued_11 : decode cX0_tellIssued 11 = .ok (.istore_n 3, 1) := by decide +kernel
theorem dX0_tellIssued_12 : decode cX0_tellIssued 12 = .ok (.iload_n 2, 1) := by decide +kernel
theorem dX0_tellIssued_13 : decode cX0_tellIssued 13 = .ok (.iconst 2, 1) := by decide +kernel
theorem dX0_tellIssued_14 : decode cX0_tellIssued 14 = .ok (.if_icmp .lt 15, 3) := by decide +kernel
theorem dX0_tellIssued_17 : decode cX0_tellIssued 17 = .ok (.iload_n 3, 1) := by decide +kernel
theorem dX0_tellIssued_18 : decode cX0_tellIssued 18 = .ok (.aload_n 0, 1) := by decide +kernel
theorem dX0_tellIssued_19 : decode cX0_tellIssued 19 = .ok (.getfield 45, 3) := by decide +kernel
theorem dX0_tellIssued_22 : decode cX0_tellIssued 22 = .ok (.if_icmp .le 7, 3) := by decide +kernel
theorem dX0_tellIssued_25 : decode cX0_tellIssued 25 = .ok (.iconst (-1), 1) := by decide +kernel
theorem dX0_tellIssued_26 : decode cX0_tellIssued 26 = .ok (.goto 4, 3) := by decide +kernel
theorem dX0_tellIssued_29 : decode cX0_tellIssued 29 = .ok (.iload_n 3, 1) := by decide +kernel
theorem dX0_tellIssued_30 : decode cX0_tellIssued 30 = .ok (.ireturn, 1) := by decide +kernel
theorem dX1_init_0 : decode cX1_init 0 = .ok (.aload_n 0, 1) := by decide +kernel
theorem dX1_init_1 : decode cX1_init 1 = .ok (.invokespecial 3, 3) := by decide +kernel
theorem dX1_init_4 : decode cX1_init 4 = .ok (.aload_n 0, 1) := by decide +kernel
theorem dX1_init_5 : decode cX1_init 5 = .ok (.bipush 16, 2) := by decide +kernel
theorem dX1_init_7 : decode cX1_init 7 = .ok (.newarray .long, 2) := by decide +kernel
theorem dX1_init_9 : decode cX1_init 9 = .ok (.putfield 9, 3) := by decide +kernel
theorem dX1_init_12 : decode cX1_init 12 = .ok (.aload_n 0, 1) := by decide +kernel
theorem dX1_init_13 : decode cX1_init 13 = .ok (.sipush 256, 3) := by decide +kernel
theorem dX1_init_16 : decode cX1_init 16 = .ok (.newarray .long, 2) := by decide +kernel
theorem dX1_init_18 : decode cX1_init 18 = .ok (.putfield 15, 3) := by decide +kernel
theorem dX1_init_21 : decode cX1_init 21 = .ok (.aload_n 0, 1) := by decide +kernel
theorem dX1_init_22 : decode cX1_init 22 = .ok (.aload_n 1, 1) := by decide +kernel
theorem dX1_init_23 : decode cX1_init 23 = .ok (.putfield 18, 3) := by decide +kernel
theorem dX1_init_26 : decode cX1_init 26 = .ok (.return_, 1) := by decide +kernel
theorem dX1_begin_0 : decode cX1_begin 0 = .ok (.aload_n 0, 1) := by decide +kernel
theorem dX1_begin_1 : decode cX1_begin 1 = .ok (.getfield 18, 3) := by decide +kernel
theorem dX1_begin_4 : decode cX1_begin 4 = .ok (.getfield 22, 3) := by decide +kernel
theorem dX1_begin_7 : decode cX1_begin 7 = .ok (.iconst 0, 1) := by decide +kernel
theorem dX1_begin_8 : decode cX1_begin 8 = .ok (.aload_n 0, 1) := by decide +kernel
theorem dX1_begin_9 : decode cX1_begin 9 = .ok (.getfield 9, 3) := by decide +kernel
theorem dX1_begin_12 : decode cX1_begin 12 = .ok (.iconst 0, 1) := by decide +kernel
theorem dX1_begin_13 : decode cX1_begin 13 = .ok (.bipush 16, 2) := by decide +kernel
theorem dX1_begin_15 : decode cX1_begin 15 = .ok (.invokestatic 25, 3) := by decide +kernel
theorem dX1_begin_18 : decode cX1_begin 18 = .ok (.aload_n 0, 1) := by decide +kernel
theorem dX1_begin_19 : decode cX1_begin 19 = .ok (.getfield 18, 3) := by decide +kernel
theorem dX1_begin_22 : decode cX1_begin 22 = .ok (.getfield 31, 3) := by decide +kernel
theorem dX1_begin_25 : decode cX1_begin 25 = .ok (.iconst 0, 1) := by decide +kernel
theorem dX1_begin_26 : decode cX1_begin 26 = .ok (.aload_n 0, 1) := by decide +kernel
theorem dX1_begin_27 : decode cX1_begin 27 = .ok (.getfield 15, 3) := by decide +kernel
theorem dX1_begin_30 : decode cX1_begin 30 = .ok (.iconst 0, 1) := by decide +kernel
theorem dX1_begin_31 : decode cX1_begin 31 = .ok (.sipush 256, 3) := by decide +kernel
theorem dX1_begin_34 : decode cX1_begin 34 = .ok (.invokestatic 25, 3) := by decide +kernel
theorem dX1_begin_37 : decode cX1_begin 37 = .ok (.aload_n 0, 1) := by decide +kernel
theorem dX1_begin_38 : decode cX1_begin 38 = .ok (.iconst 0, 1) := by decide +kernel
theorem dX1_begin_39 : decode cX1_begin 39 = .ok (.putfield 32, 3) := by decide +kernel
theorem dX1_begin_42 : decode cX1_begin 42 = .ok (.return_, 1) := by decide +kernel
theorem dX1_code_0 : decode cX1_code 0 = .ok (.aload_n 0, 1) := by decide +kernel
theorem dX1_code_1 : decode cX1_code 1 = .ok (.getfield 18, 3) := by decide +kernel
theorem dX1_code_4 : decode cX1_code 4 = .ok (.getfield 36, 3) := by decide +kernel
theorem dX1_code_7 : decode cX1_code 7 = .ok (.aload_n 0, 1) := by decide +kernel
theorem dX1_code_8 : decode cX1_code 8 = .ok (.getfield 32, 3) := by decide +kernel
theorem dX1_code_11 : decode cX1_code 11 = .ok (.iaload, 1) := by decide +kernel
theorem dX1_code_12 : decode cX1_code 12 = .ok (.ireturn, 1) := by decide +kernel
theorem dX1_cell_0 : decode cX1_cell 0 = .ok (.aload_n 0, 1) := by decide +kernel
theorem dX1_cell_1 : decode cX1_cell 1 = .ok (.getfield 9, 3) := by decide +kernel
theorem dX1_cell_4 : decode cX1_cell 4 = .ok (.aload_n 0, 1) := by decide +kernel
theorem dX1_cell_5 : decode cX1_cell 5 = .ok (.getfield 18, 3) := by decide +kernel
theorem dX1_cell_8 : decode cX1_cell 8 = .ok (.getfield 40, 3) := by decide +kernel
theorem dX1_cell_11 : decode cX1_cell 11 = .ok (.aload_n 0, 1) := by decide +kernel
theorem dX1_cell_12 : decode cX1_cell 12 = .ok (.getfield 32, 3) := by decide +kernel
theorem dX1_cell_15 : decode cX1_cell 15 = .ok (.iaload, 1) := by decide +kernel
theorem dX1_cell_16 : decode cX1_cell 16 = .ok (.laload, 1) := by decide +kernel
theorem dX1_cell_17 : decode cX1_cell 17 = .ok (.aload_n 0, 1) := by decide +kernel
theorem dX1_cell_18 : decode cX1_cell 18 = .ok (.getfield 18, 3) := by decide +kernel
theorem dX1_cell_21 : decode cX1_cell 21 = .ok (.getfield 43, 3) := by decide +kernel
theorem dX1_cell_24 : decode cX1_cell 24 = .ok (.aload_n 0, 1) := by decide +kernel
theorem dX1_cell_25 : decode cX1_cell 25 = .ok (.getfield 32, 3) := by decide +kernel
theorem dX1_cell_28 : decode cX1_cell 28 = .ok (.iaload, 1) := by decide +kernel
theorem dX1_cell_29 : decode cX1_cell 29 = .ok (.i2l, 1) := by decide +kernel
theorem dX1_cell_30 : decode cX1_cell 30 = .ok (.ladd, 1) := by decide +kernel
theorem dX1_cell_31 : decode cX1_cell 31 = .ok (.lstore_n 1, 1) := by decide +kernel
theorem dX1_cell_32 : decode cX1_cell 32 = .ok (.lload_n 1, 1) := by decide +kernel
theorem dX1_cell_33 : decode cX1_cell 33 = .ok (.ldc2_w 46, 3) := by decide +kernel
theorem dX1_cell_36 : decode cX1_cell 36 = .ok (.land, 1) := by decide +kernel
theorem dX1_cell_37 : decode cX1_cell 37 = .ok (.l2i, 1) := by decide +kernel
theorem dX1_cell_38 : decode cX1_cell 38 = .ok (.ireturn, 1) := by decide +kernel
theorem dX1_step_0 : decode cX1_step 0 = .ok (.aload_n 0, 1) := by decide +kernel
theorem dX1_step_1 : decode cX1_step 1 = .ok (.invokevirtual 48, 3) := by decide +kernel
theorem dX1_step_4 : decode cX1_step 4 = .ok (.istore_n 1, 1) := by decide +kernel
theorem dX1_step_5 : decode cX1_step 5 = .ok (.aload_n 0, 1) := by decide +kernel
theorem dX1_step_6 : decode cX1_step 6 = .ok (.getfield 18, 3) := by decide +kernel
theorem dX1_step_9 : decode cX1_step 9 = .ok (.getfield 52, 3) := by decide +kernel
theorem dX1_step_12 : decode cX1_step 12 = .ok (.aload_n 0, 1) := by decide +kernel
theorem dX1_step_13 : decode cX1_step 13 = .ok (.getfield 32, 3) := by decide +kernel
theorem dX1_step_16 : decode cX1_step 16 = .ok (.iaload, 1) := by decide +kernel
theorem dX1_step_17 : decode cX1_step 17 = .ok (.istore_n 2, 1) := by decide +kernel
theorem dX1_step_18 : decode cX1_step 18 = .ok (.iload_n 1, 1) := by decide +kernel
theorem dX1_step_19 : decode cX1_step 19 = .ok (.bipush 15, 2) := by decide +kernel
theorem dX1_step_21 : decode cX1_step 21 = .ok (.if_icmp .ne 21, 3) := by decide +kernel
theorem dX1_step_24 : decode cX1_step 24 = .ok (.aload_n 0, 1) := by decide +kernel
theorem dX1_step_25 : decode cX1_step 25 = .ok (.getfield 15, 3) := by decide +kernel
theorem dX1_step_28 : decode cX1_step 28 = .ok (.aload_n 0, 1) := by decide +kernel
theorem dX1_step_29 : decode cX1_step 29 = .ok (.invokevirtual 55, 3) := by decide +kernel
theorem dX1_step_32 : decode cX1_step 32 = .ok (.aload_n 0, 1) := by decide +kernel
theorem dX1_step_33 : decode cX1_step 33 = .ok (.getfield 9, 3) := by decide +kernel
theorem dX1_step_36 : decode cX1_step 36 = .ok (.iload_n 2, 1) := by decide +kernel
theorem dX1_step_37 : decode cX1_step 37 = .ok (.laload, 1) := by decide +kernel
theorem dX1_step_38 : decode cX1_step 38 = .ok (.lastore, 1) := by decide +kernel
theorem dX1_step_39 : decode cX1_step 39 = .ok (.goto 21, 3) := by decide +kernel
theorem dX1_step_42 : decode cX1_step 42 = .ok (.iload_n 1, 1) := by decide +kernel
theorem dX1_step_43 : decode cX1_step 43 = .ok (.invokestatic 58, 3) := by decide +kernel
theorem dX1_step_46 : decode cX1_step 46 = .ok (.ifCond .eq 14, 3) := by decide +kernel
theorem dX1_step_49 : decode cX1_step 49 = .ok (.aload_n 0, 1) := by decide +kernel
theorem dX1_step_50 : decode cX1_step 50 = .ok (.getfield 9, 3) := by decide +kernel
theorem dX1_step_53 : decode cX1_step 53 = .ok (.iload_n 2, 1) := by decide +kernel
theorem dX1_step_54 : decode cX1_step 54 = .ok (.aload_n 0, 1) := by decide +kernel
theorem dX1_step_55 : decode cX1_step 55 = .ok (.iload_n 1, 1) := by decide +kernel
theorem dX1_step_56 : decode cX1_step 56 = .ok (.invokevirtual 62, 3) := by decide +kernel
theorem dX1_step_59 : decode cX1_step 59 = .ok (.lastore, 1) := by decide +kernel
theorem dX1_step_60 : decode cX1_step 60 = .ok (.aload_n 0, 1) := by decide +kernel
theorem dX1_step_61 : decode cX1_step 61 = .ok (.aload_n 0, 1) := by decide +kernel
theorem dX1_step_62 : decode cX1_step 62 = .ok (.iload_n 1, 1) := by decide +kernel
theorem dX1_step_63 : decode cX1_step 63 = .ok (.invokevirtual 66, 3) := by decide +kernel
theorem dX1_step_66 : decode cX1_step 66 = .ok (.putfield 32, 3) := by decide +kernel
theorem dX1_step_69 : decode cX1_step 69 = .ok (.return_, 1) := by decide +kernel
theorem dX1_value_0 : decode cX1_value 0 = .ok (.iload_n 1, 1) := by decide +kernel
theorem dX1_value_1 : decode cX1_value 1 = .ok (.bipush 14, 2) := by decide +kernel
theorem dX1_value_3 : decode cX1_value 3 = .ok (.if_icmp .ne 13, 3) := by decide +kernel
theorem dX1_value_6 : decode cX1_value 6 = .ok (.aload_n 0, 1) := by decide +kernel
theorem dX1_value_7 : decode cX1_value 7 = .ok (.getfield 15, 3) := by decide +kernel
theorem dX1_value_10 : decode cX1_value 10 = .ok (.aload_n 0, 1) := by decide +kernel
theorem dX1_value_11 : decode cX1_value 11 = .ok (.invokevirtual 55, 3) := by decide +kernel
theorem dX1_value_14 : decode cX1_value 14 = .ok (.laload, 1) := by decide +kernel
theorem dX1_value_15 : decode cX1_value 15 = .ok (.lreturn, 1) := by decide +kernel
theorem dX1_value_16 : decode cX1_value 16 = .ok (.aload_n 0, 1) := by decide +kernel
theorem dX1_value_17 : decode cX1_value 17 = .ok (.getfield 9, 3) := by decide +kernel
theorem dX1_value_20 : decode cX1_value 20 = .ok (.aload_n 0, 1) := by decide +kernel
theorem dX1_value_21 : decode cX1_value 21 = .ok (.getfield 18, 3) := by decide +kernel
theorem dX1_value_24 : decode cX1_value 24 = .ok (.getfield 40, 3) := by decide +kernel
theorem dX1_value_27 : decode cX1_value 27 = .ok (.aload_n 0, 1) := by decide +kernel
theorem dX1_value_28 : decode cX1_value 28 = .ok (.getfield 32, 3) := by decide +kernel
theorem dX1_value_31 : decode cX1_value 31 = .ok (.iaload, 1) := by decide +kernel
theorem dX1_value_32 : decode cX1_value 32 = .ok (.laload, 1) := by decide +kernel
theorem dX1_value_33 : decode cX1_value 33 = .ok (.lstore_n 2, 1) := by decide +kernel
theorem dX1_value_34 : decode cX1_value 34 = .ok (.iload_n 1, 1) := by decide +kernel
theorem dX1_value_35 : decode cX1_value 35 = .ok (.bipush 6, 2) := by decide +kernel
theorem dX1_value_37 : decode cX1_value 37 = .ok (.if_icmp .ne 17, 3) := by decide +kernel
theorem dX1_value_40 : decode cX1_value 40 = .ok (.aload_n 0, 1) := by decide +kernel
theorem dX1_value_41 : decode cX1_value 41 = .ok (.getfield 18, 3) := by decide +kernel
theorem dX1_value_44 : decode cX1_value 44 = .ok (.getfield 43, 3) := by decide +kernel
theorem dX1_value_47 : decode cX1_value 47 = .ok (.aload_n 0, 1) := by decide +kernel
theorem dX1_value_48 : decode cX1_value 48 = .ok (.getfield 32, 3) := by decide +kernel
theorem dX1_value_51 : decode cX1_value 51 = .ok (.iaload, 1) := by decide +kernel
theorem dX1_value_52 : decode cX1_value 52 = .ok (.i2l, 1) := by decide +kernel
theorem dX1_value_53 : decode cX1_value 53 = .ok (.lreturn, 1) := by decide +kernel
theorem dX1_value_54 : decode cX1_value 54 = .ok (.iload_n 1, 1) := by decide +kernel
theorem dX1_value_55 : decode cX1_value 55 = .ok (.bipush 7, 2) := by decide +kernel
theorem dX1_value_57 : decode cX1_value 57 = .ok (.if_icmp .ne 19, 3) := by decide +kernel
theorem dX1_value_60 : decode cX1_value 60 = .ok (.lload_n 2, 1) := by decide +kernel
theorem dX1_value_61 : decode cX1_value 61 = .ok (.aload_n 0, 1) := by decide +kernel
theorem dX1_value_62 : decode cX1_value 62 = .ok (.getfield 18, 3) := by decide +kernel
theorem dX1_value_65 : decode cX1_value 65 = .ok (.getfield 43, 3) := by decide +kernel
theorem dX1_value_68 : decode cX1_value 68 = .ok (.aload_n 0, 1) := by decide +kernel
theorem dX1_value_69 : decode cX1_value 69 = .ok (.getfield 32, 3) := by decide +kernel
theorem dX1_value_72 : decode cX1_value 72 = .ok (.iaload, 1) := by decide +kernel
theorem dX1_value_73 : decode cX1_value 73 = .ok (.i2l, 1) := by decide +kernel
theorem dX1_value_74 : decode cX1_value 74 = .ok (.ladd, 1) := by decide +kernel
theorem dX1_value_75 : decode cX1_value 75 = .ok (.lreturn, 1) := by decide +kernel
theorem dX1_value_76 : decode cX1_value 76 = .ok (.iload_n 1, 1) := by decide +kernel
theorem dX1_value_77 : decode cX1_value 77 = .ok (.lload_n 2, 1) := by decide +kernel
theorem dX1_value_78 : decode cX1_value 78 = .ok (.aload_n 0, 1) := by decide +kernel
theorem dX1_value_79 : decode cX1_value 79 = .ok (.getfield 9, 3) := by decide +kernel
theorem dX1_value_82 : decode cX1_value 82 = .ok (.aload_n 0, 1) := by decide +kernel
theorem dX1_value_83 : decode cX1_value 83 = .ok (.getfield 18, 3) := by decide +kernel
theorem dX1_value_86 : decode cX1_value 86 = .ok (.aload_n 0, 1) := by decide +kernel
theorem dX1_value_87 : decode cX1_value 87 = .ok (.getfield 32, 3) := by decide +kernel
theorem dX1_value_90 : decode cX1_value 90 = .ok (.invokevirtual 70, 3) := by decide +kernel
theorem dX1_value_93 : decode cX1_value 93 = .ok (.laload, 1) := by decide +kernel
theorem dX1_value_94 : decode cX1_value 94 = .ok (.invokestatic 73, 3) := by decide +kernel
theorem dX1_value_97 : decode cX1_value 97 = .ok (.lreturn, 1) := by decide +kernel
theorem dX1_placeAfter_0 : decode cX1_placeAfter 0 = .ok (.aload_n 0, 1) := by decide +kernel
theorem dX1_placeAfter_1 : decode cX1_placeAfter 1 = .ok (.getfield 9, 3) := by decide +kernel
theorem dX1_placeAfter_4 : decode cX1_placeAfter 4 = .ok (.aload_n 0, 1) := by decide +kernel
theorem dX1_placeAfter_5 : decode cX1_placeAfter 5 = .ok (.getfield 18, 3) := by decide +kernel
theorem dX1_placeAfter_8 : decode cX1_placeAfter 8 = .ok (.getfield 40, 3) := by decide +kernel
theorem dX1_placeAfter_11 : decode cX1_placeAfter 11 = .ok (.aload_n 0, 1) := by decide +kernel
theorem dX1_placeAfter_12 : decode cX1_placeAfter 12 = .ok (.getfield 32, 3) := by decide +kernel
theorem dX1_placeAfter_15 : decode cX1_placeAfter 15 = .ok (.iaload, 1) := by decide +kernel
theorem dX1_placeAfter_16 : decode cX1_placeAfter 16 = .ok (.laload, 1) := by decide +kernel
theorem dX1_placeAfter_17 : decode cX1_placeAfter 17 = .ok (.lstore_n 2, 1) := by decide +kernel
theorem dX1_placeAfter_18 : decode cX1_placeAfter 18 = .ok (.iload_n 1, 1) := by decide +kernel
theorem dX1_placeAfter_19 : decode cX1_placeAfter 19 = .ok (.bipush 18, 2) := by decide +kernel
theorem dX1_placeAfter_21 : decode cX1_placeAfter 21 = .ok (.if_icmp .eq 27, 3) := by decide +kernel
theorem dX1_placeAfter_24 : decode cX1_placeAfter 24 = .ok (.iload_n 1, 1) := by decide +kernel
theorem dX1_placeAfter_25 : decode cX1_placeAfter 25 = .ok (.bipush 16, 2) := by decide +kernel
theorem dX1_placeAfter_27 : decode cX1_placeAfter 27 = .ok (.if_icmp .ne 9, 3) := by decide +kernel
theorem dX1_placeAfter_30 : decode cX1_placeAfter 30 = .ok (.lload_n 2, 1) := by decide +kernel
theorem dX1_placeAfter_31 : decode cX1_placeAfter 31 = .ok (.lconst 0, 1) := by decide +kernel
theorem dX1_placeAfter_32 : decode cX1_placeAfter 32 = .ok (.lcmp, 1) := by decide +kernel
theorem dX1_placeAfter_33 : decode cX1_placeAfter 33 = .ok (.ifCond .eq 15, 3) := by decide +kernel
theorem dX1_placeAfter_36 : decode cX1_placeAfter 36 = .ok (.iload_n 1, 1) := by decide +kernel
theorem dX1_placeAfter_37 : decode cX1_placeAfter 37 = .ok (.bipush 17, 2) := by decide +kernel
theorem dX1_placeAfter_39 : decode cX1_placeAfter 39 = .ok (.if_icmp .ne 13, 3) := by decide +kernel
theorem dX1_placeAfter_42 : decode cX1_placeAfter 42 = .ok (.lload_n 2, 1) := by decide +kernel
theorem dX1_placeAfter_43 : decode cX1_placeAfter 43 = .ok (.lconst 0, 1) := by decide +kernel
theorem dX1_placeAfter_44 : decode cX1_placeAfter 44 = .ok (.lcmp, 1) := by decide +kernel
theorem dX1_placeAfter_45 : decode cX1_placeAfter 45 = .ok (.ifCond .ge 7, 3) := by decide +kernel
theorem dX1_placeAfter_48 : decode cX1_placeAfter 48 = .ok (.iconst 1, 1) := by decide +kernel
theorem dX1_placeAfter_49 : decode cX1_placeAfter 49 = .ok (.goto 4, 3) := by decide +kernel
theorem dX1_placeAfter_52 : decode cX1_placeAfter 52 = .ok (.iconst 0, 1) := by decide +kernel
theorem dX1_placeAfter_53 : decode cX1_placeAfter 53 = .ok (.istore 4, 2) := by decide +kernel
theorem dX1_placeAfter_55 : decode cX1_placeAfter 55 = .ok (.iload 4, 2) := by decide +kernel
theorem dX1_placeAfter_57 : decode cX1_placeAfter 57 = .ok (.ifCond .eq 18, 3) := by decide +kernel
theorem dX1_placeAfter_60 : decode cX1_placeAfter 60 = .ok (.aload_n 0, 1) := by decide +kernel
theorem dX1_placeAfter_61 : decode cX1_placeAfter 61 = .ok (.getfield 18, 3) := by decide +kernel
theorem dX1_placeAfter_64 : decode cX1_placeAfter 64 = .ok (.getfield 43, 3) := by decide +kernel
theorem dX1_placeAfter_67 : decode cX1_placeAfter 67 = .ok (.aload_n 0, 1) := by decide +kernel
theorem dX1_placeAfter_68 : decode cX1_placeAfter 68 = .ok (.getfield 32, 3) := by decide +kernel
theorem dX1_placeAfter_71 : decode cX1_placeAfter 71 = .ok (.iaload, 1) := by decide +kernel
theorem dX1_placeAfter_72 : decode cX1_placeAfter 72 = .ok (.goto 9, 3) := by decide +kernel
theorem dX1_placeAfter_75 : decode cX1_placeAfter 75 = .ok (.aload_n 0, 1) := by decide +kernel
theorem dX1_placeAfter_76 : decode cX1_placeAfter 76 = .ok (.getfield 32, 3) := by decide +kernel
theorem dX1_placeAfter_79 : decode cX1_placeAfter 79 = .ok (.iconst 1, 1) := by decide +kernel
theorem dX1_placeAfter_80 : decode cX1_placeAfter 80 = .ok (.iadd, 1) := by decide +kernel
theorem dX1_placeAfter_81 : decode cX1_placeAfter 81 = .ok (.istore 5, 2) := by decide +kernel
theorem dX1_placeAfter_83 : decode cX1_placeAfter 83 = .ok (.iload 5, 2) := by decide +kernel
theorem dX1_placeAfter_85 : decode cX1_placeAfter 85 = .ok (.sipush 255, 3) := by decide +kernel
theorem dX1_placeAfter_88 : decode cX1_placeAfter 88 = .ok (.iand, 1) := by decide +kernel
theorem dX1_placeAfter_89 : decode cX1_placeAfter 89 = .ok (.ireturn, 1) := by decide +kernel
theorem dX1_worked_0 : decode cX1_worked 0 = .ok (.iload_n 0, 1) := by decide +kernel
theorem dX1_worked_1 : decode cX1_worked 1 = .ok (.tableswitch 146 1 13 #[67, 71, 75, 79, 83, 146, 146, 87, 96, 105, 114, 118, 132], 67) := by decide +kernel
theorem dX1_worked_68 : decode cX1_worked 68 = .ok (.lload_n 1, 1) := by decide +kernel
theorem dX1_worked_69 : decode cX1_worked 69 = .ok (.lload_n 3, 1) := by decide +kernel
theorem dX1_worked_70 : decode cX1_worked 70 = .ok (.ladd, 1) := by decide +kernel
theorem dX1_worked_71 : decode cX1_worked 71 = .ok (.lreturn, 1) := by decide +kernel
theorem dX1_worked_72 : decode cX1_worked 72 = .ok (.lload_n 1, 1) := by decide +kernel
theorem dX1_worked_73 : decode cX1_worked 73 = .ok (.lload_n 3, 1) := by decide +kernel
theorem dX1_worked_74 : decode cX1_worked 74 = .ok (.lsub, 1) := by decide +kernel
theorem dX1_worked_75 : decode cX1_worked 75 = .ok (.lreturn, 1) := by decide +kernel
theorem dX1_worked_76 : decode cX1_worked 76 = .ok (.lload_n 1, 1) := by decide +kernel
theorem dX1_worked_77 : decode cX1_worked 77 = .ok (.lload_n 3, 1) := by decide +kernel
theorem dX1_worked_78 : decode cX1_worked 78 = .ok (.land, 1) := by decide +kernel
theorem dX1_worked_79 : decode cX1_worked 79 = .ok (.lreturn, 1) := by decide +kernel
theorem dX1_worked_80 : decode cX1_worked 80 = .ok (.lload_n 1, 1) := by decide +kernel
theorem dX1_worked_81 : decode cX1_worked 81 = .ok (.lload_n 3, 1) := by decide +kernel
theorem dX1_worked_82 : decode cX1_worked 82 = .ok (.lor, 1) := by decide +kernel
theorem dX1_worked_83 : decode cX1_worked 83 = .ok (.lreturn, 1) := by decide +kernel
theorem dX1_worked_84 : decode cX1_worked 84 = .ok (.lload_n 1, 1) := by decide +kernel
theorem dX1_worked_85 : decode cX1_worked 85 = .ok (.lload_n 3, 1) := by decide +kernel
theorem dX1_worked_86 : decode cX1_worked 86 = .ok (.lxor, 1) := by decide +kernel
theorem dX1_worked_87 : decode cX1_worked 87 = .ok (.lreturn, 1) := by decide +kernel
theorem dX1_worked_88 : decode cX1_worked 88 = .ok (.lload_n 1, 1) := by decide +kernel
theorem dX1_worked_89 : decode cX1_worked 89 = .ok (.lload_n 3, 1) := by decide +kernel
theorem dX1_worked_90 : decode cX1_worked 90 = .ok (.ldc2_w 77, 3) := by decide +kernel
theorem dX1_worked_93 : decode cX1_worked 93 = .ok (.land, 1) := by decide +kernel
theorem dX1_worked_94 : decode cX1_worked 94 = .ok (.l2i, 1) := by decide +kernel
theorem dX1_worked_95 : decode cX1_worked 95 = .ok (.lshl, 1) := by decide +kernel
theorem dX1_worked_96 : decode cX1_worked 96 = .ok (.lreturn, 1) := by decide +kernel
theorem dX1_worked_97 : decode cX1_worked 97 = .ok (.lload_n 1, 1) := by decide +kernel
theorem dX1_worked_98 : decode cX1_worked 98 = .ok (.lload_n 3, 1) := by decide +kernel
theorem dX1_worked_99 : decode cX1_worked 99 = .ok (.ldc2_w 77, 3) := by decide +kernel
theorem dX1_worked_102 : decode cX1_worked 102 = .ok (.land, 1) := by decide +kernel
theorem dX1_worked_103 : decode cX1_worked 103 = .ok (.l2i, 1) := by decide +kernel
theorem dX1_worked_104 : decode cX1_worked 104 = .ok (.lshr, 1) := by decide +kernel
theorem dX1_worked_105 : decode cX1_worked 105 = .ok (.lreturn, 1) := by decide +kernel
theorem dX1_worked_106 : decode cX1_worked 106 = .ok (.lload_n 1, 1) := by decide +kernel
theorem dX1_worked_107 : decode cX1_worked 107 = .ok (.lload_n 3, 1) := by decide +kernel
theorem dX1_worked_108 : decode cX1_worked 108 = .ok (.ldc2_w 77, 3) := by decide +kernel
theorem dX1_worked_111 : decode cX1_worked 111 = .ok (.land, 1) := by decide +kernel
theorem dX1_worked_112 : decode cX1_worked 112 = .ok (.l2i, 1) := by decide +kernel
theorem dX1_worked_113 : decode cX1_worked 113 = .ok (.lushr, 1) := by decide +kernel
theorem dX1_worked_114 : decode cX1_worked 114 = .ok (.lreturn, 1) := by decide +kernel
theorem dX1_worked_115 : decode cX1_worked 115 = .ok (.lload_n 1, 1) := by decide +kernel
theorem dX1_worked_116 : decode cX1_worked 116 = .ok (.lload_n 3, 1) := by decide +kernel
theorem dX1_worked_117 : decode cX1_worked 117 = .ok (.lmul, 1) := by decide +kernel
theorem dX1_worked_118 : decode cX1_worked 118 = .ok (.lreturn, 1) := by decide +kernel
theorem dX1_worked_119 : decode cX1_worked 119 = .ok (.lload_n 3, 1) := by decide +kernel
theorem dX1_worked_120 : decode cX1_worked 120 = .ok (.lconst 0, 1) := by decide +kernel
theorem dX1_worked_121 : decode cX1_worked 121 = .ok (.lcmp, 1) := by decide +kernel
theorem dX1_worked_122 : decode cX1_worked 122 = .ok (.ifCond .ne 7, 3) := by decide +kernel
theorem dX1_worked_125 : decode cX1_worked 125 = .ok (.lconst 0, 1) := by decide +kernel
theorem dX1_worked_126 : decode cX1_worked 126 = .ok (.goto 6, 3) := by decide +kernel
theorem dX1_worked_129 : decode cX1_worked 129 = .ok (.lload_n 1, 1) := by decide +kernel
theorem dX1_worked_130 : decode cX1_worked 130 = .ok (.lload_n 3, 1) := by decide +kernel
theorem dX1_worked_131 : decode cX1_worked 131 = .ok (.ldiv, 1) := by decide +kernel
theorem dX1_worked_132 : decode cX1_worked 132 = .ok (.lreturn, 1) := by decide +kernel
theorem dX1_worked_133 : decode cX1_worked 133 = .ok (.lload_n 3, 1) := by decide +kernel
theorem dX1_worked_134 : decode cX1_worked 134 = .ok (.lconst 0, 1) := by decide +kernel
theorem dX1_worked_135 : decode cX1_worked 135 = .ok (.lcmp, 1) := by decide +kernel
theorem dX1_worked_136 : decode cX1_worked 136 = .ok (.ifCond .ne 7, 3) := by decide +kernel
theorem dX1_worked_139 : decode cX1_worked 139 = .ok (.lconst 0, 1) := by decide +kernel
theorem dX1_worked_140 : decode cX1_worked 140 = .ok (.goto 6, 3) := by decide +kernel
theorem dX1_worked_143 : decode cX1_worked 143 = .ok (.lload_n 1, 1) := by decide +kernel
theorem dX1_worked_144 : decode cX1_worked 144 = .ok (.lload_n 3, 1) := by decide +kernel
theorem dX1_worked_145 : decode cX1_worked 145 = .ok (.lrem, 1) := by decide +kernel
theorem dX1_worked_146 : decode cX1_worked 146 = .ok (.lreturn, 1) := by decide +kernel
theorem dX1_worked_147 : decode cX1_worked 147 = .ok (.lconst 0, 1) := by decide +kernel
theorem dX1_worked_148 : decode cX1_worked 148 = .ok (.lreturn, 1) := by decide +kernel
theorem dX2_init_0 : decode cX2_init 0 = .ok (.aload_n 0, 1) := by decide +kernel
theorem dX2_init_1 : decode cX2_init 1 = .ok (.invokespecial 3, 3) := by decide +kernel
theorem dX2_init_4 : decode cX2_init 4 = .ok (.aload_n 0, 1) := by decide +kernel
theorem dX2_init_5 : decode cX2_init 5 = .ok (.sipush 256, 3) := by decide +kernel
theorem dX2_init_8 : decode cX2_init 8 = .ok (.newarray .int, 2) := by decide +kernel
theorem dX2_init_10 : decode cX2_init 10 = .ok (.putfield 9, 3) := by decide +kernel
theorem dX2_init_13 : decode cX2_init 13 = .ok (.aload_n 0, 1) := by decide +kernel
theorem dX2_init_14 : decode cX2_init 14 = .ok (.sipush 256, 3) := by decide +kernel
theorem dX2_init_17 : decode cX2_init 17 = .ok (.newarray .int, 2) := by decide +kernel
theorem dX2_init_19 : decode cX2_init 19 = .ok (.putfield 15, 3) := by decide +kernel
theorem dX2_init_22 : decode cX2_init 22 = .ok (.aload_n 0, 1) := by decide +kernel
theorem dX2_init_23 : decode cX2_init 23 = .ok (.sipush 256, 3) := by decide +kernel
theorem dX2_init_26 : decode cX2_init 26 = .ok (.newarray .int, 2) := by decide +kernel
theorem dX2_init_28 : decode cX2_init 28 = .ok (.putfield 18, 3) := by decide +kernel
theorem dX2_init_31 : decode cX2_init 31 = .ok (.aload_n 0, 1) := by decide +kernel
theorem dX2_init_32 : decode cX2_init 32 = .ok (.sipush 256, 3) := by decide +kernel
theorem dX2_init_35 : decode cX2_init 35 = .ok (.newarray .int, 2) := by decide +kernel
theorem dX2_init_37 : decode cX2_init 37 = .ok (.putfield 21, 3) := by decide +kernel
theorem dX2_init_40 : decode cX2_init 40 = .ok (.aload_n 0, 1) := by decide +kernel
theorem dX2_init_41 : decode cX2_init 41 = .ok (.bipush 6, 2) := by decide +kernel
theorem dX2_init_43 : decode cX2_init 43 = .ok (.newarray .int, 2) := by decide +kernel
theorem dX2_init_45 : decode cX2_init 45 = .ok (.putfield 24, 3) := by decide +kernel
theorem dX2_init_48 : decode cX2_init 48 = .ok (.aload_n 0, 1) := by decide +kernel
theorem dX2_init_49 : decode cX2_init 49 = .ok (.bipush 6, 2) := by decide +kernel
theorem dX2_init_51 : decode cX2_init 51 = .ok (.newarray .int, 2) := by decide +kernel
theorem dX2_init_53 : decode cX2_init 53 = .ok (.putfield 27, 3) := by decide +kernel
theorem dX2_init_56 : decode cX2_init 56 = .ok (.aload_n 0, 1) := by decide +kernel
theorem dX2_init_57 : decode cX2_init 57 = .ok (.bipush 16, 2) := by decide +kernel
theorem dX2_init_59 : decode cX2_init 59 = .ok (.newarray .long, 2) := by decide +kernel
theorem dX2_init_61 : decode cX2_init 61 = .ok (.putfield 30, 3) := by decide +kernel
theorem dX2_init_64 : decode cX2_init 64 = .ok (.aload_n 0, 1) := by decide +kernel
theorem dX2_init_65 : decode cX2_init 65 = .ok (.sipush 256, 3) := by decide +kernel
theorem dX2_init_68 : decode cX2_init 68 = .ok (.newarray .long, 2) := by decide +kernel
theorem dX2_init_70 : decode cX2_init 70 = .ok (.putfield 34, 3) := by decide +kernel
theorem dX2_init_73 : decode cX2_init 73 = .ok (.aload_n 0, 1) := by decide +kernel
theorem dX2_init_74 : decode cX2_init 74 = .ok (.invokevirtual 37, 3) := by decide +kernel
theorem dX2_init_77 : decode cX2_init 77 = .ok (.return_, 1) := by decide +kernel
theorem dX2_begin_0 : decode cX2_begin 0 = .ok (.aload_n 0, 1) := by decide +kernel
theorem dX2_begin_1 : decode cX2_begin 1 = .ok (.getfield 9, 3) := by decide +kernel
theorem dX2_begin_4 : decode cX2_begin 4 = .ok (.iconst 0, 1) := by decide +kernel
theorem dX2_begin_5 : decode cX2_begin 5 = .ok (.invokestatic 40, 3) := by decide +kernel
theorem dX2_begin_8 : decode cX2_begin 8 = .ok (.aload_n 0, 1) := by decide +kernel
theorem dX2_begin_9 : decode cX2_begin 9 = .ok (.getfield 15, 3) := by decide +kernel
theorem dX2_begin_12 : decode cX2_begin 12 = .ok (.iconst 0, 1) := by decide +kernel
theorem dX2_begin_13 : decode cX2_begin 13 = .ok (.invokestatic 40, 3) := by decide +kernel
theorem dX2_begin_16 : decode cX2_begin 16 = .ok (.aload_n 0, 1) := by decide +kernel
theorem dX2_begin_17 : decode cX2_begin 17 = .ok (.getfield 18, 3) := by decide +kernel
theorem dX2_begin_20 : decode cX2_begin 20 = .ok (.iconst 0, 1) := by decide +kernel
theorem dX2_begin_21 : decode cX2_begin 21 = .ok (.invokestatic 40, 3) := by decide +kernel
theorem dX2_begin_24 : decode cX2_begin 24 = .ok (.aload_n 0, 1) := by decide +kernel
theorem dX2_begin_25 : decode cX2_begin 25 = .ok (.getfield 21, 3) := by decide +kernel
theorem dX2_begin_28 : decode cX2_begin 28 = .ok (.iconst 0, 1) := by decide +kernel
theorem dX2_begin_29 : decode cX2_begin 29 = .ok (.invokestatic 40, 3) := by decide +kernel
theorem dX2_begin_32 : decode cX2_begin 32 = .ok (.aload_n 0, 1) := by decide +kernel
theorem dX2_begin_33 : decode cX2_begin 33 = .ok (.getfield 24, 3) := by decide +kernel
theorem dX2_begin_36 : decode cX2_begin 36 = .ok (.iconst 1, 1) := by decide +kernel
theorem dX2_begin_37 : decode cX2_begin 37 = .ok (.invokestatic 40, 3) := by decide +kernel
theorem dX2_begin_40 : decode cX2_begin 40 = .ok (.getstatic 46, 3) := by decide +kernel
theorem dX2_begin_43 : decode cX2_begin 43 = .ok (.iconst 0, 1) := by decide +kernel
theorem dX2_begin_44 : decode cX2_begin 44 = .ok (.aload_n 0, 1) := by decide +kernel
theorem dX2_begin_45 : decode cX2_begin 45 = .ok (.getfield 27, 3) := by decide +kernel
theorem dX2_begin_48 : decode cX2_begin 48 = .ok (.iconst 0, 1) := by decide +kernel
theorem dX2_begin_49 : decode cX2_begin 49 = .ok (.bipush 6, 2) := by decide +kernel
theorem dX2_begin_51 : decode cX2_begin 51 = .ok (.invokestatic 49, 3) := by decide +kernel
theorem dX2_begin_54 : decode cX2_begin 54 = .ok (.aload_n 0, 1) := by decide +kernel
theorem dX2_begin_55 : decode cX2_begin 55 = .ok (.getfield 30, 3) := by decide +kernel
theorem dX2_begin_58 : decode cX2_begin 58 = .ok (.lconst 0, 1) := by decide +kernel
theorem dX2_begin_59 : decode cX2_begin 59 = .ok (.invokestatic 55, 3) := by decide +kernel
theorem dX2_begin_62 : decode cX2_begin 62 = .ok (.aload_n 0, 1) := by decide +kernel
theorem dX2_begin_63 : decode cX2_begin 63 = .ok (.getfield 34, 3) := by decide +kernel
theorem dX2_begin_66 : decode cX2_begin 66 = .ok (.lconst 0, 1) := by decide +kernel
theorem dX2_begin_67 : decode cX2_begin 67 = .ok (.invokestatic 55, 3) := by decide +kernel
theorem dX2_begin_70 : decode cX2_begin 70 = .ok (.aload_n 0, 1) := by decide +kernel
theorem dX2_begin_71 : decode cX2_begin 71 = .ok (.iconst 1, 1) := by decide +kernel
theorem dX2_begin_72 : decode cX2_begin 72 = .ok (.putfield 58, 3) := by decide +kernel
theorem dX2_begin_75 : decode cX2_begin 75 = .ok (.return_, 1) := by decide +kernel
theorem dX2_registerB_0 : decode cX2_registerB 0 = .ok (.aload_n 0, 1) := by decide +kernel
theorem dX2_registerB_1 : decode cX2_registerB 1 = .ok (.getfield 21, 3) := by decide +kernel
theorem dX2_registerB_4 : decode cX2_registerB 4 = .ok (.iload_n 1, 1) := by decide +kernel
theorem dX2_registerB_5 : decode cX2_registerB 5 = .ok (.iaload, 1) := by decide +kernel
theorem dX2_registerB_6 : decode cX2_registerB 6 = .ok (.bipush 15, 2) := by decide +kernel
theorem dX2_registerB_8 : decode cX2_registerB 8 = .ok (.iand, 1) := by decide +kernel
theorem dX2_registerB_9 : decode cX2_registerB 9 = .ok (.ireturn, 1) := by decide +kernel
theorem dX3_init_0 : decode cX3_init 0 = .ok (.aload_n 0, 1) := by decide +kernel
theorem dX3_init_1 : decode cX3_init 1 = .ok (.invokespecial 1, 3) := by decide +kernel
theorem dX3_init_4 : decode cX3_init 4 = .ok (.aload_n 0, 1) := by decide +kernel
theorem dX3_init_5 : decode cX3_init 5 = .ok (.new 7, 3) := by decide +kernel
theorem dX3_init_8 : decode cX3_init 8 = .ok (.dup, 1) := by decide +kernel
theorem dX3_init_9 : decode cX3_init 9 = .ok (.invokespecial 9, 3) := by decide +kernel
theorem dX3_init_12 : decode cX3_init 12 = .ok (.putfield 10, 3) := by decide +kernel
theorem dX3_init_15 : decode cX3_init 15 = .ok (.aload_n 0, 1) := by decide +kernel
theorem dX3_init_16 : decode cX3_init 16 = .ok (.new 16, 3) := by decide +kernel
theorem dX3_init_19 : decode cX3_init 19 = .ok (.dup, 1) := by decide +kernel
theorem dX3_init_20 : decode cX3_init 20 = .ok (.aload_n 0, 1) := by decide +kernel
theorem dX3_init_21 : decode cX3_init 21 = .ok (.getfield 10, 3) := by decide +kernel
theorem dX3_init_24 : decode cX3_init 24 = .ok (.invokespecial 18, 3) := by decide +kernel
theorem dX3_init_27 : decode cX3_init 27 = .ok (.putfield 21, 3) := by decide +kernel
theorem dX3_init_30 : decode cX3_init 30 = .ok (.aload_n 0, 1) := by decide +kernel
theorem dX3_init_31 : decode cX3_init 31 = .ok (.new 25, 3) := by decide +kernel
theorem dX3_init_34 : decode cX3_init 34 = .ok (.dup, 1) := by decide +kernel
theorem dX3_init_35 : decode cX3_init 35 = .ok (.aload_n 0, 1) := by decide +kernel
theorem dX3_init_36 : decode cX3_init 36 = .ok (.getfield 10, 3) := by decide +kernel
theorem dX3_init_39 : decode cX3_init 39 = .ok (.aload_n 0, 1) := by decide +kernel
theorem dX3_init_40 : decode cX3_init 40 = .ok (.getfield 21, 3) := by decide +kernel
theorem dX3_init_43 : decode cX3_init 43 = .ok (.invokespecial 27, 3) := by decide +kernel
theorem dX3_init_46 : decode cX3_init 46 = .ok (.putfield 30, 3) := by decide +kernel
theorem dX3_init_49 : decode cX3_init 49 = .ok (.return_, 1) := by decide +kernel
theorem dX3_put_0 : decode cX3_put 0 = .ok (.aload_n 0, 1) := by decide +kernel
theorem dX3_put_1 : decode cX3_put 1 = .ok (.invokevirtual 34, 3) := by decide +kernel
theorem dX3_put_4 : decode cX3_put 4 = .ok (.ifCond .ne 43, 3) := by decide +kernel
theorem dX3_put_7 : decode cX3_put 7 = .ok (.iload_n 1, 1) := by decide +kernel
theorem dX3_put_8 : decode cX3_put 8 = .ok (.sipush 256, 3) := by decide +kernel
theorem dX3_put_11 : decode cX3_put 11 = .ok (.invokestatic 38, 3) := by decide +kernel
theorem dX3_put_14 : decode cX3_put 14 = .ok (.ifCond .eq 33, 3) := by decide +kernel
theorem dX3_put_17 : decode cX3_put 17 = .ok (.iload_n 2, 1) := by decide +kernel
theorem dX3_put_18 : decode cX3_put 18 = .ok (.getstatic 42, 3) := by decide +kernel
theorem dX3_put_21 : decode cX3_put 21 = .ok (.arraylength, 1) := by decide +kernel
theorem dX3_put_22 : decode cX3_put 22 = .ok (.invokestatic 38, 3) := by decide +kernel
theorem dX3_put_25 : decode cX3_put 25 = .ok (.ifCond .eq 22, 3) := by decide +kernel
theorem dX3_put_28 : decode cX3_put 28 = .ok (.iload_n 3, 1) := by decide +kernel
theorem dX3_put_29 : decode cX3_put 29 = .ok (.bipush 16, 2) := by decide +kernel
theorem dX3_put_31 : decode cX3_put 31 = .ok (.invokestatic 38, 3) := by decide +kernel
theorem dX3_put_34 : decode cX3_put 34 = .ok (.ifCond .eq 13, 3) := by decide +kernel
theorem dX3_put_37 : decode cX3_put 37 = .ok (.iload 4, 2) := by decide +kernel
theorem dX3_put_39 : decode cX3_put 39 = .ok (.bipush 16, 2) := by decide +kernel
theorem dX3_put_41 : decode cX3_put 41 = .ok (.invokestatic 38, 3) := by decide +kernel
theorem dX3_put_44 : decode cX3_put 44 = .ok (.ifCond .ne 5, 3) := by decide +kernel
theorem dX3_put_47 : decode cX3_put 47 = .ok (.iconst 0, 1) := by decide +kernel
theorem dX3_put_48 : decode cX3_put 48 = .ok (.ireturn, 1) := by decide +kernel
theorem dX3_put_49 : decode cX3_put 49 = .ok (.aload_n 0, 1) := by decide +kernel
theorem dX3_put_50 : decode cX3_put 50 = .ok (.getfield 10, 3) := by decide +kernel
theorem dX3_put_53 : decode cX3_put 53 = .ok (.getfield 46, 3) := by decide +kernel
theorem dX3_put_56 : decode cX3_put 56 = .ok (.iload_n 1, 1) := by decide +kernel
theorem dX3_put_57 : decode cX3_put 57 = .ok (.iload_n 2, 1) := by decide +kernel
theorem dX3_put_58 : decode cX3_put 58 = .ok (.iastore, 1) := by decide +kernel
theorem dX3_put_59 : decode cX3_put 59 = .ok (.aload_n 0, 1) := by decide +kernel
theorem dX3_put_60 : decode cX3_put 60 = .ok (.getfield 10, 3) := by decide +kernel
theorem dX3_put_63 : decode cX3_put 63 = .ok (.getfield 49, 3) := by decide +kernel
theorem dX3_put_66 : decode cX3_put 66 = .ok (.iload_n 1, 1) := by decide +kernel
theorem dX3_put_67 : decode cX3_put 67 = .ok (.iload_n 3, 1) := by decide +kernel
theorem dX3_put_68 : decode cX3_put 68 = .ok (.iastore, 1) := by decide +kernel
theorem dX3_put_69 : decode cX3_put 69 = .ok (.aload_n 0, 1) := by decide +kernel
theorem dX3_put_70 : decode cX3_put 70 = .ok (.getfield 10, 3) := by decide +kernel
theorem dX3_put_73 : decode cX3_put 73 = .ok (.getfield 52, 3) := by decide +kernel
theorem dX3_put_76 : decode cX3_put 76 = .ok (.iload_n 1, 1) := by decide +kernel
theorem dX3_put_77 : decode cX3_put 77 = .ok (.iload 4, 2) := by decide +kernel
theorem dX3_put_79 : decode cX3_put 79 = .ok (.iastore, 1) := by decide +kernel
theorem dX3_put_80 : decode cX3_put 80 = .ok (.aload_n 0, 1) := by decide +kernel
theorem dX3_put_81 : decode cX3_put 81 = .ok (.getfield 10, 3) := by decide +kernel
theorem dX3_put_84 : decode cX3_put 84 = .ok (.getfield 55, 3) := by decide +kernel
theorem dX3_put_87 : decode cX3_put 87 = .ok (.iload_n 1, 1) := by decide +kernel
theorem dX3_put_88 : decode cX3_put 88 = .ok (.iload 5, 2) := by decide +kernel
theorem dX3_put_90 : decode cX3_put 90 = .ok (.iastore, 1) := by decide +kernel
theorem dX3_put_91 : decode cX3_put 91 = .ok (.iconst 1, 1) := by decide +kernel
theorem dX3_put_92 : decode cX3_put 92 = .ok (.ireturn, 1) := by decide +kernel
theorem dX3_units_0 : decode cX3_units 0 = .ok (.aload_n 0, 1) := by decide +kernel
theorem dX3_units_1 : decode cX3_units 1 = .ok (.invokevirtual 34, 3) := by decide +kernel
theorem dX3_units_4 : decode cX3_units 4 = .ok (.ifCond .ne 21, 3) := by decide +kernel
theorem dX3_units_7 : decode cX3_units 7 = .ok (.iload_n 1, 1) := by decide +kernel
theorem dX3_units_8 : decode cX3_units 8 = .ok (.iconst 4, 1) := by decide +kernel
theorem dX3_units_9 : decode cX3_units 9 = .ok (.invokestatic 38, 3) := by decide +kernel
theorem dX3_units_12 : decode cX3_units 12 = .ok (.ifCond .eq 13, 3) := by decide +kernel
theorem dX3_units_15 : decode cX3_units 15 = .ok (.iload_n 2, 1) := by decide +kernel
theorem dX3_units_16 : decode cX3_units 16 = .ok (.iconst 1, 1) := by decide +kernel
theorem dX3_units_17 : decode cX3_units 17 = .ok (.if_icmp .lt 8, 3) := by decide +kernel
theorem dX3_units_20 : decode cX3_units 20 = .ok (.iload_n 2, 1) := by decide +kernel
theorem dX3_units_21 : decode cX3_units 21 = .ok (.iconst 3, 1) := by decide +kernel
theorem dX3_units_22 : decode cX3_units 22 = .ok (.if_icmp .le 5, 3) := by decide +kernel
theorem dX3_units_25 : decode cX3_units 25 = .ok (.iconst 0, 1) := by decide +kernel
theorem dX3_units_26 : decode cX3_units 26 = .ok (.ireturn, 1) := by decide +kernel
theorem dX3_units_27 : decode cX3_units 27 = .ok (.aload_n 0, 1) := by decide +kernel
theorem dX3_units_28 : decode cX3_units 28 = .ok (.getfield 10, 3) := by decide +kernel
theorem dX3_units_31 : decode cX3_units 31 = .ok (.getfield 58, 3) := by decide +kernel
theorem dX3_units_34 : decode cX3_units 34 = .ok (.iload_n 1, 1) := by decide +kernel
theorem dX3_units_35 : decode cX3_units 35 = .ok (.iload_n 2, 1) := by decide +kernel
theorem dX3_units_36 : decode cX3_units 36 = .ok (.iastore, 1) := by decide +kernel
theorem dX3_units_37 : decode cX3_units 37 = .ok (.iconst 1, 1) := by decide +kernel
theorem dX3_units_38 : decode cX3_units 38 = .ok (.ireturn, 1) := by decide +kernel
theorem dX3_latency_0 : decode cX3_latency 0 = .ok (.aload_n 0, 1) := by decide +kernel
theorem dX3_latency_1 : decode cX3_latency 1 = .ok (.invokevirtual 34, 3) := by decide +kernel
theorem dX3_latency_4 : decode cX3_latency 4 = .ok (.ifCond .ne 23, 3) := by decide +kernel
theorem dX3_latency_7 : decode cX3_latency 7 = .ok (.iload_n 1, 1) := by decide +kernel
theorem dX3_latency_8 : decode cX3_latency 8 = .ok (.bipush 6, 2) := by decide +kernel
theorem dX3_latency_10 : decode cX3_latency 10 = .ok (.invokestatic 38, 3) := by decide +kernel
theorem dX3_latency_13 : decode cX3_latency 13 = .ok (.ifCond .eq 14, 3) := by decide +kernel
theorem dX3_latency_16 : decode cX3_latency 16 = .ok (.iload_n 2, 1) := by decide +kernel
theorem dX3_latency_17 : decode cX3_latency 17 = .ok (.iconst 1, 1) := by decide +kernel
theorem dX3_latency_18 : decode cX3_latency 18 = .ok (.if_icmp .lt 9, 3) := by decide +kernel
theorem dX3_latency_21 : decode cX3_latency 21 = .ok (.iload_n 2, 1) := by decide +kernel
theorem dX3_latency_22 : decode cX3_latency 22 = .ok (.bipush 30, 2) := by decide +kernel
theorem dX3_latency_24 : decode cX3_latency 24 = .ok (.if_icmp .le 5, 3) := by decide +kernel
theorem dX3_latency_27 : decode cX3_latency 27 = .ok (.iconst 0, 1) := by decide +kernel
theorem dX3_latency_28 : decode cX3_latency 28 = .ok (.ireturn, 1) := by decide +kernel
theorem dX3_latency_29 : decode cX3_latency 29 = .ok (.aload_n 0, 1) := by decide +kernel
theorem dX3_latency_30 : decode cX3_latency 30 = .ok (.getfield 10, 3) := by decide +kernel
theorem dX3_latency_33 : decode cX3_latency 33 = .ok (.getfield 61, 3) := by decide +kernel
theorem dX3_latency_36 : decode cX3_latency 36 = .ok (.iload_n 1, 1) := by decide +kernel
theorem dX3_latency_37 : decode cX3_latency 37 = .ok (.iload_n 2, 1) := by decide +kernel
theorem dX3_latency_38 : decode cX3_latency 38 = .ok (.iastore, 1) := by decide +kernel
theorem dX3_latency_39 : decode cX3_latency 39 = .ok (.iconst 1, 1) := by decide +kernel
theorem dX3_latency_40 : decode cX3_latency 40 = .ok (.ireturn, 1) := by decide +kernel
theorem dX3_width_0 : decode cX3_width 0 = .ok (.aload_n 0, 1) := by decide +kernel
theorem dX3_width_1 : decode cX3_width 1 = .ok (.invokevirtual 34, 3) := by decide +kernel
theorem dX3_width_4 : decode cX3_width 4 = .ok (.ifCond .ne 13, 3) := by decide +kernel
theorem dX3_width_7 : decode cX3_width 7 = .ok (.iload_n 1, 1) := by decide +kernel
theorem dX3_width_8 : decode cX3_width 8 = .ok (.iconst 1, 1) := by decide +kernel
theorem dX3_width_9 : decode cX3_width 9 = .ok (.if_icmp .lt 8, 3) := by decide +kernel
theorem dX3_width_12 : decode cX3_width 12 = .ok (.iload_n 1, 1) := by decide +kernel
theorem dX3_width_13 : decode cX3_width 13 = .ok (.iconst 4, 1) := by decide +kernel
theorem dX3_width_14 : decode cX3_width 14 = .ok (.if_icmp .le 5, 3) := by decide +kernel
theorem dX3_width_17 : decode cX3_width 17 = .ok (.iconst 0, 1) := by decide +kernel
theorem dX3_width_18 : decode cX3_width 18 = .ok (.ireturn, 1) := by decide +kernel
theorem dX3_width_19 : decode cX3_width 19 = .ok (.aload_n 0, 1) := by decide +kernel
theorem dX3_width_20 : decode cX3_width 20 = .ok (.getfield 10, 3) := by decide +kernel
theorem dX3_width_23 : decode cX3_width 23 = .ok (.iload_n 1, 1) := by decide +kernel
theorem dX3_width_24 : decode cX3_width 24 = .ok (.putfield 64, 3) := by decide +kernel
theorem dX3_width_27 : decode cX3_width 27 = .ok (.iconst 1, 1) := by decide +kernel
theorem dX3_width_28 : decode cX3_width 28 = .ok (.ireturn, 1) := by decide +kernel
theorem dX3_set_0 : decode cX3_set 0 = .ok (.aload_n 0, 1) := by decide +kernel
theorem dX3_set_1 : decode cX3_set 1 = .ok (.invokevirtual 34, 3) := by decide +kernel
theorem dX3_set_4 : decode cX3_set 4 = .ok (.ifCond .ne 11, 3) := by decide +kernel
theorem dX3_set_7 : decode cX3_set 7 = .ok (.iload_n 1, 1) := by decide +kernel
theorem dX3_set_8 : decode cX3_set 8 = .ok (.iload_n 2, 1) := by decide +kernel
theorem dX3_set_9 : decode cX3_set 9 = .ok (.invokestatic 68, 3) := by decide +kernel
theorem dX3_set_12 : decode cX3_set 12 = .ok (.ifCond .ne 5, 3) := by decide +kernel
theorem dX3_set_15 : decode cX3_set 15 = .ok (.iconst 0, 1) := by decide +kernel
theorem dX3_set_16 : decode cX3_set 16 = .ok (.ireturn, 1) := by decide +kernel
theorem dX3_set_17 : decode cX3_set 17 = .ok (.iload_n 1, 1) := by decide +kernel
theorem dX3_set_18 : decode cX3_set 18 = .ok (.ifCond .ne 26, 3) := by decide +kernel
theorem dX3_set_21 : decode cX3_set 21 = .ok (.aload_n 0, 1) := by decide +kernel
theorem dX3_set_22 : decode cX3_set 22 = .ok (.getfield 10, 3) := by decide +kernel
theorem dX3_set_25 : decode cX3_set 25 = .ok (.getfield 71, 3) := by decide +kernel
theorem dX3_set_28 : decode cX3_set 28 = .ok (.iload_n 2, 1) := by decide +kernel
theorem dX3_set_29 : decode cX3_set 29 = .ok (.lload_n 3, 1) := by decide +kernel
theorem dX3_set_30 : decode cX3_set 30 = .ok (.lastore, 1) := by decide +kernel
theorem dX3_set_31 : decode cX3_set 31 = .ok (.aload_n 0, 1) := by decide +kernel
theorem dX3_set_32 : decode cX3_set 32 = .ok (.getfield 21, 3) := by decide +kernel
theorem dX3_set_35 : decode cX3_set 35 = .ok (.getfield 75, 3) := by decide +kernel
theorem dX3_set_38 : decode cX3_set 38 = .ok (.iload_n 2, 1) := by decide +kernel
theorem dX3_set_39 : decode cX3_set 39 = .ok (.lload_n 3, 1) := by decide +kernel
theorem dX3_set_40 : decode cX3_set 40 = .ok (.lastore, 1) := by decide +kernel
theorem dX3_set_41 : decode cX3_set 41 = .ok (.goto 23, 3) := by decide +kernel
theorem dX3_set_44 : decode cX3_set 44 = .ok (.aload_n 0, 1) := by decide +kernel
theorem dX3_set_45 : decode cX3_set 45 = .ok (.getfield 10, 3) := by decide +kernel
theorem dX3_set_48 : decode cX3_set 48 = .ok (.getfield 76, 3) := by decide +kernel
theorem dX3_set_51 : decode cX3_set 51 = .ok (.iload_n 2, 1) := by decide +kernel
theorem dX3_set_52 : decode cX3_set 52 = .ok (.lload_n 3, 1) := by decide +kernel
theorem dX3_set_53 : decode cX3_set 53 = .ok (.lastore, 1) := by decide +kernel
theorem dX3_set_54 : decode cX3_set 54 = .ok (.aload_n 0, 1) := by decide +kernel
theorem dX3_set_55 : decode cX3_set 55 = .ok (.getfield 21, 3) := by decide +kernel
theorem dX3_set_58 : decode cX3_set 58 = .ok (.getfield 79, 3) := by decide +kernel
theorem dX3_set_61 : decode cX3_set 61 = .ok (.iload_n 2, 1) := by decide +kernel
theorem dX3_set_62 : decode cX3_set 62 = .ok (.lload_n 3, 1) := by decide +kernel
theorem dX3_set_63 : decode cX3_set 63 = .ok (.lastore, 1) := by decide +kernel
theorem dX3_set_64 : decode cX3_set 64 = .ok (.iconst 1, 1) := by decide +kernel
theorem dX3_set_65 : decode cX3_set 65 = .ok (.ireturn, 1) := by decide +kernel
theorem dX3_run_0 : decode cX3_run 0 = .ok (.iload_n 1, 1) := by decide +kernel
theorem dX3_run_1 : decode cX3_run 1 = .ok (.ifCond .lt 10, 3) := by decide +kernel
theorem dX3_run_4 : decode cX3_run 4 = .ok (.iload_n 1, 1) := by decide +kernel
theorem dX3_run_5 : decode cX3_run 5 = .ok (.sipush 3000, 3) := by decide +kernel
theorem dX3_run_8 : decode cX3_run 8 = .ok (.if_icmp .le 5, 3) := by decide +kernel
theorem dX3_run_11 : decode cX3_run 11 = .ok (.iconst (-1), 1) := by decide +kernel
theorem dX3_run_12 : decode cX3_run 12 = .ok (.ireturn, 1) := by decide +kernel
theorem dX3_run_13 : decode cX3_run 13 = .ok (.iconst 0, 1) := by decide +kernel
theorem dX3_run_14 : decode cX3_run 14 = .ok (.istore_n 2, 1) := by decide +kernel
theorem dX3_run_15 : decode cX3_run 15 = .ok (.iload_n 2, 1) := by decide +kernel
theorem dX3_run_16 : decode cX3_run 16 = .ok (.iload_n 1, 1) := by decide +kernel
theorem dX3_run_17 : decode cX3_run 17 = .ok (.if_icmp .ge 26, 3) := by decide +kernel
theorem dX3_run_20 : decode cX3_run 20 = .ok (.aload_n 0, 1) := by decide +kernel
theorem dX3_run_21 : decode cX3_run 21 = .ok (.getfield 30, 3) := by decide +kernel
theorem dX3_run_24 : decode cX3_run 24 = .ok (.getfield 80, 3) := by decide +kernel
theorem dX3_run_27 : decode cX3_run 27 = .ok (.ifCond .ne 16, 3) := by decide +kernel
theorem dX3_run_30 : decode cX3_run 30 = .ok (.aload_n 0, 1) := by decide +kernel
theorem dX3_run_31 : decode cX3_run 31 = .ok (.getfield 30, 3) := by decide +kernel
theorem dX3_run_34 : decode cX3_run 34 = .ok (.invokevirtual 84, 3) := by decide +kernel
theorem dX3_run_37 : decode cX3_run 37 = .ok (.iinc 2 1, 3) := by decide +kernel
theorem dX3_run_40 : decode cX3_run 40 = .ok (.goto (-25), 3) := by decide +kernel
theorem dX3_run_43 : decode cX3_run 43 = .ok (.iload_n 2, 1) := by decide +kernel
theorem dX3_run_44 : decode cX3_run 44 = .ok (.ireturn, 1) := by decide +kernel
theorem dX3_again_0 : decode cX3_again 0 = .ok (.aload_n 0, 1) := by decide +kernel
theorem dX3_again_1 : decode cX3_again 1 = .ok (.getfield 21, 3) := by decide +kernel
theorem dX3_again_4 : decode cX3_again 4 = .ok (.invokevirtual 87, 3) := by decide +kernel
theorem dX3_again_7 : decode cX3_again 7 = .ok (.aload_n 0, 1) := by decide +kernel
theorem dX3_again_8 : decode cX3_again 8 = .ok (.getfield 30, 3) := by decide +kernel
theorem dX3_again_11 : decode cX3_again 11 = .ok (.invokevirtual 90, 3) := by decide +kernel
theorem dX3_again_14 : decode cX3_again 14 = .ok (.return_, 1) := by decide +kernel
theorem dX3_clear_0 : decode cX3_clear 0 = .ok (.aload_n 0, 1) := by decide +kernel
theorem dX3_clear_1 : decode cX3_clear 1 = .ok (.getfield 10, 3) := by decide +kernel
theorem dX3_clear_4 : decode cX3_clear 4 = .ok (.invokevirtual 91, 3) := by decide +kernel
theorem dX3_clear_7 : decode cX3_clear 7 = .ok (.aload_n 0, 1) := by decide +kernel
theorem dX3_clear_8 : decode cX3_clear 8 = .ok (.getfield 21, 3) := by decide +kernel
theorem dX3_clear_11 : decode cX3_clear 11 = .ok (.invokevirtual 87, 3) := by decide +kernel
theorem dX3_clear_14 : decode cX3_clear 14 = .ok (.aload_n 0, 1) := by decide +kernel
theorem dX3_clear_15 : decode cX3_clear 15 = .ok (.getfield 30, 3) := by decide +kernel
theorem dX3_clear_18 : decode cX3_clear 18 = .ok (.invokevirtual 90, 3) := by decide +kernel
theorem dX3_clear_21 : decode cX3_clear 21 = .ok (.return_, 1) := by decide +kernel
theorem dX3_count_0 : decode cX3_count 0 = .ok (.iload_n 1, 1) := by decide +kernel
theorem dX3_count_1 : decode cX3_count 1 = .ok (.tableswitch 166 0 8 #[51, 59, 75, 83, 91, 101, 111, 121, 150], 51) := by decide +kernel
theorem dX3_count_52 : decode cX3_count 52 = .ok (.aload_n 0, 1) := by decide +kernel
theorem dX3_count_53 : decode cX3_count 53 = .ok (.getfield 30, 3) := by decide +kernel
theorem dX3_count_56 : decode cX3_count 56 = .ok (.getfield 92, 3) := by decide +kernel
theorem dX3_count_59 : decode cX3_count 59 = .ok (.ireturn, 1) := by decide +kernel
theorem dX3_count_60 : decode cX3_count 60 = .ok (.aload_n 0, 1) := by decide +kernel
theorem dX3_count_61 : decode cX3_count 61 = .ok (.getfield 30, 3) := by decide +kernel
theorem dX3_count_64 : decode cX3_count 64 = .ok (.getfield 80, 3) := by decide +kernel
theorem dX3_count_67 : decode cX3_count 67 = .ok (.ifCond .eq 7, 3) := by decide +kernel
theorem dX3_count_70 : decode cX3_count 70 = .ok (.iconst 1, 1) := by decide +kernel
theorem dX3_count_71 : decode cX3_count 71 = .ok (.goto 4, 3) := by decide +kernel
theorem dX3_count_74 : decode cX3_count 74 = .ok (.iconst 0, 1) := by decide +kernel
theorem dX3_count_75 : decode cX3_count 75 = .ok (.ireturn, 1) := by decide +kernel
theorem dX3_count_76 : decode cX3_count 76 = .ok (.aload_n 0, 1) := by decide +kernel
theorem dX3_count_77 : decode cX3_count 77 = .ok (.getfield 30, 3) := by decide +kernel
theorem dX3_count_80 : decode cX3_count 80 = .ok (.getfield 95, 3) := by decide +kernel
theorem dX3_count_83 : decode cX3_count 83 = .ok (.ireturn, 1) := by decide +kernel
theorem dX3_count_84 : decode cX3_count 84 = .ok (.aload_n 0, 1) := by decide +kernel
theorem dX3_count_85 : decode cX3_count 85 = .ok (.getfield 30, 3) := by decide +kernel
theorem dX3_count_88 : decode cX3_count 88 = .ok (.invokevirtual 98, 3) := by decide +kernel
theorem dX3_count_91 : decode cX3_count 91 = .ok (.ireturn, 1) := by decide +kernel
theorem dX3_count_92 : decode cX3_count 92 = .ok (.aload_n 0, 1) := by decide +kernel
theorem dX3_count_93 : decode cX3_count 93 = .ok (.getfield 30, 3) := by decide +kernel
theorem dX3_count_96 : decode cX3_count 96 = .ok (.getfield 102, 3) := by decide +kernel
theorem dX3_count_99 : decode cX3_count 99 = .ok (.iconst 1, 1) := by decide +kernel
theorem dX3_count_100 : decode cX3_count 100 = .ok (.iaload, 1) := by decide +kernel
theorem dX3_count_101 : decode cX3_count 101 = .ok (.ireturn, 1) := by decide +kernel
theorem dX3_count_102 : decode cX3_count 102 = .ok (.aload_n 0, 1) := by decide +kernel
theorem dX3_count_103 : decode cX3_count 103 = .ok (.getfield 30, 3) := by decide +kernel
theorem dX3_count_106 : decode cX3_count 106 = .ok (.getfield 102, 3) := by decide +kernel
theorem dX3_count_109 : decode cX3_count 109 = .ok (.iconst 2, 1) := by decide +kernel
theorem dX3_count_110 : decode cX3_count 110 = .ok (.iaload, 1) := by decide +kernel
theorem dX3_count_111 : decode cX3_count 111 = .ok (.ireturn, 1) := by decide +kernel
theorem dX3_count_112 : decode cX3_count 112 = .ok (.aload_n 0, 1) := by decide +kernel
theorem dX3_count_113 : decode cX3_count 113 = .ok (.getfield 30, 3) := by decide +kernel
theorem dX3_count_116 : decode cX3_count 116 = .ok (.getfield 102, 3) := by decide +kernel
theorem dX3_count_119 : decode cX3_count 119 = .ok (.iconst 3, 1) := by decide +kernel
theorem dX3_count_120 : decode cX3_count 120 = .ok (.iaload, 1) := by decide +kernel
theorem dX3_count_121 : decode cX3_count 121 = .ok (.ireturn, 1) := by decide +kernel
theorem dX3_count_122 : decode cX3_count 122 = .ok (.aload_n 0, 1) := by decide +kernel
theorem dX3_count_123 : decode cX3_count 123 = .ok (.getfield 30, 3) := by decide +kernel
theorem dX3_count_126 : decode cX3_count 126 = .ok (.getfield 105, 3) := by decide +kernel
theorem dX3_count_129 : decode cX3_count 129 = .ok (.aload_n 0, 1) := by decide +kernel
theorem dX3_count_130 : decode cX3_count 130 = .ok (.getfield 30, 3) := by decide +kernel
theorem dX3_count_133 : decode cX3_count 133 = .ok (.getfield 92, 3) := by decide +kernel
theorem dX3_count_136 : decode cX3_count 136 = .ok (.if_icmp .le 7, 3) := by decide +kernel
theorem dX3_count_139 : decode cX3_count 139 = .ok (.iconst (-1), 1) := by decide +kernel
theorem dX3_count_140 : decode cX3_count 140 = .ok (.goto 10, 3) := by decide +kernel
theorem dX3_count_143 : decode cX3_count 143 = .ok (.aload_n 0, 1) := by decide +kernel
theorem dX3_count_144 : decode cX3_count 144 = .ok (.getfield 21, 3) := by decide +kernel
theorem dX3_count_147 : decode cX3_count 147 = .ok (.getfield 108, 3) := by decide +kernel
theorem dX3_count_150 : decode cX3_count 150 = .ok (.ireturn, 1) := by decide +kernel
theorem dX3_count_151 : decode cX3_count 151 = .ok (.aload_n 0, 1) := by decide +kernel
theorem dX3_count_152 : decode cX3_count 152 = .ok (.getfield 30, 3) := by decide +kernel
theorem dX3_count_155 : decode cX3_count 155 = .ok (.getfield 95, 3) := by decide +kernel
theorem dX3_count_158 : decode cX3_count 158 = .ok (.aload_n 0, 1) := by decide +kernel
theorem dX3_count_159 : decode cX3_count 159 = .ok (.getfield 30, 3) := by decide +kernel
theorem dX3_count_162 : decode cX3_count 162 = .ok (.invokevirtual 98, 3) := by decide +kernel
theorem dX3_count_165 : decode cX3_count 165 = .ok (.isub, 1) := by decide +kernel
theorem dX3_count_166 : decode cX3_count 166 = .ok (.ireturn, 1) := by decide +kernel
theorem dX3_count_167 : decode cX3_count 167 = .ok (.iconst (-1), 1) := by decide +kernel
theorem dX3_count_168 : decode cX3_count 168 = .ok (.ireturn, 1) := by decide +kernel
theorem dX3_register_0 : decode cX3_register 0 = .ok (.iload_n 1, 1) := by decide +kernel
theorem dX3_register_1 : decode cX3_register 1 = .ok (.bipush 16, 2) := by decide +kernel
theorem dX3_register_3 : decode cX3_register 3 = .ok (.invokestatic 38, 3) := by decide +kernel
theorem dX3_register_6 : decode cX3_register 6 = .ok (.ifCond .ne 13, 3) := by decide +kernel
theorem dX3_register_9 : decode cX3_register 9 = .ok (.new 111, 3) := by decide +kernel
theorem dX3_register_12 : decode cX3_register 12 = .ok (.dup, 1) := by decide +kernel
theorem dX3_register_13 : decode cX3_register 13 = .ok (.ldc 113, 2) := by decide +kernel
theorem dX3_register_15 : decode cX3_register 15 = .ok (.invokespecial 115, 3) := by decide +kernel
theorem dX3_register_18 : decode cX3_register 18 = .ok (.athrow, 1) := by decide +kernel
theorem dX3_register_19 : decode cX3_register 19 = .ok (.aload_n 0, 1) := by decide +kernel
theorem dX3_register_20 : decode cX3_register 20 = .ok (.getfield 30, 3) := by decide +kernel
theorem dX3_register_23 : decode cX3_register 23 = .ok (.iload_n 1, 1) := by decide +kernel
theorem dX3_register_24 : decode cX3_register 24 = .ok (.invokevirtual 118, 3) := by decide +kernel
theorem dX3_register_27 : decode cX3_register 27 = .ok (.lreturn, 1) := by decide +kernel
theorem dX3_memory_0 : decode cX3_memory 0 = .ok (.iload_n 1, 1) := by decide +kernel
theorem dX3_memory_1 : decode cX3_memory 1 = .ok (.sipush 256, 3) := by decide +kernel
theorem dX3_memory_4 : decode cX3_memory 4 = .ok (.invokestatic 38, 3) := by decide +kernel
theorem dX3_memory_7 : decode cX3_memory 7 = .ok (.ifCond .ne 13, 3) := by decide +kernel
theorem dX3_memory_10 : decode cX3_memory 10 = .ok (.new 111, 3) := by decide +kernel
theorem dX3_memory_13 : decode cX3_memory 13 = .ok (.dup, 1) := by decide +kernel
theorem dX3_memory_14 : decode cX3_memory 14 = .ok (.ldc 122, 2) := by decide +kernel
theorem dX3_memory_16 : decode cX3_memory 16 = .ok (.invokespecial 115, 3) := by decide +kernel
theorem dX3_memory_19 : decode cX3_memory 19 = .ok (.athrow, 1) := by decide +kernel
theorem dX3_memory_20 : decode cX3_memory 20 = .ok (.aload_n 0, 1) := by decide +kernel
theorem dX3_memory_21 : decode cX3_memory 21 = .ok (.getfield 30, 3) := by decide +kernel
theorem dX3_memory_24 : decode cX3_memory 24 = .ok (.iload_n 1, 1) := by decide +kernel
theorem dX3_memory_25 : decode cX3_memory 25 = .ok (.invokevirtual 124, 3) := by decide +kernel
theorem dX3_memory_28 : decode cX3_memory 28 = .ok (.lreturn, 1) := by decide +kernel
theorem dX3_plain_0 : decode cX3_plain 0 = .ok (.iload_n 1, 1) := by decide +kernel
theorem dX3_plain_1 : decode cX3_plain 1 = .ok (.iload_n 2, 1) := by decide +kernel
theorem dX3_plain_2 : decode cX3_plain 2 = .ok (.invokestatic 68, 3) := by decide +kernel
theorem dX3_plain_5 : decode cX3_plain 5 = .ok (.ifCond .ne 13, 3) := by decide +kernel
theorem dX3_plain_8 : decode cX3_plain 8 = .ok (.new 111, 3) := by decide +kernel
theorem dX3_plain_11 : decode cX3_plain 11 = .ok (.dup, 1) := by decide +kernel
theorem dX3_plain_12 : decode cX3_plain 12 = .ok (.ldc 127, 2) := by decide +kernel
theorem dX3_plain_14 : decode cX3_plain 14 = .ok (.invokespecial 115, 3) := by decide +kernel
theorem dX3_plain_17 : decode cX3_plain 17 = .ok (.athrow, 1) := by decide +kernel
theorem dX3_plain_18 : decode cX3_plain 18 = .ok (.iload_n 1, 1) := by decide +kernel
theorem dX3_plain_19 : decode cX3_plain 19 = .ok (.ifCond .ne 15, 3) := by decide +kernel
theorem dX3_plain_22 : decode cX3_plain 22 = .ok (.aload_n 0, 1) := by decide +kernel
theorem dX3_plain_23 : decode cX3_plain 23 = .ok (.getfield 21, 3) := by decide +kernel
theorem dX3_plain_26 : decode cX3_plain 26 = .ok (.getfield 75, 3) := by decide +kernel
theorem dX3_plain_29 : decode cX3_plain 29 = .ok (.iload_n 2, 1) := by decide +kernel
theorem dX3_plain_30 : decode cX3_plain 30 = .ok (.laload, 1) := by decide +kernel
theorem dX3_plain_31 : decode cX3_plain 31 = .ok (.goto 12, 3) := by decide +kernel
theorem dX3_plain_34 : decode cX3_plain 34 = .ok (.aload_n 0, 1) := by decide +kernel
theorem dX3_plain_35 : decode cX3_plain 35 = .ok (.getfield 21, 3) := by decide +kernel
theorem dX3_plain_38 : decode cX3_plain 38 = .ok (.getfield 79, 3) := by decide +kernel
theorem dX3_plain_41 : decode cX3_plain 41 = .ok (.iload_n 2, 1) := by decide +kernel
theorem dX3_plain_42 : decode cX3_plain 42 = .ok (.laload, 1) := by decide +kernel
theorem dX3_plain_43 : decode cX3_plain 43 = .ok (.lreturn, 1) := by decide +kernel
theorem dX3_unit_0 : decode cX3_unit 0 = .ok (.iload_n 1, 1) := by decide +kernel
theorem dX3_unit_1 : decode cX3_unit 1 = .ok (.bipush 6, 2) := by decide +kernel
theorem dX3_unit_3 : decode cX3_unit 3 = .ok (.invokestatic 38, 3) := by decide +kernel
theorem dX3_unit_6 : decode cX3_unit 6 = .ok (.ifCond .eq 19, 3) := by decide +kernel
theorem dX3_unit_9 : decode cX3_unit 9 = .ok (.iload_n 2, 1) := by decide +kernel
theorem dX3_unit_10 : decode cX3_unit 10 = .ok (.aload_n 0, 1) := by decide +kernel
theorem dX3_unit_11 : decode cX3_unit 11 = .ok (.getfield 10, 3) := by decide +kernel
theorem dX3_unit_14 : decode cX3_unit 14 = .ok (.getfield 58, 3) := by decide +kernel
theorem dX3_unit_17 : decode cX3_unit 17 = .ok (.iload_n 1, 1) := by decide +kernel
theorem dX3_unit_18 : decode cX3_unit 18 = .ok (.iaload, 1) := by decide +kernel
theorem dX3_unit_19 : decode cX3_unit 19 = .ok (.invokestatic 38, 3) := by decide +kernel
theorem dX3_unit_22 : decode cX3_unit 22 = .ok (.ifCond .ne 5, 3) := by decide +kernel
theorem dX3_unit_25 : decode cX3_unit 25 = .ok (.iconst (-1), 1) := by decide +kernel
theorem dX3_unit_26 : decode cX3_unit 26 = .ok (.ireturn, 1) := by decide +kernel
theorem dX3_unit_27 : decode cX3_unit 27 = .ok (.aload_n 0, 1) := by decide +kernel
theorem dX3_unit_28 : decode cX3_unit 28 = .ok (.getfield 30, 3) := by decide +kernel
theorem dX3_unit_31 : decode cX3_unit 31 = .ok (.iload_n 1, 1) := by decide +kernel
theorem dX3_unit_32 : decode cX3_unit 32 = .ok (.iload_n 2, 1) := by decide +kernel
theorem dX3_unit_33 : decode cX3_unit 33 = .ok (.invokestatic 129, 3) := by decide +kernel
theorem dX3_unit_36 : decode cX3_unit 36 = .ok (.iload_n 3, 1) := by decide +kernel
theorem dX3_unit_37 : decode cX3_unit 37 = .ok (.invokevirtual 133, 3) := by decide +kernel
theorem dX3_unit_40 : decode cX3_unit 40 = .ok (.ireturn, 1) := by decide +kernel
theorem dX3_pending_0 : decode cX3_pending 0 = .ok (.iload_n 1, 1) := by decide +kernel
theorem dX3_pending_1 : decode cX3_pending 1 = .ok (.bipush 16, 2) := by decide +kernel
theorem dX3_pending_3 : decode cX3_pending 3 = .ok (.invokestatic 38, 3) := by decide +kernel
theorem dX3_pending_6 : decode cX3_pending 6 = .ok (.ifCond .ne 5, 3) := by decide +kernel
theorem dX3_pending_9 : decode cX3_pending 9 = .ok (.iconst (-1), 1) := by decide +kernel
theorem dX3_pending_10 : decode cX3_pending 10 = .ok (.ireturn, 1) := by decide +kernel
theorem dX3_pending_11 : decode cX3_pending 11 = .ok (.aload_n 0, 1) := by decide +kernel
theorem dX3_pending_12 : decode cX3_pending 12 = .ok (.getfield 30, 3) := by decide +kernel
theorem dX3_pending_15 : decode cX3_pending 15 = .ok (.getfield 136, 3) := by decide +kernel
theorem dX3_pending_18 : decode cX3_pending 18 = .ok (.iload_n 1, 1) := by decide +kernel
theorem dX3_pending_19 : decode cX3_pending 19 = .ok (.iaload, 1) := by decide +kernel
theorem dX3_pending_20 : decode cX3_pending 20 = .ok (.aload_n 0, 1) := by decide +kernel
theorem dX3_pending_21 : decode cX3_pending 21 = .ok (.getfield 30, 3) := by decide +kernel
theorem dX3_pending_24 : decode cX3_pending 24 = .ok (.getfield 92, 3) := by decide +kernel
theorem dX3_pending_27 : decode cX3_pending 27 = .ok (.if_icmp .le 15, 3) := by decide +kernel
theorem dX3_pending_30 : decode cX3_pending 30 = .ok (.aload_n 0, 1) := by decide +kernel
theorem dX3_pending_31 : decode cX3_pending 31 = .ok (.getfield 30, 3) := by decide +kernel
theorem dX3_pending_34 : decode cX3_pending 34 = .ok (.getfield 139, 3) := by decide +kernel
theorem dX3_pending_37 : decode cX3_pending 37 = .ok (.iload_n 1, 1) := by decide +kernel
theorem dX3_pending_38 : decode cX3_pending 38 = .ok (.iaload, 1) := by decide +kernel
theorem dX3_pending_39 : decode cX3_pending 39 = .ok (.goto 4, 3) := by decide +kernel
theorem dX3_pending_42 : decode cX3_pending 42 = .ok (.iconst (-1), 1) := by decide +kernel
theorem dX3_pending_43 : decode cX3_pending 43 = .ok (.ireturn, 1) := by decide +kernel
theorem dX3_latest_0 : decode cX3_latest 0 = .ok (.iload_n 1, 1) := by decide +kernel
theorem dX3_latest_1 : decode cX3_latest 1 = .ok (.bipush 64, 2) := by decide +kernel
theorem dX3_latest_3 : decode cX3_latest 3 = .ok (.invokestatic 38, 3) := by decide +kernel
theorem dX3_latest_6 : decode cX3_latest 6 = .ok (.ifCond .eq 23, 3) := by decide +kernel
theorem dX3_latest_9 : decode cX3_latest 9 = .ok (.iload_n 1, 1) := by decide +kernel
theorem dX3_latest_10 : decode cX3_latest 10 = .ok (.aload_n 0, 1) := by decide +kernel
theorem dX3_latest_11 : decode cX3_latest 11 = .ok (.getfield 30, 3) := by decide +kernel
theorem dX3_latest_14 : decode cX3_latest 14 = .ok (.getfield 95, 3) := by decide +kernel
theorem dX3_latest_17 : decode cX3_latest 17 = .ok (.if_icmp .ge 12, 3) := by decide +kernel
theorem dX3_latest_20 : decode cX3_latest 20 = .ok (.iload_n 2, 1) := by decide +kernel
theorem dX3_latest_21 : decode cX3_latest 21 = .ok (.bipush 6, 2) := by decide +kernel
theorem dX3_latest_23 : decode cX3_latest 23 = .ok (.invokestatic 38, 3) := by decide +kernel
theorem dX3_latest_26 : decode cX3_latest 26 = .ok (.ifCond .ne 5, 3) := by decide +kernel
theorem dX3_latest_29 : decode cX3_latest 29 = .ok (.iconst (-1), 1) := by decide +kernel
theorem dX3_latest_30 : decode cX3_latest 30 = .ok (.ireturn, 1) := by decide +kernel
theorem dX3_latest_31 : decode cX3_latest 31 = .ok (.aload_n 0, 1) := by decide +kernel
theorem dX3_latest_32 : decode cX3_latest 32 = .ok (.getfield 30, 3) := by decide +kernel
theorem dX3_latest_35 : decode cX3_latest 35 = .ok (.aload_n 0, 1) := by decide +kernel
theorem dX3_latest_36 : decode cX3_latest 36 = .ok (.getfield 30, 3) := by decide +kernel
theorem dX3_latest_39 : decode cX3_latest 39 = .ok (.getfield 95, 3) := by decide +kernel
theorem dX3_latest_42 : decode cX3_latest 42 = .ok (.iconst 1, 1) := by decide +kernel
theorem dX3_latest_43 : decode cX3_latest 43 = .ok (.isub, 1) := by decide +kernel
theorem dX3_latest_44 : decode cX3_latest 44 = .ok (.iload_n 1, 1) := by decide +kernel
theorem dX3_latest_45 : decode cX3_latest 45 = .ok (.isub, 1) := by decide +kernel
theorem dX3_latest_46 : decode cX3_latest 46 = .ok (.iload_n 2, 1) := by decide +kernel
theorem dX3_latest_47 : decode cX3_latest 47 = .ok (.invokevirtual 142, 3) := by decide +kernel
theorem dX3_latest_50 : decode cX3_latest 50 = .ok (.ireturn, 1) := by decide +kernel
theorem dX3_began_0 : decode cX3_began 0 = .ok (.aload_n 0, 1) := by decide +kernel
theorem dX3_began_1 : decode cX3_began 1 = .ok (.getfield 30, 3) := by decide +kernel
theorem dX3_began_4 : decode cX3_began 4 = .ok (.getfield 92, 3) := by decide +kernel
theorem dX3_began_7 : decode cX3_began 7 = .ok (.ifCond .eq 7, 3) := by decide +kernel
theorem dX3_began_10 : decode cX3_began 10 = .ok (.iconst 1, 1) := by decide +kernel
theorem dX3_began_11 : decode cX3_began 11 = .ok (.goto 4, 3) := by decide +kernel
theorem dX3_began_14 : decode cX3_began 14 = .ok (.iconst 0, 1) := by decide +kernel
theorem dX3_began_15 : decode cX3_began 15 = .ok (.ireturn, 1) := by decide +kernel
theorem dX3_within_0 : decode cX3_within 0 = .ok (.iload_n 0, 1) := by decide +kernel
theorem dX3_within_1 : decode cX3_within 1 = .ok (.ifCond .lt 12, 3) := by decide +kernel
theorem dX3_within_4 : decode cX3_within 4 = .ok (.iload_n 0, 1) := by decide +kernel
theorem dX3_within_5 : decode cX3_within 5 = .ok (.iload_n 1, 1) := by decide +kernel
theorem dX3_within_6 : decode cX3_within 6 = .ok (.if_icmp .ge 7, 3) := by decide +kernel
theorem dX3_within_9 : decode cX3_within 9 = .ok (.iconst 1, 1) := by decide +kernel
theorem dX3_within_10 : decode cX3_within 10 = .ok (.goto 4, 3) := by decide +kernel
theorem dX3_within_13 : decode cX3_within 13 = .ok (.iconst 0, 1) := by decide +kernel
theorem dX3_within_14 : decode cX3_within 14 = .ok (.ireturn, 1) := by decide +kernel
theorem dX3_isThere_0 : decode cX3_isThere 0 = .ok (.iload_n 0, 1) := by decide +kernel
theorem dX3_isThere_1 : decode cX3_isThere 1 = .ok (.ifCond .ne 12, 3) := by decide +kernel
theorem dX3_isThere_4 : decode cX3_isThere 4 = .ok (.iload_n 1, 1) := by decide +kernel
theorem dX3_isThere_5 : decode cX3_isThere 5 = .ok (.bipush 16, 2) := by decide +kernel
theorem dX3_isThere_7 : decode cX3_isThere 7 = .ok (.invokestatic 38, 3) := by decide +kernel
theorem dX3_isThere_10 : decode cX3_isThere 10 = .ok (.ifCond .ne 18, 3) := by decide +kernel
theorem dX3_isThere_13 : decode cX3_isThere 13 = .ok (.iload_n 0, 1) := by decide +kernel
theorem dX3_isThere_14 : decode cX3_isThere 14 = .ok (.iconst 1, 1) := by decide +kernel
theorem dX3_isThere_15 : decode cX3_isThere 15 = .ok (.if_icmp .ne 17, 3) := by decide +kernel
theorem dX3_isThere_18 : decode cX3_isThere 18 = .ok (.iload_n 1, 1) := by decide +kernel
theorem dX3_isThere_19 : decode cX3_isThere 19 = .ok (.sipush 256, 3) := by decide +kernel
theorem dX3_isThere_22 : decode cX3_isThere 22 = .ok (.invokestatic 38, 3) := by decide +kernel
theorem dX3_isThere_25 : decode cX3_isThere 25 = .ok (.ifCond .eq 7, 3) := by decide +kernel
theorem dX3_isThere_28 : decode cX3_isThere 28 = .ok (.iconst 1, 1) := by decide +kernel
theorem dX3_isThere_29 : decode cX3_isThere 29 = .ok (.goto 4, 3) := by decide +kernel
theorem dX3_isThere_32 : decode cX3_isThere 32 = .ok (.iconst 0, 1) := by decide +kernel
theorem dX3_isThere_33 : decode cX3_isThere 33 = .ok (.ireturn, 1) := by decide +kernel
theorem dX3_unitRow_0 : decode cX3_unitRow 0 = .ok (.iload_n 0, 1) := by decide +kernel
theorem dX3_unitRow_1 : decode cX3_unitRow 1 = .ok (.iconst 3, 1) := by decide +kernel
theorem dX3_unitRow_2 : decode cX3_unitRow 2 = .ok (.imul, 1) := by decide +kernel
theorem dX3_unitRow_3 : decode cX3_unitRow 3 = .ok (.iload_n 1, 1) := by decide +kernel
theorem dX3_unitRow_4 : decode cX3_unitRow 4 = .ok (.iadd, 1) := by decide +kernel
theorem dX3_unitRow_5 : decode cX3_unitRow 5 = .ok (.ireturn, 1) := by decide +kernel
theorem dX3_readsA_0 : decode cX3_readsA 0 = .ok (.iload_n 0, 1) := by decide +kernel
theorem dX3_readsA_1 : decode cX3_readsA 1 = .ok (.iconst 1, 1) := by decide +kernel
theorem dX3_readsA_2 : decode cX3_readsA 2 = .ok (.if_icmp .lt 19, 3) := by decide +kernel
theorem dX3_readsA_5 : decode cX3_readsA 5 = .ok (.iload_n 0, 1) := by decide +kernel
theorem dX3_readsA_6 : decode cX3_readsA 6 = .ok (.bipush 17, 2) := by decide +kernel
theorem dX3_readsA_8 : decode cX3_readsA 8 = .ok (.if_icmp .gt 13, 3) := by decide +kernel
theorem dX3_readsA_11 : decode cX3_readsA 11 = .ok (.iload_n 0, 1) := by decide +kernel
theorem dX3_readsA_12 : decode cX3_readsA 12 = .ok (.bipush 6, 2) := by decide +kernel
theorem dX3_readsA_14 : decode cX3_readsA 14 = .ok (.if_icmp .eq 7, 3) := by decide +kernel
theorem dX3_readsA_17 : decode cX3_readsA 17 = .ok (.iconst 1, 1) := by decide +kernel
theorem dX3_readsA_18 : decode cX3_readsA 18 = .ok (.goto 4, 3) := by decide +kernel
theorem dX3_readsA_21 : decode cX3_readsA 21 = .ok (.iconst 0, 1) := by decide +kernel
theorem dX3_readsA_22 : decode cX3_readsA 22 = .ok (.ireturn, 1) := by decide +kernel
theorem dX3_readsB_0 : decode cX3_readsB 0 = .ok (.iload_n 0, 1) := by decide +kernel
theorem dX3_readsB_1 : decode cX3_readsB 1 = .ok (.iconst 1, 1) := by decide +kernel
theorem dX3_readsB_2 : decode cX3_readsB 2 = .ok (.if_icmp .lt 8, 3) := by decide +kernel
theorem dX3_readsB_5 : decode cX3_readsB 5 = .ok (.iload_n 0, 1) := by decide +kernel
theorem dX3_readsB_6 : decode cX3_readsB 6 = .ok (.iconst 5, 1) := by decide +kernel
theorem dX3_readsB_7 : decode cX3_readsB 7 = .ok (.if_icmp .le 15, 3) := by decide +kernel
theorem dX3_readsB_10 : decode cX3_readsB 10 = .ok (.iload_n 0, 1) := by decide +kernel
theorem dX3_readsB_11 : decode cX3_readsB 11 = .ok (.bipush 8, 2) := by decide +kernel
theorem dX3_readsB_13 : decode cX3_readsB 13 = .ok (.if_icmp .lt 13, 3) := by decide +kernel
theorem dX3_readsB_16 : decode cX3_readsB 16 = .ok (.iload_n 0, 1) := by decide +kernel
theorem dX3_readsB_17 : decode cX3_readsB 17 = .ok (.bipush 13, 2) := by decide +kernel
theorem dX3_readsB_19 : decode cX3_readsB 19 = .ok (.if_icmp .gt 7, 3) := by decide +kernel
theorem dX3_readsB_22 : decode cX3_readsB 22 = .ok (.iconst 1, 1) := by decide +kernel
theorem dX3_readsB_23 : decode cX3_readsB 23 = .ok (.goto 4, 3) := by decide +kernel
theorem dX3_readsB_26 : decode cX3_readsB 26 = .ok (.iconst 0, 1) := by decide +kernel
theorem dX3_readsB_27 : decode cX3_readsB 27 = .ok (.ireturn, 1) := by decide +kernel
theorem dX3_readsD_0 : decode cX3_readsD 0 = .ok (.iload_n 0, 1) := by decide +kernel
theorem dX3_readsD_1 : decode cX3_readsD 1 = .ok (.bipush 15, 2) := by decide +kernel
theorem dX3_readsD_3 : decode cX3_readsD 3 = .ok (.if_icmp .ne 7, 3) := by decide +kernel
theorem dX3_readsD_6 : decode cX3_readsD 6 = .ok (.iconst 1, 1) := by decide +kernel
theorem dX3_readsD_7 : decode cX3_readsD 7 = .ok (.goto 4, 3) := by decide +kernel
theorem dX3_readsD_10 : decode cX3_readsD 10 = .ok (.iconst 0, 1) := by decide +kernel
theorem dX3_readsD_11 : decode cX3_readsD 11 = .ok (.ireturn, 1) := by decide +kernel
theorem dX3_writesD_0 : decode cX3_writesD 0 = .ok (.iload_n 0, 1) := by decide +kernel
theorem dX3_writesD_1 : decode cX3_writesD 1 = .ok (.iconst 1, 1) := by decide +kernel
theorem dX3_writesD_2 : decode cX3_writesD 2 = .ok (.if_icmp .lt 13, 3) := by decide +kernel
theorem dX3_writesD_5 : decode cX3_writesD 5 = .ok (.iload_n 0, 1) := by decide +kernel
theorem dX3_writesD_6 : decode cX3_writesD 6 = .ok (.bipush 14, 2) := by decide +kernel
theorem dX3_writesD_8 : decode cX3_writesD 8 = .ok (.if_icmp .gt 7, 3) := by decide +kernel
theorem dX3_writesD_11 : decode cX3_writesD 11 = .ok (.iconst 1, 1) := by decide +kernel
theorem dX3_writesD_12 : decode cX3_writesD 12 = .ok (.goto 4, 3) := by decide +kernel
theorem dX3_writesD_15 : decode cX3_writesD 15 = .ok (.iconst 0, 1) := by decide +kernel
theorem dX3_writesD_16 : decode cX3_writesD 16 = .ok (.ireturn, 1) := by decide +kernel
