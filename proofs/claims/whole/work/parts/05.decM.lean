theorem dX4_init_0 : decode cX4_init 0 = .ok (.aload_n 0, 1) := by decide +kernel
theorem dX4_init_1 : decode cX4_init 1 = .ok (.invokespecial 1, 3) := by decide +kernel
theorem dX4_init_4 : decode cX4_init 4 = .ok (.aload_n 0, 1) := by decide +kernel
theorem dX4_init_5 : decode cX4_init 5 = .ok (.sipush 1024, 3) := by decide +kernel
theorem dX4_init_8 : decode cX4_init 8 = .ok (.newarray .int, 2) := by decide +kernel
theorem dX4_init_10 : decode cX4_init 10 = .ok (.putfield 9, 3) := by decide +kernel
theorem dX4_init_13 : decode cX4_init 13 = .ok (.aload_n 0, 1) := by decide +kernel
theorem dX4_init_14 : decode cX4_init 14 = .ok (.bipush 6, 2) := by decide +kernel
theorem dX4_init_16 : decode cX4_init 16 = .ok (.newarray .int, 2) := by decide +kernel
theorem dX4_init_18 : decode cX4_init 18 = .ok (.putfield 13, 3) := by decide +kernel
theorem dX4_init_21 : decode cX4_init 21 = .ok (.aload_n 0, 1) := by decide +kernel
theorem dX4_init_22 : decode cX4_init 22 = .ok (.bipush 6, 2) := by decide +kernel
theorem dX4_init_24 : decode cX4_init 24 = .ok (.newarray .int, 2) := by decide +kernel
theorem dX4_init_26 : decode cX4_init 26 = .ok (.putfield 16, 3) := by decide +kernel
theorem dX4_init_29 : decode cX4_init 29 = .ok (.aload_n 0, 1) := by decide +kernel
theorem dX4_init_30 : decode cX4_init 30 = .ok (.bipush 16, 2) := by decide +kernel
theorem dX4_init_32 : decode cX4_init 32 = .ok (.newarray .long, 2) := by decide +kernel
theorem dX4_init_34 : decode cX4_init 34 = .ok (.putfield 19, 3) := by decide +kernel
theorem dX4_init_37 : decode cX4_init 37 = .ok (.aload_n 0, 1) := by decide +kernel
theorem dX4_init_38 : decode cX4_init 38 = .ok (.sipush 256, 3) := by decide +kernel
theorem dX4_init_41 : decode cX4_init 41 = .ok (.newarray .long, 2) := by decide +kernel
theorem dX4_init_43 : decode cX4_init 43 = .ok (.putfield 23, 3) := by decide +kernel
theorem dX4_init_46 : decode cX4_init 46 = .ok (.aload_n 0, 1) := by decide +kernel
theorem dX4_init_47 : decode cX4_init 47 = .ok (.bipush 16, 2) := by decide +kernel
theorem dX4_init_49 : decode cX4_init 49 = .ok (.newarray .long, 2) := by decide +kernel
theorem dX4_init_51 : decode cX4_init 51 = .ok (.putfield 26, 3) := by decide +kernel
theorem dX4_init_54 : decode cX4_init 54 = .ok (.aload_n 0, 1) := by decide +kernel
theorem dX4_init_55 : decode cX4_init 55 = .ok (.sipush 256, 3) := by decide +kernel
theorem dX4_init_58 : decode cX4_init 58 = .ok (.newarray .long, 2) := by decide +kernel
theorem dX4_init_60 : decode cX4_init 60 = .ok (.putfield 29, 3) := by decide +kernel
theorem dX4_init_63 : decode cX4_init 63 = .ok (.aload_n 0, 1) := by decide +kernel
theorem dX4_init_64 : decode cX4_init 64 = .ok (.bipush 16, 2) := by decide +kernel
theorem dX4_init_66 : decode cX4_init 66 = .ok (.newarray .long, 2) := by decide +kernel
theorem dX4_init_68 : decode cX4_init 68 = .ok (.putfield 32, 3) := by decide +kernel
theorem dX4_init_71 : decode cX4_init 71 = .ok (.aload_n 0, 1) := by decide +kernel
theorem dX4_init_72 : decode cX4_init 72 = .ok (.sipush 256, 3) := by decide +kernel
theorem dX4_init_75 : decode cX4_init 75 = .ok (.newarray .long, 2) := by decide +kernel
theorem dX4_init_77 : decode cX4_init 77 = .ok (.putfield 35, 3) := by decide +kernel
theorem dX4_init_80 : decode cX4_init 80 = .ok (.aload_n 0, 1) := by decide +kernel
theorem dX4_init_81 : decode cX4_init 81 = .ok (.iconst 3, 1) := by decide +kernel
theorem dX4_init_82 : decode cX4_init 82 = .ok (.newarray .int, 2) := by decide +kernel
theorem dX4_init_84 : decode cX4_init 84 = .ok (.putfield 38, 3) := by decide +kernel
theorem dX4_init_87 : decode cX4_init 87 = .ok (.aload_n 0, 1) := by decide +kernel
theorem dX4_init_88 : decode cX4_init 88 = .ok (.bipush 16, 2) := by decide +kernel
theorem dX4_init_90 : decode cX4_init 90 = .ok (.newarray .int, 2) := by decide +kernel
theorem dX4_init_92 : decode cX4_init 92 = .ok (.putfield 41, 3) := by decide +kernel
theorem dX4_init_95 : decode cX4_init 95 = .ok (.aload_n 0, 1) := by decide +kernel
theorem dX4_init_96 : decode cX4_init 96 = .ok (.bipush 16, 2) := by decide +kernel
theorem dX4_init_98 : decode cX4_init 98 = .ok (.newarray .int, 2) := by decide +kernel
theorem dX4_init_100 : decode cX4_init 100 = .ok (.putfield 44, 3) := by decide +kernel
theorem dX4_init_103 : decode cX4_init 103 = .ok (.aload_n 0, 1) := by decide +kernel
theorem dX4_init_104 : decode cX4_init 104 = .ok (.bipush 16, 2) := by decide +kernel
theorem dX4_init_106 : decode cX4_init 106 = .ok (.newarray .int, 2) := by decide +kernel
theorem dX4_init_108 : decode cX4_init 108 = .ok (.putfield 47, 3) := by decide +kernel
theorem dX4_init_111 : decode cX4_init 111 = .ok (.aload_n 0, 1) := by decide +kernel
theorem dX4_init_112 : decode cX4_init 112 = .ok (.bipush 126, 2) := by decide +kernel
theorem dX4_init_114 : decode cX4_init 114 = .ok (.newarray .int, 2) := by decide +kernel
theorem dX4_init_116 : decode cX4_init 116 = .ok (.putfield 50, 3) := by decide +kernel
theorem dX4_init_119 : decode cX4_init 119 = .ok (.aload_n 0, 1) := by decide +kernel
theorem dX4_init_120 : decode cX4_init 120 = .ok (.bipush 18, 2) := by decide +kernel
theorem dX4_init_122 : decode cX4_init 122 = .ok (.newarray .long, 2) := by decide +kernel
theorem dX4_init_124 : decode cX4_init 124 = .ok (.putfield 53, 3) := by decide +kernel
theorem dX4_init_127 : decode cX4_init 127 = .ok (.aload_n 0, 1) := by decide +kernel
theorem dX4_init_128 : decode cX4_init 128 = .ok (.bipush 18, 2) := by decide +kernel
theorem dX4_init_130 : decode cX4_init 130 = .ok (.newarray .boolean, 2) := by decide +kernel
theorem dX4_init_132 : decode cX4_init 132 = .ok (.putfield 56, 3) := by decide +kernel
theorem dX4_init_135 : decode cX4_init 135 = .ok (.aload_n 0, 1) := by decide +kernel
theorem dX4_init_136 : decode cX4_init 136 = .ok (.sipush 384, 3) := by decide +kernel
theorem dX4_init_139 : decode cX4_init 139 = .ok (.newarray .int, 2) := by decide +kernel
theorem dX4_init_141 : decode cX4_init 141 = .ok (.putfield 60, 3) := by decide +kernel
theorem dX4_init_144 : decode cX4_init 144 = .ok (.aload_n 0, 1) := by decide +kernel
theorem dX4_init_145 : decode cX4_init 145 = .ok (.invokevirtual 63, 3) := by decide +kernel
theorem dX4_init_148 : decode cX4_init 148 = .ok (.return_, 1) := by decide +kernel
theorem dX4_thrown_0 : decode cX4_thrown 0 = .ok (.aload_n 0, 1) := by decide +kernel
theorem dX4_thrown_1 : decode cX4_thrown 1 = .ok (.getfield 66, 3) := by decide +kernel
theorem dX4_thrown_4 : decode cX4_thrown 4 = .ok (.ireturn, 1) := by decide +kernel
theorem dX4_clear_0 : decode cX4_clear 0 = .ok (.aload_n 0, 1) := by decide +kernel
theorem dX4_clear_1 : decode cX4_clear 1 = .ok (.iconst 0, 1) := by decide +kernel
theorem dX4_clear_2 : decode cX4_clear 2 = .ok (.putfield 66, 3) := by decide +kernel
theorem dX4_clear_5 : decode cX4_clear 5 = .ok (.iconst 0, 1) := by decide +kernel
theorem dX4_clear_6 : decode cX4_clear 6 = .ok (.istore_n 1, 1) := by decide +kernel
theorem dX4_clear_7 : decode cX4_clear 7 = .ok (.iload_n 1, 1) := by decide +kernel
theorem dX4_clear_8 : decode cX4_clear 8 = .ok (.sipush 1024, 3) := by decide +kernel
theorem dX4_clear_11 : decode cX4_clear 11 = .ok (.if_icmp .ge 16, 3) := by decide +kernel
theorem dX4_clear_14 : decode cX4_clear 14 = .ok (.aload_n 0, 1) := by decide +kernel
theorem dX4_clear_15 : decode cX4_clear 15 = .ok (.getfield 9, 3) := by decide +kernel
theorem dX4_clear_18 : decode cX4_clear 18 = .ok (.iload_n 1, 1) := by decide +kernel
theorem dX4_clear_19 : decode cX4_clear 19 = .ok (.iconst 0, 1) := by decide +kernel
theorem dX4_clear_20 : decode cX4_clear 20 = .ok (.iastore, 1) := by decide +kernel
theorem dX4_clear_21 : decode cX4_clear 21 = .ok (.iinc 1 1, 3) := by decide +kernel
theorem dX4_clear_24 : decode cX4_clear 24 = .ok (.goto (-17), 3) := by decide +kernel
theorem dX4_clear_27 : decode cX4_clear 27 = .ok (.iconst 0, 1) := by decide +kernel
theorem dX4_clear_28 : decode cX4_clear 28 = .ok (.istore_n 1, 1) := by decide +kernel
theorem dX4_clear_29 : decode cX4_clear 29 = .ok (.iload_n 1, 1) := by decide +kernel
theorem dX4_clear_30 : decode cX4_clear 30 = .ok (.bipush 6, 2) := by decide +kernel
theorem dX4_clear_32 : decode cX4_clear 32 = .ok (.if_icmp .ge 16, 3) := by decide +kernel
theorem dX4_clear_35 : decode cX4_clear 35 = .ok (.aload_n 0, 1) := by decide +kernel
theorem dX4_clear_36 : decode cX4_clear 36 = .ok (.getfield 13, 3) := by decide +kernel
theorem dX4_clear_39 : decode cX4_clear 39 = .ok (.iload_n 1, 1) := by decide +kernel
theorem dX4_clear_40 : decode cX4_clear 40 = .ok (.iconst 1, 1) := by decide +kernel
theorem dX4_clear_41 : decode cX4_clear 41 = .ok (.iastore, 1) := by decide +kernel
theorem dX4_clear_42 : decode cX4_clear 42 = .ok (.iinc 1 1, 3) := by decide +kernel
theorem dX4_clear_45 : decode cX4_clear 45 = .ok (.goto (-16), 3) := by decide +kernel
theorem dX4_clear_48 : decode cX4_clear 48 = .ok (.aload_n 0, 1) := by decide +kernel
theorem dX4_clear_49 : decode cX4_clear 49 = .ok (.getfield 16, 3) := by decide +kernel
theorem dX4_clear_52 : decode cX4_clear 52 = .ok (.iconst 0, 1) := by decide +kernel
theorem dX4_clear_53 : decode cX4_clear 53 = .ok (.iconst 2, 1) := by decide +kernel
theorem dX4_clear_54 : decode cX4_clear 54 = .ok (.iastore, 1) := by decide +kernel
theorem dX4_clear_55 : decode cX4_clear 55 = .ok (.aload_n 0, 1) := by decide +kernel
theorem dX4_clear_56 : decode cX4_clear 56 = .ok (.getfield 16, 3) := by decide +kernel
theorem dX4_clear_59 : decode cX4_clear 59 = .ok (.iconst 1, 1) := by decide +kernel
theorem dX4_clear_60 : decode cX4_clear 60 = .ok (.iconst 1, 1) := by decide +kernel
theorem dX4_clear_61 : decode cX4_clear 61 = .ok (.iastore, 1) := by decide +kernel
theorem dX4_clear_62 : decode cX4_clear 62 = .ok (.aload_n 0, 1) := by decide +kernel
theorem dX4_clear_63 : decode cX4_clear 63 = .ok (.getfield 16, 3) := by decide +kernel
theorem dX4_clear_66 : decode cX4_clear 66 = .ok (.iconst 2, 1) := by decide +kernel
theorem dX4_clear_67 : decode cX4_clear 67 = .ok (.bipush 6, 2) := by decide +kernel
theorem dX4_clear_69 : decode cX4_clear 69 = .ok (.iastore, 1) := by decide +kernel
theorem dX4_clear_70 : decode cX4_clear 70 = .ok (.aload_n 0, 1) := by decide +kernel
theorem dX4_clear_71 : decode cX4_clear 71 = .ok (.getfield 16, 3) := by decide +kernel
theorem dX4_clear_74 : decode cX4_clear 74 = .ok (.iconst 3, 1) := by decide +kernel
theorem dX4_clear_75 : decode cX4_clear 75 = .ok (.bipush 12, 2) := by decide +kernel
theorem dX4_clear_77 : decode cX4_clear 77 = .ok (.iastore, 1) := by decide +kernel
theorem dX4_clear_78 : decode cX4_clear 78 = .ok (.aload_n 0, 1) := by decide +kernel
theorem dX4_clear_79 : decode cX4_clear 79 = .ok (.getfield 16, 3) := by decide +kernel
theorem dX4_clear_82 : decode cX4_clear 82 = .ok (.iconst 4, 1) := by decide +kernel
theorem dX4_clear_83 : decode cX4_clear 83 = .ok (.iconst 3, 1) := by decide +kernel
theorem dX4_clear_84 : decode cX4_clear 84 = .ok (.iastore, 1) := by decide +kernel
theorem dX4_clear_85 : decode cX4_clear 85 = .ok (.aload_n 0, 1) := by decide +kernel
theorem dX4_clear_86 : decode cX4_clear 86 = .ok (.getfield 16, 3) := by decide +kernel
theorem dX4_clear_89 : decode cX4_clear 89 = .ok (.iconst 5, 1) := by decide +kernel
theorem dX4_clear_90 : decode cX4_clear 90 = .ok (.iconst 1, 1) := by decide +kernel
theorem dX4_clear_91 : decode cX4_clear 91 = .ok (.iastore, 1) := by decide +kernel
theorem dX4_clear_92 : decode cX4_clear 92 = .ok (.aload_n 0, 1) := by decide +kernel
theorem dX4_clear_93 : decode cX4_clear 93 = .ok (.iconst 1, 1) := by decide +kernel
theorem dX4_clear_94 : decode cX4_clear 94 = .ok (.putfield 70, 3) := by decide +kernel
theorem dX4_clear_97 : decode cX4_clear 97 = .ok (.iconst 0, 1) := by decide +kernel
theorem dX4_clear_98 : decode cX4_clear 98 = .ok (.istore_n 1, 1) := by decide +kernel
theorem dX4_clear_99 : decode cX4_clear 99 = .ok (.iload_n 1, 1) := by decide +kernel
theorem dX4_clear_100 : decode cX4_clear 100 = .ok (.bipush 16, 2) := by decide +kernel
theorem dX4_clear_102 : decode cX4_clear 102 = .ok (.if_icmp .ge 16, 3) := by decide +kernel
theorem dX4_clear_105 : decode cX4_clear 105 = .ok (.aload_n 0, 1) := by decide +kernel
theorem dX4_clear_106 : decode cX4_clear 106 = .ok (.getfield 19, 3) := by decide +kernel
theorem dX4_clear_109 : decode cX4_clear 109 = .ok (.iload_n 1, 1) := by decide +kernel
theorem dX4_clear_110 : decode cX4_clear 110 = .ok (.lconst 0, 1) := by decide +kernel
theorem dX4_clear_111 : decode cX4_clear 111 = .ok (.lastore, 1) := by decide +kernel
theorem dX4_clear_112 : decode cX4_clear 112 = .ok (.iinc 1 1, 3) := by decide +kernel
theorem dX4_clear_115 : decode cX4_clear 115 = .ok (.goto (-16), 3) := by decide +kernel
theorem dX4_clear_118 : decode cX4_clear 118 = .ok (.iconst 0, 1) := by decide +kernel
theorem dX4_clear_119 : decode cX4_clear 119 = .ok (.istore_n 1, 1) := by decide +kernel
theorem dX4_clear_120 : decode cX4_clear 120 = .ok (.iload_n 1, 1) := by decide +kernel
theorem dX4_clear_121 : decode cX4_clear 121 = .ok (.sipush 256, 3) := by decide +kernel
theorem dX4_clear_124 : decode cX4_clear 124 = .ok (.if_icmp .ge 16, 3) := by decide +kernel
theorem dX4_clear_127 : decode cX4_clear 127 = .ok (.aload_n 0, 1) := by decide +kernel
theorem dX4_clear_128 : decode cX4_clear 128 = .ok (.getfield 23, 3) := by decide +kernel
theorem dX4_clear_131 : decode cX4_clear 131 = .ok (.iload_n 1, 1) := by decide +kernel
theorem dX4_clear_132 : decode cX4_clear 132 = .ok (.lconst 0, 1) := by decide +kernel
theorem dX4_clear_133 : decode cX4_clear 133 = .ok (.lastore, 1) := by decide +kernel
theorem dX4_clear_134 : decode cX4_clear 134 = .ok (.iinc 1 1, 3) := by decide +kernel
theorem dX4_clear_137 : decode cX4_clear 137 = .ok (.goto (-17), 3) := by decide +kernel
theorem dX4_clear_140 : decode cX4_clear 140 = .ok (.aload_n 0, 1) := by decide +kernel
theorem dX4_clear_141 : decode cX4_clear 141 = .ok (.invokevirtual 73, 3) := by decide +kernel
theorem dX4_clear_144 : decode cX4_clear 144 = .ok (.return_, 1) := by decide +kernel
theorem dX4_again_0 : decode cX4_again 0 = .ok (.aload_n 0, 1) := by decide +kernel
theorem dX4_again_1 : decode cX4_again 1 = .ok (.iconst 0, 1) := by decide +kernel
theorem dX4_again_2 : decode cX4_again 2 = .ok (.putfield 66, 3) := by decide +kernel
theorem dX4_again_5 : decode cX4_again 5 = .ok (.aload_n 0, 1) := by decide +kernel
theorem dX4_again_6 : decode cX4_again 6 = .ok (.iconst 0, 1) := by decide +kernel
theorem dX4_again_7 : decode cX4_again 7 = .ok (.putfield 76, 3) := by decide +kernel
theorem dX4_again_10 : decode cX4_again 10 = .ok (.aload_n 0, 1) := by decide +kernel
theorem dX4_again_11 : decode cX4_again 11 = .ok (.iconst 0, 1) := by decide +kernel
theorem dX4_again_12 : decode cX4_again 12 = .ok (.putfield 79, 3) := by decide +kernel
theorem dX4_again_15 : decode cX4_again 15 = .ok (.aload_n 0, 1) := by decide +kernel
theorem dX4_again_16 : decode cX4_again 16 = .ok (.iconst 0, 1) := by decide +kernel
theorem dX4_again_17 : decode cX4_again 17 = .ok (.putfield 83, 3) := by decide +kernel
theorem dX4_again_20 : decode cX4_again 20 = .ok (.aload_n 0, 1) := by decide +kernel
theorem dX4_again_21 : decode cX4_again 21 = .ok (.iconst 0, 1) := by decide +kernel
theorem dX4_again_22 : decode cX4_again 22 = .ok (.putfield 86, 3) := by decide +kernel
theorem dX4_again_25 : decode cX4_again 25 = .ok (.aload_n 0, 1) := by decide +kernel
theorem dX4_again_26 : decode cX4_again 26 = .ok (.iconst 0, 1) := by decide +kernel
theorem dX4_again_27 : decode cX4_again 27 = .ok (.putfield 89, 3) := by decide +kernel
theorem dX4_again_30 : decode cX4_again 30 = .ok (.aload_n 0, 1) := by decide +kernel
theorem dX4_again_31 : decode cX4_again 31 = .ok (.iconst 0, 1) := by decide +kernel
theorem dX4_again_32 : decode cX4_again 32 = .ok (.putfield 92, 3) := by decide +kernel
theorem dX4_again_35 : decode cX4_again 35 = .ok (.aload_n 0, 1) := by decide +kernel
theorem dX4_again_36 : decode cX4_again 36 = .ok (.iconst 0, 1) := by decide +kernel
theorem dX4_again_37 : decode cX4_again 37 = .ok (.putfield 95, 3) := by decide +kernel
theorem dX4_again_40 : decode cX4_again 40 = .ok (.aload_n 0, 1) := by decide +kernel
theorem dX4_again_41 : decode cX4_again 41 = .ok (.iconst 0, 1) := by decide +kernel
theorem dX4_again_42 : decode cX4_again 42 = .ok (.putfield 98, 3) := by decide +kernel
theorem dX4_again_45 : decode cX4_again 45 = .ok (.iconst 0, 1) := by decide +kernel
theorem dX4_again_46 : decode cX4_again 46 = .ok (.istore_n 1, 1) := by decide +kernel
theorem dX4_again_47 : decode cX4_again 47 = .ok (.iload_n 1, 1) := by decide +kernel
theorem dX4_again_48 : decode cX4_again 48 = .ok (.iconst 3, 1) := by decide +kernel
theorem dX4_again_49 : decode cX4_again 49 = .ok (.if_icmp .ge 16, 3) := by decide +kernel
theorem dX4_again_52 : decode cX4_again 52 = .ok (.aload_n 0, 1) := by decide +kernel
theorem dX4_again_53 : decode cX4_again 53 = .ok (.getfield 38, 3) := by decide +kernel
theorem dX4_again_56 : decode cX4_again 56 = .ok (.iload_n 1, 1) := by decide +kernel
theorem dX4_again_57 : decode cX4_again 57 = .ok (.iconst 0, 1) := by decide +kernel
theorem dX4_again_58 : decode cX4_again 58 = .ok (.iastore, 1) := by decide +kernel
theorem dX4_again_59 : decode cX4_again 59 = .ok (.iinc 1 1, 3) := by decide +kernel
theorem dX4_again_62 : decode cX4_again 62 = .ok (.goto (-15), 3) := by decide +kernel
theorem dX4_again_65 : decode cX4_again 65 = .ok (.iconst 0, 1) := by decide +kernel
theorem dX4_again_66 : decode cX4_again 66 = .ok (.istore_n 1, 1) := by decide +kernel
theorem dX4_again_67 : decode cX4_again 67 = .ok (.iload_n 1, 1) := by decide +kernel
theorem dX4_again_68 : decode cX4_again 68 = .ok (.bipush 16, 2) := by decide +kernel
theorem dX4_again_70 : decode cX4_again 70 = .ok (.if_icmp .ge 54, 3) := by decide +kernel
theorem dX4_again_73 : decode cX4_again 73 = .ok (.aload_n 0, 1) := by decide +kernel
theorem dX4_again_74 : decode cX4_again 74 = .ok (.getfield 26, 3) := by decide +kernel
theorem dX4_again_77 : decode cX4_again 77 = .ok (.iload_n 1, 1) := by decide +kernel
theorem dX4_again_78 : decode cX4_again 78 = .ok (.aload_n 0, 1) := by decide +kernel
theorem dX4_again_79 : decode cX4_again 79 = .ok (.getfield 19, 3) := by decide +kernel
theorem dX4_again_82 : decode cX4_again 82 = .ok (.iload_n 1, 1) := by decide +kernel
theorem dX4_again_83 : decode cX4_again 83 = .ok (.laload, 1) := by decide +kernel
theorem dX4_again_84 : decode cX4_again 84 = .ok (.lastore, 1) := by decide +kernel
theorem dX4_again_85 : decode cX4_again 85 = .ok (.aload_n 0, 1) := by decide +kernel
theorem dX4_again_86 : decode cX4_again 86 = .ok (.getfield 32, 3) := by decide +kernel
theorem dX4_again_89 : decode cX4_again 89 = .ok (.iload_n 1, 1) := by decide +kernel
theorem dX4_again_90 : decode cX4_again 90 = .ok (.aload_n 0, 1) := by decide +kernel
theorem dX4_again_91 : decode cX4_again 91 = .ok (.getfield 19, 3) := by decide +kernel
theorem dX4_again_94 : decode cX4_again 94 = .ok (.iload_n 1, 1) := by decide +kernel
theorem dX4_again_95 : decode cX4_again 95 = .ok (.laload, 1) := by decide +kernel
theorem dX4_again_96 : decode cX4_again 96 = .ok (.lastore, 1) := by decide +kernel
theorem dX4_again_97 : decode cX4_again 97 = .ok (.aload_n 0, 1) := by decide +kernel
theorem dX4_again_98 : decode cX4_again 98 = .ok (.getfield 41, 3) := by decide +kernel
theorem dX4_again_101 : decode cX4_again 101 = .ok (.iload_n 1, 1) := by decide +kernel
theorem dX4_again_102 : decode cX4_again 102 = .ok (.iconst 0, 1) := by decide +kernel
theorem dX4_again_103 : decode cX4_again 103 = .ok (.iastore, 1) := by decide +kernel
theorem dX4_again_104 : decode cX4_again 104 = .ok (.aload_n 0, 1) := by decide +kernel
theorem dX4_again_105 : decode cX4_again 105 = .ok (.getfield 44, 3) := by decide +kernel
theorem dX4_again_108 : decode cX4_again 108 = .ok (.iload_n 1, 1) := by decide +kernel
theorem dX4_again_109 : decode cX4_again 109 = .ok (.iconst (-1), 1) := by decide +kernel
theorem dX4_again_110 : decode cX4_again 110 = .ok (.iastore, 1) := by decide +kernel
theorem dX4_again_111 : decode cX4_again 111 = .ok (.aload_n 0, 1) := by decide +kernel
theorem dX4_again_112 : decode cX4_again 112 = .ok (.getfield 47, 3) := by decide +kernel
theorem dX4_again_115 : decode cX4_again 115 = .ok (.iload_n 1, 1) := by decide +kernel
theorem dX4_again_116 : decode cX4_again 116 = .ok (.iconst 0, 1) := by decide +kernel
theorem dX4_again_117 : decode cX4_again 117 = .ok (.iastore, 1) := by decide +kernel
theorem dX4_again_118 : decode cX4_again 118 = .ok (.iinc 1 1, 3) := by decide +kernel
theorem dX4_again_121 : decode cX4_again 121 = .ok (.goto (-54), 3) := by decide +kernel
theorem dX4_again_124 : decode cX4_again 124 = .ok (.iconst 0, 1) := by decide +kernel
theorem dX4_again_125 : decode cX4_again 125 = .ok (.istore_n 1, 1) := by decide +kernel
theorem dX4_again_126 : decode cX4_again 126 = .ok (.iload_n 1, 1) := by decide +kernel
theorem dX4_again_127 : decode cX4_again 127 = .ok (.sipush 256, 3) := by decide +kernel
theorem dX4_again_130 : decode cX4_again 130 = .ok (.if_icmp .ge 33, 3) := by decide +kernel
theorem dX4_again_133 : decode cX4_again 133 = .ok (.aload_n 0, 1) := by decide +kernel
theorem dX4_again_134 : decode cX4_again 134 = .ok (.getfield 29, 3) := by decide +kernel
theorem dX4_again_137 : decode cX4_again 137 = .ok (.iload_n 1, 1) := by decide +kernel
theorem dX4_again_138 : decode cX4_again 138 = .ok (.aload_n 0, 1) := by decide +kernel
theorem dX4_again_139 : decode cX4_again 139 = .ok (.getfield 23, 3) := by decide +kernel
theorem dX4_again_142 : decode cX4_again 142 = .ok (.iload_n 1, 1) := by decide +kernel
theorem dX4_again_143 : decode cX4_again 143 = .ok (.laload, 1) := by decide +kernel
theorem dX4_again_144 : decode cX4_again 144 = .ok (.lastore, 1) := by decide +kernel
theorem dX4_again_145 : decode cX4_again 145 = .ok (.aload_n 0, 1) := by decide +kernel
theorem dX4_again_146 : decode cX4_again 146 = .ok (.getfield 35, 3) := by decide +kernel
theorem dX4_again_149 : decode cX4_again 149 = .ok (.iload_n 1, 1) := by decide +kernel
theorem dX4_again_150 : decode cX4_again 150 = .ok (.aload_n 0, 1) := by decide +kernel
theorem dX4_again_151 : decode cX4_again 151 = .ok (.getfield 23, 3) := by decide +kernel
theorem dX4_again_154 : decode cX4_again 154 = .ok (.iload_n 1, 1) := by decide +kernel
theorem dX4_again_155 : decode cX4_again 155 = .ok (.laload, 1) := by decide +kernel
theorem dX4_again_156 : decode cX4_again 156 = .ok (.lastore, 1) := by decide +kernel
theorem dX4_again_157 : decode cX4_again 157 = .ok (.iinc 1 1, 3) := by decide +kernel
theorem dX4_again_160 : decode cX4_again 160 = .ok (.goto (-34), 3) := by decide +kernel
theorem dX4_again_163 : decode cX4_again 163 = .ok (.iconst 0, 1) := by decide +kernel
theorem dX4_again_164 : decode cX4_again 164 = .ok (.istore_n 1, 1) := by decide +kernel
theorem dX4_again_165 : decode cX4_again 165 = .ok (.iload_n 1, 1) := by decide +kernel
theorem dX4_again_166 : decode cX4_again 166 = .ok (.bipush 18, 2) := by decide +kernel
theorem dX4_again_168 : decode cX4_again 168 = .ok (.if_icmp .ge 28, 3) := by decide +kernel
theorem dX4_again_171 : decode cX4_again 171 = .ok (.aload_n 0, 1) := by decide +kernel
theorem dX4_again_172 : decode cX4_again 172 = .ok (.getfield 56, 3) := by decide +kernel
theorem dX4_again_175 : decode cX4_again 175 = .ok (.iload_n 1, 1) := by decide +kernel
theorem dX4_again_176 : decode cX4_again 176 = .ok (.iconst 0, 1) := by decide +kernel
theorem dX4_again_177 : decode cX4_again 177 = .ok (.bastore, 1) := by decide +kernel
theorem dX4_again_178 : decode cX4_again 178 = .ok (.aload_n 0, 1) := by decide +kernel
theorem dX4_again_179 : decode cX4_again 179 = .ok (.getfield 50, 3) := by decide +kernel
theorem dX4_again_182 : decode cX4_again 182 = .ok (.bipush 7, 2) := by decide +kernel
theorem dX4_again_184 : decode cX4_again 184 = .ok (.iload_n 1, 1) := by decide +kernel
theorem dX4_again_185 : decode cX4_again 185 = .ok (.imul, 1) := by decide +kernel
theorem dX4_again_186 : decode cX4_again 186 = .ok (.iconst 5, 1) := by decide +kernel
theorem dX4_again_187 : decode cX4_again 187 = .ok (.iadd, 1) := by decide +kernel
theorem dX4_again_188 : decode cX4_again 188 = .ok (.iconst 0, 1) := by decide +kernel
theorem dX4_again_189 : decode cX4_again 189 = .ok (.iastore, 1) := by decide +kernel
theorem dX4_again_190 : decode cX4_again 190 = .ok (.iinc 1 1, 3) := by decide +kernel
theorem dX4_again_193 : decode cX4_again 193 = .ok (.goto (-28), 3) := by decide +kernel
theorem dX4_again_196 : decode cX4_again 196 = .ok (.return_, 1) := by decide +kernel
theorem dX4_put_0 : decode cX4_put 0 = .ok (.aload_n 0, 1) := by decide +kernel
theorem dX4_put_1 : decode cX4_put 1 = .ok (.iconst 0, 1) := by decide +kernel
theorem dX4_put_2 : decode cX4_put 2 = .ok (.putfield 66, 3) := by decide +kernel
theorem dX4_put_5 : decode cX4_put 5 = .ok (.aload_n 0, 1) := by decide +kernel
theorem dX4_put_6 : decode cX4_put 6 = .ok (.getfield 76, 3) := by decide +kernel
theorem dX4_put_9 : decode cX4_put 9 = .ok (.ifCond .gt 46, 3) := by decide +kernel
theorem dX4_put_12 : decode cX4_put 12 = .ok (.iload_n 1, 1) := by decide +kernel
theorem dX4_put_13 : decode cX4_put 13 = .ok (.ifCond .lt 42, 3) := by decide +kernel
theorem dX4_put_16 : decode cX4_put 16 = .ok (.iload_n 1, 1) := by decide +kernel
theorem dX4_put_17 : decode cX4_put 17 = .ok (.sipush 256, 3) := by decide +kernel
theorem dX4_put_20 : decode cX4_put 20 = .ok (.if_icmp .ge 35, 3) := by decide +kernel
theorem dX4_put_23 : decode cX4_put 23 = .ok (.iload_n 2, 1) := by decide +kernel
theorem dX4_put_24 : decode cX4_put 24 = .ok (.ifCond .lt 31, 3) := by decide +kernel
theorem dX4_put_27 : decode cX4_put 27 = .ok (.iload_n 2, 1) := by decide +kernel
theorem dX4_put_28 : decode cX4_put 28 = .ok (.bipush 18, 2) := by decide +kernel
theorem dX4_put_30 : decode cX4_put 30 = .ok (.if_icmp .gt 25, 3) := by decide +kernel
theorem dX4_put_33 : decode cX4_put 33 = .ok (.iload_n 3, 1) := by decide +kernel
theorem dX4_put_34 : decode cX4_put 34 = .ok (.ifCond .lt 21, 3) := by decide +kernel
theorem dX4_put_37 : decode cX4_put 37 = .ok (.iload_n 3, 1) := by decide +kernel
theorem dX4_put_38 : decode cX4_put 38 = .ok (.bipush 15, 2) := by decide +kernel
theorem dX4_put_40 : decode cX4_put 40 = .ok (.if_icmp .gt 15, 3) := by decide +kernel
theorem dX4_put_43 : decode cX4_put 43 = .ok (.iload 4, 2) := by decide +kernel
theorem dX4_put_45 : decode cX4_put 45 = .ok (.ifCond .lt 10, 3) := by decide +kernel
theorem dX4_put_48 : decode cX4_put 48 = .ok (.iload 4, 2) := by decide +kernel
theorem dX4_put_50 : decode cX4_put 50 = .ok (.bipush 15, 2) := by decide +kernel
theorem dX4_put_52 : decode cX4_put 52 = .ok (.if_icmp .le 5, 3) := by decide +kernel
theorem dX4_put_55 : decode cX4_put 55 = .ok (.iconst 0, 1) := by decide +kernel
theorem dX4_put_56 : decode cX4_put 56 = .ok (.ireturn, 1) := by decide +kernel
theorem dX4_put_57 : decode cX4_put 57 = .ok (.aload_n 0, 1) := by decide +kernel
theorem dX4_put_58 : decode cX4_put 58 = .ok (.getfield 9, 3) := by decide +kernel
theorem dX4_put_61 : decode cX4_put 61 = .ok (.iconst 4, 1) := by decide +kernel
theorem dX4_put_62 : decode cX4_put 62 = .ok (.iload_n 1, 1) := by decide +kernel
theorem dX4_put_63 : decode cX4_put 63 = .ok (.imul, 1) := by decide +kernel
theorem dX4_put_64 : decode cX4_put 64 = .ok (.iload_n 2, 1) := by decide +kernel
theorem dX4_put_65 : decode cX4_put 65 = .ok (.iastore, 1) := by decide +kernel
theorem dX4_put_66 : decode cX4_put 66 = .ok (.aload_n 0, 1) := by decide +kernel
theorem dX4_put_67 : decode cX4_put 67 = .ok (.getfield 9, 3) := by decide +kernel
theorem dX4_put_70 : decode cX4_put 70 = .ok (.iconst 4, 1) := by decide +kernel
theorem dX4_put_71 : decode cX4_put 71 = .ok (.iload_n 1, 1) := by decide +kernel
theorem dX4_put_72 : decode cX4_put 72 = .ok (.imul, 1) := by decide +kernel
theorem dX4_put_73 : decode cX4_put 73 = .ok (.iconst 1, 1) := by decide +kernel
theorem dX4_put_74 : decode cX4_put 74 = .ok (.iadd, 1) := by decide +kernel
theorem dX4_put_75 : decode cX4_put 75 = .ok (.iload_n 3, 1) := by decide +kernel
theorem dX4_put_76 : decode cX4_put 76 = .ok (.iastore, 1) := by decide +kernel
theorem dX4_put_77 : decode cX4_put 77 = .ok (.aload_n 0, 1) := by decide +kernel
theorem dX4_put_78 : decode cX4_put 78 = .ok (.getfield 9, 3) := by decide +kernel
theorem dX4_put_81 : decode cX4_put 81 = .ok (.iconst 4, 1) := by decide +kernel
theorem dX4_put_82 : decode cX4_put 82 = .ok (.iload_n 1, 1) := by decide +kernel
theorem dX4_put_83 : decode cX4_put 83 = .ok (.imul, 1) := by decide +kernel
theorem dX4_put_84 : decode cX4_put 84 = .ok (.iconst 2, 1) := by decide +kernel
theorem dX4_put_85 : decode cX4_put 85 = .ok (.iadd, 1) := by decide +kernel
theorem dX4_put_86 : decode cX4_put 86 = .ok (.iload 4, 2) := by decide +kernel
theorem dX4_put_88 : decode cX4_put 88 = .ok (.iastore, 1) := by decide +kernel
theorem dX4_put_89 : decode cX4_put 89 = .ok (.aload_n 0, 1) := by decide +kernel
theorem dX4_put_90 : decode cX4_put 90 = .ok (.getfield 9, 3) := by decide +kernel
theorem dX4_put_93 : decode cX4_put 93 = .ok (.iconst 4, 1) := by decide +kernel
theorem dX4_put_94 : decode cX4_put 94 = .ok (.iload_n 1, 1) := by decide +kernel
theorem dX4_put_95 : decode cX4_put 95 = .ok (.imul, 1) := by decide +kernel
theorem dX4_put_96 : decode cX4_put 96 = .ok (.iconst 3, 1) := by decide +kernel
theorem dX4_put_97 : decode cX4_put 97 = .ok (.iadd, 1) := by decide +kernel
theorem dX4_put_98 : decode cX4_put 98 = .ok (.iload 5, 2) := by decide +kernel
theorem dX4_put_100 : decode cX4_put 100 = .ok (.iastore, 1) := by decide +kernel
theorem dX4_put_101 : decode cX4_put 101 = .ok (.iconst 1, 1) := by decide +kernel
theorem dX4_put_102 : decode cX4_put 102 = .ok (.ireturn, 1) := by decide +kernel
theorem dX4_units_0 : decode cX4_units 0 = .ok (.aload_n 0, 1) := by decide +kernel
theorem dX4_units_1 : decode cX4_units 1 = .ok (.iconst 0, 1) := by decide +kernel
theorem dX4_units_2 : decode cX4_units 2 = .ok (.putfield 66, 3) := by decide +kernel
theorem dX4_units_5 : decode cX4_units 5 = .ok (.aload_n 0, 1) := by decide +kernel
theorem dX4_units_6 : decode cX4_units 6 = .ok (.getfield 76, 3) := by decide +kernel
theorem dX4_units_9 : decode cX4_units 9 = .ok (.ifCond .gt 22, 3) := by decide +kernel
theorem dX4_units_12 : decode cX4_units 12 = .ok (.iload_n 1, 1) := by decide +kernel
theorem dX4_units_13 : decode cX4_units 13 = .ok (.ifCond .lt 18, 3) := by decide +kernel
theorem dX4_units_16 : decode cX4_units 16 = .ok (.iload_n 1, 1) := by decide +kernel
theorem dX4_units_17 : decode cX4_units 17 = .ok (.iconst 3, 1) := by decide +kernel
theorem dX4_units_18 : decode cX4_units 18 = .ok (.if_icmp .gt 13, 3) := by decide +kernel
theorem dX4_units_21 : decode cX4_units 21 = .ok (.iload_n 2, 1) := by decide +kernel
theorem dX4_units_22 : decode cX4_units 22 = .ok (.iconst 1, 1) := by decide +kernel
theorem dX4_units_23 : decode cX4_units 23 = .ok (.if_icmp .lt 8, 3) := by decide +kernel
theorem dX4_units_26 : decode cX4_units 26 = .ok (.iload_n 2, 1) := by decide +kernel
theorem dX4_units_27 : decode cX4_units 27 = .ok (.iconst 3, 1) := by decide +kernel
theorem dX4_units_28 : decode cX4_units 28 = .ok (.if_icmp .le 5, 3) := by decide +kernel
theorem dX4_units_31 : decode cX4_units 31 = .ok (.iconst 0, 1) := by decide +kernel
theorem dX4_units_32 : decode cX4_units 32 = .ok (.ireturn, 1) := by decide +kernel
theorem dX4_units_33 : decode cX4_units 33 = .ok (.aload_n 0, 1) := by decide +kernel
theorem dX4_units_34 : decode cX4_units 34 = .ok (.getfield 13, 3) := by decide +kernel
theorem dX4_units_37 : decode cX4_units 37 = .ok (.iload_n 1, 1) := by decide +kernel
theorem dX4_units_38 : decode cX4_units 38 = .ok (.iload_n 2, 1) := by decide +kernel
theorem dX4_units_39 : decode cX4_units 39 = .ok (.iastore, 1) := by decide +kernel
theorem dX4_units_40 : decode cX4_units 40 = .ok (.iconst 1, 1) := by decide +kernel
theorem dX4_units_41 : decode cX4_units 41 = .ok (.ireturn, 1) := by decide +kernel
theorem dX4_latency_0 : decode cX4_latency 0 = .ok (.aload_n 0, 1) := by decide +kernel
theorem dX4_latency_1 : decode cX4_latency 1 = .ok (.iconst 0, 1) := by decide +kernel
theorem dX4_latency_2 : decode cX4_latency 2 = .ok (.putfield 66, 3) := by decide +kernel
theorem dX4_latency_5 : decode cX4_latency 5 = .ok (.aload_n 0, 1) := by decide +kernel
theorem dX4_latency_6 : decode cX4_latency 6 = .ok (.getfield 76, 3) := by decide +kernel
theorem dX4_latency_9 : decode cX4_latency 9 = .ok (.ifCond .gt 23, 3) := by decide +kernel
theorem dX4_latency_12 : decode cX4_latency 12 = .ok (.iload_n 1, 1) := by decide +kernel
theorem dX4_latency_13 : decode cX4_latency 13 = .ok (.ifCond .lt 19, 3) := by decide +kernel
theorem dX4_latency_16 : decode cX4_latency 16 = .ok (.iload_n 1, 1) := by decide +kernel
theorem dX4_latency_17 : decode cX4_latency 17 = .ok (.iconst 5, 1) := by decide +kernel
theorem dX4_latency_18 : decode cX4_latency 18 = .ok (.if_icmp .gt 14, 3) := by decide +kernel
theorem dX4_latency_21 : decode cX4_latency 21 = .ok (.iload_n 2, 1) := by decide +kernel
theorem dX4_latency_22 : decode cX4_latency 22 = .ok (.iconst 1, 1) := by decide +kernel
theorem dX4_latency_23 : decode cX4_latency 23 = .ok (.if_icmp .lt 9, 3) := by decide +kernel
theorem dX4_latency_26 : decode cX4_latency 26 = .ok (.iload_n 2, 1) := by decide +kernel
theorem dX4_latency_27 : decode cX4_latency 27 = .ok (.bipush 30, 2) := by decide +kernel
theorem dX4_latency_29 : decode cX4_latency 29 = .ok (.if_icmp .le 5, 3) := by decide +kernel
theorem dX4_latency_32 : decode cX4_latency 32 = .ok (.iconst 0, 1) := by decide +kernel
theorem dX4_latency_33 : decode cX4_latency 33 = .ok (.ireturn, 1) := by decide +kernel
theorem dX4_latency_34 : decode cX4_latency 34 = .ok (.aload_n 0, 1) := by decide +kernel
theorem dX4_latency_35 : decode cX4_latency 35 = .ok (.getfield 16, 3) := by decide +kernel
theorem dX4_latency_38 : decode cX4_latency 38 = .ok (.iload_n 1, 1) := by decide +kernel
theorem dX4_latency_39 : decode cX4_latency 39 = .ok (.iload_n 2, 1) := by decide +kernel
theorem dX4_latency_40 : decode cX4_latency 40 = .ok (.iastore, 1) := by decide +kernel
theorem dX4_latency_41 : decode cX4_latency 41 = .ok (.iconst 1, 1) := by decide +kernel
theorem dX4_latency_42 : decode cX4_latency 42 = .ok (.ireturn, 1) := by decide +kernel
theorem dX4_width_0 : decode cX4_width 0 = .ok (.aload_n 0, 1) := by decide +kernel
theorem dX4_width_1 : decode cX4_width 1 = .ok (.iconst 0, 1) := by decide +kernel
theorem dX4_width_2 : decode cX4_width 2 = .ok (.putfield 66, 3) := by decide +kernel
theorem dX4_width_5 : decode cX4_width 5 = .ok (.aload_n 0, 1) := by decide +kernel
theorem dX4_width_6 : decode cX4_width 6 = .ok (.getfield 76, 3) := by decide +kernel
theorem dX4_width_9 : decode cX4_width 9 = .ok (.ifCond .gt 13, 3) := by decide +kernel
theorem dX4_width_12 : decode cX4_width 12 = .ok (.iload_n 1, 1) := by decide +kernel
theorem dX4_width_13 : decode cX4_width 13 = .ok (.iconst 1, 1) := by decide +kernel
theorem dX4_width_14 : decode cX4_width 14 = .ok (.if_icmp .lt 8, 3) := by decide +kernel
theorem dX4_width_17 : decode cX4_width 17 = .ok (.iload_n 1, 1) := by decide +kernel
theorem dX4_width_18 : decode cX4_width 18 = .ok (.iconst 4, 1) := by decide +kernel
theorem dX4_width_19 : decode cX4_width 19 = .ok (.if_icmp .le 5, 3) := by decide +kernel
theorem dX4_width_22 : decode cX4_width 22 = .ok (.iconst 0, 1) := by decide +kernel
theorem dX4_width_23 : decode cX4_width 23 = .ok (.ireturn, 1) := by decide +kernel
theorem dX4_width_24 : decode cX4_width 24 = .ok (.aload_n 0, 1) := by decide +kernel
theorem dX4_width_25 : decode cX4_width 25 = .ok (.iload_n 1, 1) := by decide +kernel
theorem dX4_width_26 : decode cX4_width 26 = .ok (.putfield 70, 3) := by decide +kernel
theorem dX4_width_29 : decode cX4_width 29 = .ok (.iconst 1, 1) := by decide +kernel
theorem dX4_width_30 : decode cX4_width 30 = .ok (.ireturn, 1) := by decide +kernel
theorem dX4_set_0 : decode cX4_set 0 = .ok (.aload_n 0, 1) := by decide +kernel
theorem dX4_set_1 : decode cX4_set 1 = .ok (.iconst 0, 1) := by decide +kernel
theorem dX4_set_2 : decode cX4_set 2 = .ok (.putfield 66, 3) := by decide +kernel
theorem dX4_set_5 : decode cX4_set 5 = .ok (.aload_n 0, 1) := by decide +kernel
theorem dX4_set_6 : decode cX4_set 6 = .ok (.getfield 76, 3) := by decide +kernel
theorem dX4_set_9 : decode cX4_set 9 = .ok (.ifCond .gt 32, 3) := by decide +kernel
theorem dX4_set_12 : decode cX4_set 12 = .ok (.iload_n 1, 1) := by decide +kernel
theorem dX4_set_13 : decode cX4_set 13 = .ok (.ifCond .lt 28, 3) := by decide +kernel
theorem dX4_set_16 : decode cX4_set 16 = .ok (.iload_n 1, 1) := by decide +kernel
theorem dX4_set_17 : decode cX4_set 17 = .ok (.iconst 1, 1) := by decide +kernel
theorem dX4_set_18 : decode cX4_set 18 = .ok (.if_icmp .gt 23, 3) := by decide +kernel
theorem dX4_set_21 : decode cX4_set 21 = .ok (.iload_n 2, 1) := by decide +kernel
theorem dX4_set_22 : decode cX4_set 22 = .ok (.ifCond .lt 19, 3) := by decide +kernel
theorem dX4_set_25 : decode cX4_set 25 = .ok (.iload_n 2, 1) := by decide +kernel
theorem dX4_set_26 : decode cX4_set 26 = .ok (.iload_n 1, 1) := by decide +kernel
theorem dX4_set_27 : decode cX4_set 27 = .ok (.ifCond .ne 8, 3) := by decide +kernel
theorem dX4_set_30 : decode cX4_set 30 = .ok (.bipush 16, 2) := by decide +kernel
theorem dX4_set_32 : decode cX4_set 32 = .ok (.goto 6, 3) := by decide +kernel
theorem dX4_set_35 : decode cX4_set 35 = .ok (.sipush 256, 3) := by decide +kernel
theorem dX4_set_38 : decode cX4_set 38 = .ok (.if_icmp .lt 5, 3) := by decide +kernel
theorem dX4_set_41 : decode cX4_set 41 = .ok (.iconst 0, 1) := by decide +kernel
theorem dX4_set_42 : decode cX4_set 42 = .ok (.ireturn, 1) := by decide +kernel
theorem dX4_set_43 : decode cX4_set 43 = .ok (.iload_n 1, 1) := by decide +kernel
theorem dX4_set_44 : decode cX4_set 44 = .ok (.ifCond .ne 27, 3) := by decide +kernel
theorem dX4_set_47 : decode cX4_set 47 = .ok (.aload_n 0, 1) := by decide +kernel
theorem dX4_set_48 : decode cX4_set 48 = .ok (.getfield 19, 3) := by decide +kernel
theorem dX4_set_51 : decode cX4_set 51 = .ok (.iload_n 2, 1) := by decide +kernel
theorem dX4_set_52 : decode cX4_set 52 = .ok (.lload_n 3, 1) := by decide +kernel
theorem dX4_set_53 : decode cX4_set 53 = .ok (.lastore, 1) := by decide +kernel
theorem dX4_set_54 : decode cX4_set 54 = .ok (.aload_n 0, 1) := by decide +kernel
theorem dX4_set_55 : decode cX4_set 55 = .ok (.getfield 32, 3) := by decide +kernel
theorem dX4_set_58 : decode cX4_set 58 = .ok (.iload_n 2, 1) := by decide +kernel
theorem dX4_set_59 : decode cX4_set 59 = .ok (.lload_n 3, 1) := by decide +kernel
theorem dX4_set_60 : decode cX4_set 60 = .ok (.lastore, 1) := by decide +kernel
theorem dX4_set_61 : decode cX4_set 61 = .ok (.aload_n 0, 1) := by decide +kernel
theorem dX4_set_62 : decode cX4_set 62 = .ok (.getfield 26, 3) := by decide +kernel
theorem dX4_set_65 : decode cX4_set 65 = .ok (.iload_n 2, 1) := by decide +kernel
theorem dX4_set_66 : decode cX4_set 66 = .ok (.lload_n 3, 1) := by decide +kernel
theorem dX4_set_67 : decode cX4_set 67 = .ok (.lastore, 1) := by decide +kernel
theorem dX4_set_68 : decode cX4_set 68 = .ok (.goto 24, 3) := by decide +kernel
theorem dX4_set_71 : decode cX4_set 71 = .ok (.aload_n 0, 1) := by decide +kernel
theorem dX4_set_72 : decode cX4_set 72 = .ok (.getfield 23, 3) := by decide +kernel
theorem dX4_set_75 : decode cX4_set 75 = .ok (.iload_n 2, 1) := by decide +kernel
theorem dX4_set_76 : decode cX4_set 76 = .ok (.lload_n 3, 1) := by decide +kernel
theorem dX4_set_77 : decode cX4_set 77 = .ok (.lastore, 1) := by decide +kernel
theorem dX4_set_78 : decode cX4_set 78 = .ok (.aload_n 0, 1) := by decide +kernel
theorem dX4_set_79 : decode cX4_set 79 = .ok (.getfield 35, 3) := by decide +kernel
theorem dX4_set_82 : decode cX4_set 82 = .ok (.iload_n 2, 1) := by decide +kernel
theorem dX4_set_83 : decode cX4_set 83 = .ok (.lload_n 3, 1) := by decide +kernel
theorem dX4_set_84 : decode cX4_set 84 = .ok (.lastore, 1) := by decide +kernel
theorem dX4_set_85 : decode cX4_set 85 = .ok (.aload_n 0, 1) := by decide +kernel
theorem dX4_set_86 : decode cX4_set 86 = .ok (.getfield 29, 3) := by decide +kernel
theorem dX4_set_89 : decode cX4_set 89 = .ok (.iload_n 2, 1) := by decide +kernel
theorem dX4_set_90 : decode cX4_set 90 = .ok (.lload_n 3, 1) := by decide +kernel
theorem dX4_set_91 : decode cX4_set 91 = .ok (.lastore, 1) := by decide +kernel
theorem dX4_set_92 : decode cX4_set 92 = .ok (.iconst 1, 1) := by decide +kernel
theorem dX4_set_93 : decode cX4_set 93 = .ok (.ireturn, 1) := by decide +kernel
theorem dX4_kindOf_0 : decode cX4_kindOf 0 = .ok (.iload_n 0, 1) := by decide +kernel
theorem dX4_kindOf_1 : decode cX4_kindOf 1 = .ok (.bipush 8, 2) := by decide +kernel
theorem dX4_kindOf_3 : decode cX4_kindOf 3 = .ok (.if_icmp .ge 7, 3) := by decide +kernel
theorem dX4_kindOf_6 : decode cX4_kindOf 6 = .ok (.iconst 0, 1) := by decide +kernel
theorem dX4_kindOf_7 : decode cX4_kindOf 7 = .ok (.goto 44, 3) := by decide +kernel
theorem dX4_kindOf_10 : decode cX4_kindOf 10 = .ok (.iload_n 0, 1) := by decide +kernel
theorem dX4_kindOf_11 : decode cX4_kindOf 11 = .ok (.bipush 11, 2) := by decide +kernel
theorem dX4_kindOf_13 : decode cX4_kindOf 13 = .ok (.if_icmp .ge 7, 3) := by decide +kernel
theorem dX4_kindOf_16 : decode cX4_kindOf 16 = .ok (.iconst 1, 1) := by decide +kernel
theorem dX4_kindOf_17 : decode cX4_kindOf 17 = .ok (.goto 34, 3) := by decide +kernel
theorem dX4_kindOf_20 : decode cX4_kindOf 20 = .ok (.iload_n 0, 1) := by decide +kernel
theorem dX4_kindOf_21 : decode cX4_kindOf 21 = .ok (.bipush 11, 2) := by decide +kernel
theorem dX4_kindOf_23 : decode cX4_kindOf 23 = .ok (.if_icmp .ne 7, 3) := by decide +kernel
theorem dX4_kindOf_26 : decode cX4_kindOf 26 = .ok (.iconst 2, 1) := by decide +kernel
theorem dX4_kindOf_27 : decode cX4_kindOf 27 = .ok (.goto 24, 3) := by decide +kernel
theorem dX4_kindOf_30 : decode cX4_kindOf 30 = .ok (.iload_n 0, 1) := by decide +kernel
theorem dX4_kindOf_31 : decode cX4_kindOf 31 = .ok (.bipush 14, 2) := by decide +kernel
theorem dX4_kindOf_33 : decode cX4_kindOf 33 = .ok (.if_icmp .ge 7, 3) := by decide +kernel
theorem dX4_kindOf_36 : decode cX4_kindOf 36 = .ok (.iconst 3, 1) := by decide +kernel
theorem dX4_kindOf_37 : decode cX4_kindOf 37 = .ok (.goto 14, 3) := by decide +kernel
theorem dX4_kindOf_40 : decode cX4_kindOf 40 = .ok (.iload_n 0, 1) := by decide +kernel
theorem dX4_kindOf_41 : decode cX4_kindOf 41 = .ok (.bipush 16, 2) := by decide +kernel
theorem dX4_kindOf_43 : decode cX4_kindOf 43 = .ok (.if_icmp .ge 7, 3) := by decide +kernel
theorem dX4_kindOf_46 : decode cX4_kindOf 46 = .ok (.iconst 4, 1) := by decide +kernel
theorem dX4_kindOf_47 : decode cX4_kindOf 47 = .ok (.goto 4, 3) := by decide +kernel
theorem dX4_kindOf_50 : decode cX4_kindOf 50 = .ok (.iconst 5, 1) := by decide +kernel
theorem dX4_kindOf_51 : decode cX4_kindOf 51 = .ok (.ireturn, 1) := by decide +kernel
theorem dX4_writes_0 : decode cX4_writes 0 = .ok (.iload_n 0, 1) := by decide +kernel
theorem dX4_writes_1 : decode cX4_writes 1 = .ok (.bipush 15, 2) := by decide +kernel
theorem dX4_writes_3 : decode cX4_writes 3 = .ok (.if_icmp .ge 7, 3) := by decide +kernel
theorem dX4_writes_6 : decode cX4_writes 6 = .ok (.iconst 1, 1) := by decide +kernel
theorem dX4_writes_7 : decode cX4_writes 7 = .ok (.goto 4, 3) := by decide +kernel
theorem dX4_writes_10 : decode cX4_writes 10 = .ok (.iconst 0, 1) := by decide +kernel
theorem dX4_writes_11 : decode cX4_writes 11 = .ok (.ireturn, 1) := by decide +kernel
theorem dX4_readsA_0 : decode cX4_readsA 0 = .ok (.iload_n 0, 1) := by decide +kernel
theorem dX4_readsA_1 : decode cX4_readsA 1 = .ok (.bipush 6, 2) := by decide +kernel
theorem dX4_readsA_3 : decode cX4_readsA 3 = .ok (.if_icmp .eq 13, 3) := by decide +kernel
theorem dX4_readsA_6 : decode cX4_readsA 6 = .ok (.iload_n 0, 1) := by decide +kernel
theorem dX4_readsA_7 : decode cX4_readsA 7 = .ok (.bipush 18, 2) := by decide +kernel
theorem dX4_readsA_9 : decode cX4_readsA 9 = .ok (.if_icmp .eq 7, 3) := by decide +kernel
theorem dX4_readsA_12 : decode cX4_readsA 12 = .ok (.iconst 1, 1) := by decide +kernel
theorem dX4_readsA_13 : decode cX4_readsA 13 = .ok (.goto 4, 3) := by decide +kernel
theorem dX4_readsA_16 : decode cX4_readsA 16 = .ok (.iconst 0, 1) := by decide +kernel
theorem dX4_readsA_17 : decode cX4_readsA 17 = .ok (.ireturn, 1) := by decide +kernel
theorem dX4_readsB_0 : decode cX4_readsB 0 = .ok (.iload_n 0, 1) := by decide +kernel
theorem dX4_readsB_1 : decode cX4_readsB 1 = .ok (.bipush 6, 2) := by decide +kernel
theorem dX4_readsB_3 : decode cX4_readsB 3 = .ok (.if_icmp .lt 15, 3) := by decide +kernel
theorem dX4_readsB_6 : decode cX4_readsB 6 = .ok (.iload_n 0, 1) := by decide +kernel
theorem dX4_readsB_7 : decode cX4_readsB 7 = .ok (.bipush 7, 2) := by decide +kernel
theorem dX4_readsB_9 : decode cX4_readsB 9 = .ok (.if_icmp .le 13, 3) := by decide +kernel
theorem dX4_readsB_12 : decode cX4_readsB 12 = .ok (.iload_n 0, 1) := by decide +kernel
theorem dX4_readsB_13 : decode cX4_readsB 13 = .ok (.bipush 14, 2) := by decide +kernel
theorem dX4_readsB_15 : decode cX4_readsB 15 = .ok (.if_icmp .ge 7, 3) := by decide +kernel
theorem dX4_readsB_18 : decode cX4_readsB 18 = .ok (.iconst 1, 1) := by decide +kernel
theorem dX4_readsB_19 : decode cX4_readsB 19 = .ok (.goto 4, 3) := by decide +kernel
theorem dX4_readsB_22 : decode cX4_readsB 22 = .ok (.iconst 0, 1) := by decide +kernel
theorem dX4_readsB_23 : decode cX4_readsB 23 = .ok (.ireturn, 1) := by decide +kernel
theorem dX4_code_0 : decode cX4_code 0 = .ok (.aload_n 0, 1) := by decide +kernel
theorem dX4_code_1 : decode cX4_code 1 = .ok (.getfield 9, 3) := by decide +kernel
theorem dX4_code_4 : decode cX4_code 4 = .ok (.iconst 4, 1) := by decide +kernel
theorem dX4_code_5 : decode cX4_code 5 = .ok (.aload_n 0, 1) := by decide +kernel
theorem dX4_code_6 : decode cX4_code 6 = .ok (.getfield 86, 3) := by decide +kernel
theorem dX4_code_9 : decode cX4_code 9 = .ok (.imul, 1) := by decide +kernel
theorem dX4_code_10 : decode cX4_code 10 = .ok (.iaload, 1) := by decide +kernel
theorem dX4_code_11 : decode cX4_code 11 = .ok (.ireturn, 1) := by decide +kernel
theorem dX4_registerB_0 : decode cX4_registerB 0 = .ok (.aload_n 0, 1) := by decide +kernel
theorem dX4_registerB_1 : decode cX4_registerB 1 = .ok (.getfield 9, 3) := by decide +kernel
theorem dX4_registerB_4 : decode cX4_registerB 4 = .ok (.iconst 4, 1) := by decide +kernel
theorem dX4_registerB_5 : decode cX4_registerB 5 = .ok (.aload_n 0, 1) := by decide +kernel
theorem dX4_registerB_6 : decode cX4_registerB 6 = .ok (.getfield 86, 3) := by decide +kernel
theorem dX4_registerB_9 : decode cX4_registerB 9 = .ok (.imul, 1) := by decide +kernel
theorem dX4_registerB_10 : decode cX4_registerB 10 = .ok (.iconst 3, 1) := by decide +kernel
theorem dX4_registerB_11 : decode cX4_registerB 11 = .ok (.iadd, 1) := by decide +kernel
theorem dX4_registerB_12 : decode cX4_registerB 12 = .ok (.iaload, 1) := by decide +kernel
theorem dX4_registerB_13 : decode cX4_registerB 13 = .ok (.bipush 16, 2) := by decide +kernel
theorem dX4_registerB_15 : decode cX4_registerB 15 = .ok (.irem, 1) := by decide +kernel
theorem dX4_registerB_16 : decode cX4_registerB 16 = .ok (.istore_n 1, 1) := by decide +kernel
theorem dX4_registerB_17 : decode cX4_registerB 17 = .ok (.iload_n 1, 1) := by decide +kernel
theorem dX4_registerB_18 : decode cX4_registerB 18 = .ok (.ifCond .ge 10, 3) := by decide +kernel
theorem dX4_registerB_21 : decode cX4_registerB 21 = .ok (.iload_n 1, 1) := by decide +kernel
theorem dX4_registerB_22 : decode cX4_registerB 22 = .ok (.bipush 16, 2) := by decide +kernel
theorem dX4_registerB_24 : decode cX4_registerB 24 = .ok (.iadd, 1) := by decide +kernel
theorem dX4_registerB_25 : decode cX4_registerB 25 = .ok (.goto 4, 3) := by decide +kernel
theorem dX4_registerB_28 : decode cX4_registerB 28 = .ok (.iload_n 1, 1) := by decide +kernel
theorem dX4_registerB_29 : decode cX4_registerB 29 = .ok (.ireturn, 1) := by decide +kernel
theorem dX4_unitWritten_0 : decode cX4_unitWritten 0 = .ok (.aload_n 0, 1) := by decide +kernel
theorem dX4_unitWritten_1 : decode cX4_unitWritten 1 = .ok (.getfield 50, 3) := by decide +kernel
theorem dX4_unitWritten_4 : decode cX4_unitWritten 4 = .ok (.bipush 21, 2) := by decide +kernel
theorem dX4_unitWritten_6 : decode cX4_unitWritten 6 = .ok (.iload_n 1, 1) := by decide +kernel
theorem dX4_unitWritten_7 : decode cX4_unitWritten 7 = .ok (.imul, 1) := by decide +kernel
theorem dX4_unitWritten_8 : decode cX4_unitWritten 8 = .ok (.iconst 5, 1) := by decide +kernel
theorem dX4_unitWritten_9 : decode cX4_unitWritten 9 = .ok (.iadd, 1) := by decide +kernel
theorem dX4_unitWritten_10 : decode cX4_unitWritten 10 = .ok (.iaload, 1) := by decide +kernel
theorem dX4_unitWritten_11 : decode cX4_unitWritten 11 = .ok (.istore_n 2, 1) := by decide +kernel
theorem dX4_unitWritten_12 : decode cX4_unitWritten 12 = .ok (.iconst 1, 1) := by decide +kernel
theorem dX4_unitWritten_13 : decode cX4_unitWritten 13 = .ok (.istore_n 3, 1) := by decide +kernel
theorem dX4_unitWritten_14 : decode cX4_unitWritten 14 = .ok (.iload_n 3, 1) := by decide +kernel
theorem dX4_unitWritten_15 : decode cX4_unitWritten 15 = .ok (.aload_n 0, 1) := by decide +kernel
theorem dX4_unitWritten_16 : decode cX4_unitWritten 16 = .ok (.getfield 13, 3) := by decide +kernel
theorem dX4_unitWritten_19 : decode cX4_unitWritten 19 = .ok (.iload_n 1, 1) := by decide +kernel
theorem dX4_unitWritten_20 : decode cX4_unitWritten 20 = .ok (.iaload, 1) := by decide +kernel
theorem dX4_unitWritten_21 : decode cX4_unitWritten 21 = .ok (.if_icmp .ge 39, 3) := by decide +kernel
theorem dX4_unitWritten_24 : decode cX4_unitWritten 24 = .ok (.aload_n 0, 1) := by decide +kernel
theorem dX4_unitWritten_25 : decode cX4_unitWritten 25 = .ok (.getfield 50, 3) := by decide +kernel
theorem dX4_unitWritten_28 : decode cX4_unitWritten 28 = .ok (.bipush 7, 2) := by decide +kernel
theorem dX4_unitWritten_30 : decode cX4_unitWritten 30 = .ok (.iconst 3, 1) := by decide +kernel
theorem dX4_unitWritten_31 : decode cX4_unitWritten 31 = .ok (.iload_n 1, 1) := by decide +kernel
theorem dX4_unitWritten_32 : decode cX4_unitWritten 32 = .ok (.imul, 1) := by decide +kernel
theorem dX4_unitWritten_33 : decode cX4_unitWritten 33 = .ok (.iload_n 3, 1) := by decide +kernel
theorem dX4_unitWritten_34 : decode cX4_unitWritten 34 = .ok (.iadd, 1) := by decide +kernel
theorem dX4_unitWritten_35 : decode cX4_unitWritten 35 = .ok (.imul, 1) := by decide +kernel
theorem dX4_unitWritten_36 : decode cX4_unitWritten 36 = .ok (.iconst 5, 1) := by decide +kernel
theorem dX4_unitWritten_37 : decode cX4_unitWritten 37 = .ok (.iadd, 1) := by decide +kernel
theorem dX4_unitWritten_38 : decode cX4_unitWritten 38 = .ok (.iaload, 1) := by decide +kernel
theorem dX4_unitWritten_39 : decode cX4_unitWritten 39 = .ok (.istore 4, 2) := by decide +kernel
theorem dX4_unitWritten_41 : decode cX4_unitWritten 41 = .ok (.iload 4, 2) := by decide +kernel
theorem dX4_unitWritten_43 : decode cX4_unitWritten 43 = .ok (.iload_n 2, 1) := by decide +kernel
theorem dX4_unitWritten_44 : decode cX4_unitWritten 44 = .ok (.if_icmp .ge 8, 3) := by decide +kernel
theorem dX4_unitWritten_47 : decode cX4_unitWritten 47 = .ok (.iload 4, 2) := by decide +kernel
theorem dX4_unitWritten_49 : decode cX4_unitWritten 49 = .ok (.goto 4, 3) := by decide +kernel
theorem dX4_unitWritten_52 : decode cX4_unitWritten 52 = .ok (.iload_n 2, 1) := by decide +kernel
theorem dX4_unitWritten_53 : decode cX4_unitWritten 53 = .ok (.istore_n 2, 1) := by decide +kernel
theorem dX4_unitWritten_54 : decode cX4_unitWritten 54 = .ok (.iinc 3 1, 3) := by decide +kernel
theorem dX4_unitWritten_57 : decode cX4_unitWritten 57 = .ok (.goto (-43), 3) := by decide +kernel
theorem dX4_unitWritten_60 : decode cX4_unitWritten 60 = .ok (.iload_n 2, 1) := by decide +kernel
theorem dX4_unitWritten_61 : decode cX4_unitWritten 61 = .ok (.ireturn, 1) := by decide +kernel
theorem dX4_begins_0 : decode cX4_begins 0 = .ok (.aload_n 0, 1) := by decide +kernel
theorem dX4_begins_1 : decode cX4_begins 1 = .ok (.getfield 83, 3) := by decide +kernel
theorem dX4_begins_4 : decode cX4_begins 4 = .ok (.ifCond .ne 5, 3) := by decide +kernel
theorem dX4_begins_7 : decode cX4_begins 7 = .ok (.iconst 1, 1) := by decide +kernel
theorem dX4_begins_8 : decode cX4_begins 8 = .ok (.ireturn, 1) := by decide +kernel
theorem dX4_begins_9 : decode cX4_begins 9 = .ok (.aload_n 0, 1) := by decide +kernel
theorem dX4_begins_10 : decode cX4_begins 10 = .ok (.getfield 92, 3) := by decide +kernel
theorem dX4_begins_13 : decode cX4_begins 13 = .ok (.aload_n 0, 1) := by decide +kernel
theorem dX4_begins_14 : decode cX4_begins 14 = .ok (.getfield 70, 3) := by decide +kernel
theorem dX4_begins_17 : decode cX4_begins 17 = .ok (.if_icmp .ge 10, 3) := by decide +kernel
theorem dX4_begins_20 : decode cX4_begins 20 = .ok (.aload_n 0, 1) := by decide +kernel
theorem dX4_begins_21 : decode cX4_begins 21 = .ok (.getfield 89, 3) := by decide +kernel
theorem dX4_begins_24 : decode cX4_begins 24 = .ok (.goto 9, 3) := by decide +kernel
theorem dX4_begins_27 : decode cX4_begins 27 = .ok (.aload_n 0, 1) := by decide +kernel
theorem dX4_begins_28 : decode cX4_begins 28 = .ok (.getfield 89, 3) := by decide +kernel
theorem dX4_begins_31 : decode cX4_begins 31 = .ok (.iconst 1, 1) := by decide +kernel
theorem dX4_begins_32 : decode cX4_begins 32 = .ok (.iadd, 1) := by decide +kernel
theorem dX4_begins_33 : decode cX4_begins 33 = .ok (.ireturn, 1) := by decide +kernel
theorem dX4_sameWritten_0 : decode cX4_sameWritten 0 = .ok (.aload_n 0, 1) := by decide +kernel
theorem dX4_sameWritten_1 : decode cX4_sameWritten 1 = .ok (.invokevirtual 101, 3) := by decide +kernel
theorem dX4_sameWritten_4 : decode cX4_sameWritten 4 = .ok (.invokestatic 105, 3) := by decide +kernel
theorem dX4_sameWritten_7 : decode cX4_sameWritten 7 = .ok (.ifCond .eq 24, 3) := by decide +kernel
theorem dX4_sameWritten_10 : decode cX4_sameWritten 10 = .ok (.aload_n 0, 1) := by decide +kernel
theorem dX4_sameWritten_11 : decode cX4_sameWritten 11 = .ok (.getfield 41, 3) := by decide +kernel
theorem dX4_sameWritten_14 : decode cX4_sameWritten 14 = .ok (.aload_n 0, 1) := by decide +kernel
theorem dX4_sameWritten_15 : decode cX4_sameWritten 15 = .ok (.getfield 9, 3) := by decide +kernel
theorem dX4_sameWritten_18 : decode cX4_sameWritten 18 = .ok (.iconst 4, 1) := by decide +kernel
theorem dX4_sameWritten_19 : decode cX4_sameWritten 19 = .ok (.aload_n 0, 1) := by decide +kernel
theorem dX4_sameWritten_20 : decode cX4_sameWritten 20 = .ok (.getfield 86, 3) := by decide +kernel
theorem dX4_sameWritten_23 : decode cX4_sameWritten 23 = .ok (.imul, 1) := by decide +kernel
theorem dX4_sameWritten_24 : decode cX4_sameWritten 24 = .ok (.iconst 1, 1) := by decide +kernel
theorem dX4_sameWritten_25 : decode cX4_sameWritten 25 = .ok (.iadd, 1) := by decide +kernel
theorem dX4_sameWritten_26 : decode cX4_sameWritten 26 = .ok (.iaload, 1) := by decide +kernel
theorem dX4_sameWritten_27 : decode cX4_sameWritten 27 = .ok (.iaload, 1) := by decide +kernel
theorem dX4_sameWritten_28 : decode cX4_sameWritten 28 = .ok (.goto 4, 3) := by decide +kernel
theorem dX4_sameWritten_31 : decode cX4_sameWritten 31 = .ok (.iconst 0, 1) := by decide +kernel
theorem dX4_sameWritten_32 : decode cX4_sameWritten 32 = .ok (.ireturn, 1) := by decide +kernel
theorem dX4_greater_0 : decode cX4_greater 0 = .ok (.iload_n 0, 1) := by decide +kernel
theorem dX4_greater_1 : decode cX4_greater 1 = .ok (.iload_n 1, 1) := by decide +kernel
theorem dX4_greater_2 : decode cX4_greater 2 = .ok (.if_icmp .le 7, 3) := by decide +kernel
theorem dX4_greater_5 : decode cX4_greater 5 = .ok (.iload_n 0, 1) := by decide +kernel
theorem dX4_greater_6 : decode cX4_greater 6 = .ok (.goto 4, 3) := by decide +kernel
theorem dX4_greater_9 : decode cX4_greater 9 = .ok (.iload_n 1, 1) := by decide +kernel
theorem dX4_greater_10 : decode cX4_greater 10 = .ok (.ireturn, 1) := by decide +kernel
theorem dX4_issues_0 : decode cX4_issues 0 = .ok (.aload_n 0, 1) := by decide +kernel
theorem dX4_issues_1 : decode cX4_issues 1 = .ok (.invokevirtual 109, 3) := by decide +kernel
theorem dX4_issues_4 : decode cX4_issues 4 = .ok (.aload_n 0, 1) := by decide +kernel
theorem dX4_issues_5 : decode cX4_issues 5 = .ok (.getfield 95, 3) := by decide +kernel
theorem dX4_issues_8 : decode cX4_issues 8 = .ok (.iconst 1, 1) := by decide +kernel
theorem dX4_issues_9 : decode cX4_issues 9 = .ok (.iadd, 1) := by decide +kernel
theorem dX4_issues_10 : decode cX4_issues 10 = .ok (.invokestatic 112, 3) := by decide +kernel
theorem dX4_issues_13 : decode cX4_issues 13 = .ok (.istore_n 1, 1) := by decide +kernel
theorem dX4_issues_14 : decode cX4_issues 14 = .ok (.iload_n 1, 1) := by decide +kernel
theorem dX4_issues_15 : decode cX4_issues 15 = .ok (.aload_n 0, 1) := by decide +kernel
theorem dX4_issues_16 : decode cX4_issues 16 = .ok (.aload_n 0, 1) := by decide +kernel
theorem dX4_issues_17 : decode cX4_issues 17 = .ok (.invokevirtual 101, 3) := by decide +kernel
theorem dX4_issues_20 : decode cX4_issues 20 = .ok (.invokestatic 116, 3) := by decide +kernel
theorem dX4_issues_23 : decode cX4_issues 23 = .ok (.invokevirtual 120, 3) := by decide +kernel
theorem dX4_issues_26 : decode cX4_issues 26 = .ok (.iconst 1, 1) := by decide +kernel
theorem dX4_issues_27 : decode cX4_issues 27 = .ok (.iadd, 1) := by decide +kernel
theorem dX4_issues_28 : decode cX4_issues 28 = .ok (.invokestatic 112, 3) := by decide +kernel
theorem dX4_issues_31 : decode cX4_issues 31 = .ok (.istore_n 1, 1) := by decide +kernel
theorem dX4_issues_32 : decode cX4_issues 32 = .ok (.iload_n 1, 1) := by decide +kernel
theorem dX4_issues_33 : decode cX4_issues 33 = .ok (.aload_n 0, 1) := by decide +kernel
theorem dX4_issues_34 : decode cX4_issues 34 = .ok (.invokevirtual 123, 3) := by decide +kernel
theorem dX4_issues_37 : decode cX4_issues 37 = .ok (.iconst 1, 1) := by decide +kernel
theorem dX4_issues_38 : decode cX4_issues 38 = .ok (.iadd, 1) := by decide +kernel
theorem dX4_issues_39 : decode cX4_issues 39 = .ok (.invokestatic 112, 3) := by decide +kernel
theorem dX4_issues_42 : decode cX4_issues 42 = .ok (.ireturn, 1) := by decide +kernel
theorem dX4_waited_0 : decode cX4_waited 0 = .ok (.aload_n 0, 1) := by decide +kernel
theorem dX4_waited_1 : decode cX4_waited 1 = .ok (.invokevirtual 109, 3) := by decide +kernel
theorem dX4_waited_4 : decode cX4_waited 4 = .ok (.istore_n 3, 1) := by decide +kernel
theorem dX4_waited_5 : decode cX4_waited 5 = .ok (.aload_n 0, 1) := by decide +kernel
theorem dX4_waited_6 : decode cX4_waited 6 = .ok (.getfield 95, 3) := by decide +kernel
theorem dX4_waited_9 : decode cX4_waited 9 = .ok (.istore 4, 2) := by decide +kernel
theorem dX4_waited_11 : decode cX4_waited 11 = .ok (.iload 4, 2) := by decide +kernel
theorem dX4_waited_13 : decode cX4_waited 13 = .ok (.aload_n 0, 1) := by decide +kernel
theorem dX4_waited_14 : decode cX4_waited 14 = .ok (.aload_n 0, 1) := by decide +kernel
theorem dX4_waited_15 : decode cX4_waited 15 = .ok (.invokevirtual 101, 3) := by decide +kernel
theorem dX4_waited_18 : decode cX4_waited 18 = .ok (.invokestatic 116, 3) := by decide +kernel
theorem dX4_waited_21 : decode cX4_waited 21 = .ok (.invokevirtual 120, 3) := by decide +kernel
theorem dX4_waited_24 : decode cX4_waited 24 = .ok (.invokestatic 112, 3) := by decide +kernel
theorem dX4_waited_27 : decode cX4_waited 27 = .ok (.istore 5, 2) := by decide +kernel
theorem dX4_waited_29 : decode cX4_waited 29 = .ok (.iload 5, 2) := by decide +kernel
theorem dX4_waited_31 : decode cX4_waited 31 = .ok (.aload_n 0, 1) := by decide +kernel
theorem dX4_waited_32 : decode cX4_waited 32 = .ok (.invokevirtual 123, 3) := by decide +kernel
theorem dX4_waited_35 : decode cX4_waited 35 = .ok (.invokestatic 112, 3) := by decide +kernel
theorem dX4_waited_38 : decode cX4_waited 38 = .ok (.istore 6, 2) := by decide +kernel
theorem dX4_waited_40 : decode cX4_waited 40 = .ok (.iload_n 1, 1) := by decide +kernel
theorem dX4_waited_41 : decode cX4_waited 41 = .ok (.ifCond .ne 9, 3) := by decide +kernel
theorem dX4_waited_44 : decode cX4_waited 44 = .ok (.iload_n 3, 1) := by decide +kernel
theorem dX4_waited_45 : decode cX4_waited 45 = .ok (.iconst 1, 1) := by decide +kernel
theorem dX4_waited_46 : decode cX4_waited 46 = .ok (.isub, 1) := by decide +kernel
theorem dX4_waited_47 : decode cX4_waited 47 = .ok (.goto 15, 3) := by decide +kernel
theorem dX4_waited_50 : decode cX4_waited 50 = .ok (.iload_n 1, 1) := by decide +kernel
theorem dX4_waited_51 : decode cX4_waited 51 = .ok (.iconst 1, 1) := by decide +kernel
theorem dX4_waited_52 : decode cX4_waited 52 = .ok (.if_icmp .ne 8, 3) := by decide +kernel
theorem dX4_waited_55 : decode cX4_waited 55 = .ok (.iload 4, 2) := by decide +kernel
theorem dX4_waited_57 : decode cX4_waited 57 = .ok (.goto 5, 3) := by decide +kernel
theorem dX4_waited_60 : decode cX4_waited 60 = .ok (.iload 5, 2) := by decide +kernel
theorem dX4_waited_62 : decode cX4_waited 62 = .ok (.istore 7, 2) := by decide +kernel
theorem dX4_waited_64 : decode cX4_waited 64 = .ok (.iload_n 1, 1) := by decide +kernel
theorem dX4_waited_65 : decode cX4_waited 65 = .ok (.ifCond .ne 8, 3) := by decide +kernel
theorem dX4_waited_68 : decode cX4_waited 68 = .ok (.iload 4, 2) := by decide +kernel
theorem dX4_waited_70 : decode cX4_waited 70 = .ok (.goto 15, 3) := by decide +kernel
theorem dX4_waited_73 : decode cX4_waited 73 = .ok (.iload_n 1, 1) := by decide +kernel
theorem dX4_waited_74 : decode cX4_waited 74 = .ok (.iconst 1, 1) := by decide +kernel
theorem dX4_waited_75 : decode cX4_waited 75 = .ok (.if_icmp .ne 8, 3) := by decide +kernel
theorem dX4_waited_78 : decode cX4_waited 78 = .ok (.iload 5, 2) := by decide +kernel
theorem dX4_waited_80 : decode cX4_waited 80 = .ok (.goto 5, 3) := by decide +kernel
theorem dX4_waited_83 : decode cX4_waited 83 = .ok (.iload 6, 2) := by decide +kernel
theorem dX4_waited_85 : decode cX4_waited 85 = .ok (.istore 8, 2) := by decide +kernel
theorem dX4_waited_87 : decode cX4_waited 87 = .ok (.iload 7, 2) := by decide +kernel
theorem dX4_waited_89 : decode cX4_waited 89 = .ok (.iload_n 3, 1) := by decide +kernel
theorem dX4_waited_90 : decode cX4_waited 90 = .ok (.iconst 1, 1) := by decide +kernel
theorem dX4_waited_91 : decode cX4_waited 91 = .ok (.isub, 1) := by decide +kernel
theorem dX4_waited_92 : decode cX4_waited 92 = .ok (.invokestatic 112, 3) := by decide +kernel
theorem dX4_waited_95 : decode cX4_waited 95 = .ok (.istore 7, 2) := by decide +kernel
theorem dX4_waited_97 : decode cX4_waited 97 = .ok (.iload 8, 2) := by decide +kernel
theorem dX4_waited_99 : decode cX4_waited 99 = .ok (.iload_n 2, 1) := by decide +kernel
theorem dX4_waited_100 : decode cX4_waited 100 = .ok (.if_icmp .ge 8, 3) := by decide +kernel
theorem dX4_waited_103 : decode cX4_waited 103 = .ok (.iload 8, 2) := by decide +kernel
theorem dX4_waited_105 : decode cX4_waited 105 = .ok (.goto 4, 3) := by decide +kernel
theorem dX4_waited_108 : decode cX4_waited 108 = .ok (.iload_n 2, 1) := by decide +kernel
theorem dX4_waited_109 : decode cX4_waited 109 = .ok (.istore 8, 2) := by decide +kernel
theorem dX4_waited_111 : decode cX4_waited 111 = .ok (.iload 8, 2) := by decide +kernel
theorem dX4_waited_113 : decode cX4_waited 113 = .ok (.iload 7, 2) := by decide +kernel
theorem dX4_waited_115 : decode cX4_waited 115 = .ok (.if_icmp .le 11, 3) := by decide +kernel
theorem dX4_waited_118 : decode cX4_waited 118 = .ok (.iload 8, 2) := by decide +kernel
theorem dX4_waited_120 : decode cX4_waited 120 = .ok (.iload 7, 2) := by decide +kernel
theorem dX4_waited_122 : decode cX4_waited 122 = .ok (.isub, 1) := by decide +kernel
theorem dX4_waited_123 : decode cX4_waited 123 = .ok (.goto 4, 3) := by decide +kernel
theorem dX4_waited_126 : decode cX4_waited 126 = .ok (.iconst 0, 1) := by decide +kernel
theorem dX4_waited_127 : decode cX4_waited 127 = .ok (.ireturn, 1) := by decide +kernel
theorem dX4_does_0 : decode cX4_does 0 = .ok (.iconst 4, 1) := by decide +kernel
theorem dX4_does_1 : decode cX4_does 1 = .ok (.aload_n 0, 1) := by decide +kernel
theorem dX4_does_2 : decode cX4_does 2 = .ok (.getfield 86, 3) := by decide +kernel
theorem dX4_does_5 : decode cX4_does 5 = .ok (.imul, 1) := by decide +kernel
theorem dX4_does_6 : decode cX4_does 6 = .ok (.istore_n 1, 1) := by decide +kernel
theorem dX4_does_7 : decode cX4_does 7 = .ok (.aload_n 0, 1) := by decide +kernel
theorem dX4_does_8 : decode cX4_does 8 = .ok (.getfield 26, 3) := by decide +kernel
theorem dX4_does_11 : decode cX4_does 11 = .ok (.aload_n 0, 1) := by decide +kernel
theorem dX4_does_12 : decode cX4_does 12 = .ok (.getfield 9, 3) := by decide +kernel
theorem dX4_does_15 : decode cX4_does 15 = .ok (.iload_n 1, 1) := by decide +kernel
theorem dX4_does_16 : decode cX4_does 16 = .ok (.iconst 1, 1) := by decide +kernel
theorem dX4_does_17 : decode cX4_does 17 = .ok (.iadd, 1) := by decide +kernel
theorem dX4_does_18 : decode cX4_does 18 = .ok (.iaload, 1) := by decide +kernel
theorem dX4_does_19 : decode cX4_does 19 = .ok (.laload, 1) := by decide +kernel
theorem dX4_does_20 : decode cX4_does 20 = .ok (.lstore_n 2, 1) := by decide +kernel
theorem dX4_does_21 : decode cX4_does 21 = .ok (.aload_n 0, 1) := by decide +kernel
theorem dX4_does_22 : decode cX4_does 22 = .ok (.getfield 26, 3) := by decide +kernel
theorem dX4_does_25 : decode cX4_does 25 = .ok (.aload_n 0, 1) := by decide +kernel
theorem dX4_does_26 : decode cX4_does 26 = .ok (.getfield 9, 3) := by decide +kernel
theorem dX4_does_29 : decode cX4_does 29 = .ok (.iload_n 1, 1) := by decide +kernel
theorem dX4_does_30 : decode cX4_does 30 = .ok (.iconst 2, 1) := by decide +kernel
theorem dX4_does_31 : decode cX4_does 31 = .ok (.iadd, 1) := by decide +kernel
theorem dX4_does_32 : decode cX4_does 32 = .ok (.iaload, 1) := by decide +kernel
theorem dX4_does_33 : decode cX4_does 33 = .ok (.laload, 1) := by decide +kernel
theorem dX4_does_34 : decode cX4_does 34 = .ok (.lstore 4, 2) := by decide +kernel
theorem dX4_does_36 : decode cX4_does 36 = .ok (.aload_n 0, 1) := by decide +kernel
theorem dX4_does_37 : decode cX4_does 37 = .ok (.getfield 26, 3) := by decide +kernel
theorem dX4_does_40 : decode cX4_does 40 = .ok (.aload_n 0, 1) := by decide +kernel
theorem dX4_does_41 : decode cX4_does 41 = .ok (.invokevirtual 126, 3) := by decide +kernel
theorem dX4_does_44 : decode cX4_does 44 = .ok (.laload, 1) := by decide +kernel
theorem dX4_does_45 : decode cX4_does 45 = .ok (.lstore 6, 2) := by decide +kernel
theorem dX4_does_47 : decode cX4_does 47 = .ok (.aload_n 0, 1) := by decide +kernel
theorem dX4_does_48 : decode cX4_does 48 = .ok (.getfield 9, 3) := by decide +kernel
theorem dX4_does_51 : decode cX4_does 51 = .ok (.iload_n 1, 1) := by decide +kernel
theorem dX4_does_52 : decode cX4_does 52 = .ok (.iconst 3, 1) := by decide +kernel
theorem dX4_does_53 : decode cX4_does 53 = .ok (.iadd, 1) := by decide +kernel
theorem dX4_does_54 : decode cX4_does 54 = .ok (.iaload, 1) := by decide +kernel
theorem dX4_does_55 : decode cX4_does 55 = .ok (.i2l, 1) := by decide +kernel
theorem dX4_does_56 : decode cX4_does 56 = .ok (.lstore 8, 2) := by decide +kernel
theorem dX4_does_58 : decode cX4_does 58 = .ok (.aload_n 0, 1) := by decide +kernel
theorem dX4_does_59 : decode cX4_does 59 = .ok (.getfield 86, 3) := by decide +kernel
theorem dX4_does_62 : decode cX4_does 62 = .ok (.iconst 1, 1) := by decide +kernel
theorem dX4_does_63 : decode cX4_does 63 = .ok (.iadd, 1) := by decide +kernel
theorem dX4_does_64 : decode cX4_does 64 = .ok (.sipush 256, 3) := by decide +kernel
theorem dX4_does_67 : decode cX4_does 67 = .ok (.irem, 1) := by decide +kernel
theorem dX4_does_68 : decode cX4_does 68 = .ok (.istore 10, 2) := by decide +kernel
theorem dX4_does_70 : decode cX4_does 70 = .ok (.aload_n 0, 1) := by decide +kernel
theorem dX4_does_71 : decode cX4_does 71 = .ok (.getfield 9, 3) := by decide +kernel
theorem dX4_does_74 : decode cX4_does 74 = .ok (.iload_n 1, 1) := by decide +kernel
theorem dX4_does_75 : decode cX4_does 75 = .ok (.iaload, 1) := by decide +kernel
theorem dX4_does_76 : decode cX4_does 76 = .ok (.istore 11, 2) := by decide +kernel
theorem dX4_does_78 : decode cX4_does 78 = .ok (.lconst 0, 1) := by decide +kernel
theorem dX4_does_79 : decode cX4_does 79 = .ok (.lstore 12, 2) := by decide +kernel
theorem dX4_does_81 : decode cX4_does 81 = .ok (.iload 11, 2) := by decide +kernel
theorem dX4_does_83 : decode cX4_does 83 = .ok (.tableswitch 263 1 15 #[73, 83, 93, 103, 113, 123, 130, 140, 155, 170, 185, 195, 216, 237, 257], 73) := by decide +kernel
theorem dX4_does_156 : decode cX4_does 156 = .ok (.lload 4, 2) := by decide +kernel
theorem dX4_does_158 : decode cX4_does 158 = .ok (.lload 6, 2) := by decide +kernel
theorem dX4_does_160 : decode cX4_does 160 = .ok (.ladd, 1) := by decide +kernel
theorem dX4_does_161 : decode cX4_does 161 = .ok (.lstore 12, 2) := by decide +kernel
theorem dX4_does_163 : decode cX4_does 163 = .ok (.goto 227, 3) := by decide +kernel
theorem dX4_does_166 : decode cX4_does 166 = .ok (.lload 4, 2) := by decide +kernel
theorem dX4_does_168 : decode cX4_does 168 = .ok (.lload 6, 2) := by decide +kernel
theorem dX4_does_170 : decode cX4_does 170 = .ok (.lsub, 1) := by decide +kernel
theorem dX4_does_171 : decode cX4_does 171 = .ok (.lstore 12, 2) := by decide +kernel
theorem dX4_does_173 : decode cX4_does 173 = .ok (.goto 217, 3) := by decide +kernel
theorem dX4_does_176 : decode cX4_does 176 = .ok (.lload 4, 2) := by decide +kernel
theorem dX4_does_178 : decode cX4_does 178 = .ok (.lload 6, 2) := by decide +kernel
theorem dX4_does_180 : decode cX4_does 180 = .ok (.land, 1) := by decide +kernel
theorem dX4_does_181 : decode cX4_does 181 = .ok (.lstore 12, 2) := by decide +kernel
theorem dX4_does_183 : decode cX4_does 183 = .ok (.goto 207, 3) := by decide +kernel
theorem dX4_does_186 : decode cX4_does 186 = .ok (.lload 4, 2) := by decide +kernel
theorem dX4_does_188 : decode cX4_does 188 = .ok (.lload 6, 2) := by decide +kernel
theorem dX4_does_190 : decode cX4_does 190 = .ok (.lor, 1) := by decide +kernel
theorem dX4_does_191 : decode cX4_does 191 = .ok (.lstore 12, 2) := by decide +kernel
theorem dX4_does_193 : decode cX4_does 193 = .ok (.goto 197, 3) := by decide +kernel
theorem dX4_does_196 : decode cX4_does 196 = .ok (.lload 4, 2) := by decide +kernel
theorem dX4_does_198 : decode cX4_does 198 = .ok (.lload 6, 2) := by decide +kernel
theorem dX4_does_200 : decode cX4_does 200 = .ok (.lxor, 1) := by decide +kernel
theorem dX4_does_201 : decode cX4_does 201 = .ok (.lstore 12, 2) := by decide +kernel
theorem dX4_does_203 : decode cX4_does 203 = .ok (.goto 187, 3) := by decide +kernel
theorem dX4_does_206 : decode cX4_does 206 = .ok (.lload 8, 2) := by decide +kernel
theorem dX4_does_208 : decode cX4_does 208 = .ok (.lstore 12, 2) := by decide +kernel
theorem dX4_does_210 : decode cX4_does 210 = .ok (.goto 180, 3) := by decide +kernel
theorem dX4_does_213 : decode cX4_does 213 = .ok (.lload 4, 2) := by decide +kernel
theorem dX4_does_215 : decode cX4_does 215 = .ok (.lload 8, 2) := by decide +kernel
theorem dX4_does_217 : decode cX4_does 217 = .ok (.ladd, 1) := by decide +kernel
theorem dX4_does_218 : decode cX4_does 218 = .ok (.lstore 12, 2) := by decide +kernel
theorem dX4_does_220 : decode cX4_does 220 = .ok (.goto 170, 3) := by decide +kernel
theorem dX4_does_223 : decode cX4_does 223 = .ok (.lload 4, 2) := by decide +kernel
theorem dX4_does_225 : decode cX4_does 225 = .ok (.lload 6, 2) := by decide +kernel
theorem dX4_does_227 : decode cX4_does 227 = .ok (.ldc2_w 129, 3) := by decide +kernel
theorem dX4_does_230 : decode cX4_does 230 = .ok (.land, 1) := by decide +kernel
theorem dX4_does_231 : decode cX4_does 231 = .ok (.l2i, 1) := by decide +kernel
theorem dX4_does_232 : decode cX4_does 232 = .ok (.lshl, 1) := by decide +kernel
theorem dX4_does_233 : decode cX4_does 233 = .ok (.lstore 12, 2) := by decide +kernel
theorem dX4_does_235 : decode cX4_does 235 = .ok (.goto 155, 3) := by decide +kernel
theorem dX4_does_238 : decode cX4_does 238 = .ok (.lload 4, 2) := by decide +kernel
theorem dX4_does_240 : decode cX4_does 240 = .ok (.lload 6, 2) := by decide +kernel
theorem dX4_does_242 : decode cX4_does 242 = .ok (.ldc2_w 129, 3) := by decide +kernel
theorem dX4_does_245 : decode cX4_does 245 = .ok (.land, 1) := by decide +kernel
theorem dX4_does_246 : decode cX4_does 246 = .ok (.l2i, 1) := by decide +kernel
theorem dX4_does_247 : decode cX4_does 247 = .ok (.lshr, 1) := by decide +kernel
theorem dX4_does_248 : decode cX4_does 248 = .ok (.lstore 12, 2) := by decide +kernel
theorem dX4_does_250 : decode cX4_does 250 = .ok (.goto 140, 3) := by decide +kernel
theorem dX4_does_253 : decode cX4_does 253 = .ok (.lload 4, 2) := by decide +kernel
theorem dX4_does_255 : decode cX4_does 255 = .ok (.lload 6, 2) := by decide +kernel
theorem dX4_does_257 : decode cX4_does 257 = .ok (.ldc2_w 129, 3) := by decide +kernel
theorem dX4_does_260 : decode cX4_does 260 = .ok (.land, 1) := by decide +kernel
theorem dX4_does_261 : decode cX4_does 261 = .ok (.l2i, 1) := by decide +kernel
theorem dX4_does_262 : decode cX4_does 262 = .ok (.lushr, 1) := by decide +kernel
theorem dX4_does_263 : decode cX4_does 263 = .ok (.lstore 12, 2) := by decide +kernel
theorem dX4_does_265 : decode cX4_does 265 = .ok (.goto 125, 3) := by decide +kernel
theorem dX4_does_268 : decode cX4_does 268 = .ok (.lload 4, 2) := by decide +kernel
theorem dX4_does_270 : decode cX4_does 270 = .ok (.lload 6, 2) := by decide +kernel
theorem dX4_does_272 : decode cX4_does 272 = .ok (.lmul, 1) := by decide +kernel
theorem dX4_does_273 : decode cX4_does 273 = .ok (.lstore 12, 2) := by decide +kernel
theorem dX4_does_275 : decode cX4_does 275 = .ok (.goto 115, 3) := by decide +kernel
theorem dX4_does_278 : decode cX4_does 278 = .ok (.lload 6, 2) := by decide +kernel
theorem dX4_does_280 : decode cX4_does 280 = .ok (.lconst 0, 1) := by decide +kernel
theorem dX4_does_281 : decode cX4_does 281 = .ok (.lcmp, 1) := by decide +kernel
theorem dX4_does_282 : decode cX4_does 282 = .ok (.ifCond .ne 7, 3) := by decide +kernel
theorem dX4_does_285 : decode cX4_does 285 = .ok (.lconst 0, 1) := by decide +kernel
theorem dX4_does_286 : decode cX4_does 286 = .ok (.goto 8, 3) := by decide +kernel
theorem dX4_does_289 : decode cX4_does 289 = .ok (.lload 4, 2) := by decide +kernel
theorem dX4_does_291 : decode cX4_does 291 = .ok (.lload 6, 2) := by decide +kernel
theorem dX4_does_293 : decode cX4_does 293 = .ok (.ldiv, 1) := by decide +kernel
theorem dX4_does_294 : decode cX4_does 294 = .ok (.lstore 12, 2) := by decide +kernel
theorem dX4_does_296 : decode cX4_does 296 = .ok (.goto 94, 3) := by decide +kernel
theorem dX4_does_299 : decode cX4_does 299 = .ok (.lload 6, 2) := by decide +kernel
theorem dX4_does_301 : decode cX4_does 301 = .ok (.lconst 0, 1) := by decide +kernel
theorem dX4_does_302 : decode cX4_does 302 = .ok (.lcmp, 1) := by decide +kernel
theorem dX4_does_303 : decode cX4_does 303 = .ok (.ifCond .ne 7, 3) := by decide +kernel
theorem dX4_does_306 : decode cX4_does 306 = .ok (.lconst 0, 1) := by decide +kernel
theorem dX4_does_307 : decode cX4_does 307 = .ok (.goto 8, 3) := by decide +kernel
theorem dX4_does_310 : decode cX4_does 310 = .ok (.lload 4, 2) := by decide +kernel
theorem dX4_does_312 : decode cX4_does 312 = .ok (.lload 6, 2) := by decide +kernel
theorem dX4_does_314 : decode cX4_does 314 = .ok (.lrem, 1) := by decide +kernel
theorem dX4_does_315 : decode cX4_does 315 = .ok (.lstore 12, 2) := by decide +kernel
theorem dX4_does_317 : decode cX4_does 317 = .ok (.goto 73, 3) := by decide +kernel
theorem dX4_does_320 : decode cX4_does 320 = .ok (.aload_n 0, 1) := by decide +kernel
theorem dX4_does_321 : decode cX4_does 321 = .ok (.getfield 29, 3) := by decide +kernel
theorem dX4_does_324 : decode cX4_does 324 = .ok (.lload 4, 2) := by decide +kernel
theorem dX4_does_326 : decode cX4_does 326 = .ok (.lload 8, 2) := by decide +kernel
theorem dX4_does_328 : decode cX4_does 328 = .ok (.ladd, 1) := by decide +kernel
theorem dX4_does_329 : decode cX4_does 329 = .ok (.ldc2_w 131, 3) := by decide +kernel
theorem dX4_does_332 : decode cX4_does 332 = .ok (.land, 1) := by decide +kernel
theorem dX4_does_333 : decode cX4_does 333 = .ok (.l2i, 1) := by decide +kernel
theorem dX4_does_334 : decode cX4_does 334 = .ok (.laload, 1) := by decide +kernel
theorem dX4_does_335 : decode cX4_does 335 = .ok (.lstore 12, 2) := by decide +kernel
theorem dX4_does_337 : decode cX4_does 337 = .ok (.goto 53, 3) := by decide +kernel
theorem dX4_does_340 : decode cX4_does 340 = .ok (.lload_n 2, 1) := by decide +kernel
theorem dX4_does_341 : decode cX4_does 341 = .ok (.lstore 12, 2) := by decide +kernel
theorem dX4_does_343 : decode cX4_does 343 = .ok (.goto 47, 3) := by decide +kernel
theorem dX4_does_346 : decode cX4_does 346 = .ok (.iload 11, 2) := by decide +kernel
theorem dX4_does_348 : decode cX4_does 348 = .ok (.bipush 18, 2) := by decide +kernel
theorem dX4_does_350 : decode cX4_does 350 = .ok (.if_icmp .eq 31, 3) := by decide +kernel
theorem dX4_does_353 : decode cX4_does 353 = .ok (.iload 11, 2) := by decide +kernel
theorem dX4_does_355 : decode cX4_does 355 = .ok (.bipush 16, 2) := by decide +kernel
theorem dX4_does_357 : decode cX4_does 357 = .ok (.if_icmp .ne 10, 3) := by decide +kernel
theorem dX4_does_360 : decode cX4_does 360 = .ok (.lload 4, 2) := by decide +kernel
theorem dX4_does_362 : decode cX4_does 362 = .ok (.lconst 0, 1) := by decide +kernel
theorem dX4_does_363 : decode cX4_does 363 = .ok (.lcmp, 1) := by decide +kernel
theorem dX4_does_364 : decode cX4_does 364 = .ok (.ifCond .eq 17, 3) := by decide +kernel
theorem dX4_does_367 : decode cX4_does 367 = .ok (.iload 11, 2) := by decide +kernel
theorem dX4_does_369 : decode cX4_does 369 = .ok (.bipush 17, 2) := by decide +kernel
theorem dX4_does_371 : decode cX4_does 371 = .ok (.if_icmp .ne 19, 3) := by decide +kernel
theorem dX4_does_374 : decode cX4_does 374 = .ok (.lload 4, 2) := by decide +kernel
theorem dX4_does_376 : decode cX4_does 376 = .ok (.lconst 0, 1) := by decide +kernel
theorem dX4_does_377 : decode cX4_does 377 = .ok (.lcmp, 1) := by decide +kernel
theorem dX4_does_378 : decode cX4_does 378 = .ok (.ifCond .ge 12, 3) := by decide +kernel
theorem dX4_does_381 : decode cX4_does 381 = .ok (.lload 8, 2) := by decide +kernel
theorem dX4_does_383 : decode cX4_does 383 = .ok (.ldc2_w 131, 3) := by decide +kernel
theorem dX4_does_386 : decode cX4_does 386 = .ok (.land, 1) := by decide +kernel
theorem dX4_does_387 : decode cX4_does 387 = .ok (.l2i, 1) := by decide +kernel
theorem dX4_does_388 : decode cX4_does 388 = .ok (.istore 10, 2) := by decide +kernel
theorem dX4_does_390 : decode cX4_does 390 = .ok (.aload_n 0, 1) := by decide +kernel
theorem dX4_does_391 : decode cX4_does 391 = .ok (.iload 10, 2) := by decide +kernel
theorem dX4_does_393 : decode cX4_does 393 = .ok (.putfield 86, 3) := by decide +kernel
theorem dX4_does_396 : decode cX4_does 396 = .ok (.lload 12, 2) := by decide +kernel
theorem dX4_does_398 : decode cX4_does 398 = .ok (.lreturn, 1) := by decide +kernel
theorem dX4_issue_0 : decode cX4_issue 0 = .ok (.aload_n 0, 1) := by decide +kernel
theorem dX4_issue_1 : decode cX4_issue 1 = .ok (.invokevirtual 101, 3) := by decide +kernel
theorem dX4_issue_4 : decode cX4_issue 4 = .ok (.istore_n 2, 1) := by decide +kernel
theorem dX4_issue_5 : decode cX4_issue 5 = .ok (.iload_n 2, 1) := by decide +kernel
theorem dX4_issue_6 : decode cX4_issue 6 = .ok (.invokestatic 116, 3) := by decide +kernel
theorem dX4_issue_9 : decode cX4_issue 9 = .ok (.istore_n 3, 1) := by decide +kernel
theorem dX4_issue_10 : decode cX4_issue 10 = .ok (.aload_n 0, 1) := by decide +kernel
theorem dX4_issue_11 : decode cX4_issue 11 = .ok (.getfield 9, 3) := by decide +kernel
theorem dX4_issue_14 : decode cX4_issue 14 = .ok (.iconst 4, 1) := by decide +kernel
theorem dX4_issue_15 : decode cX4_issue 15 = .ok (.aload_n 0, 1) := by decide +kernel
theorem dX4_issue_16 : decode cX4_issue 16 = .ok (.getfield 86, 3) := by decide +kernel
theorem dX4_issue_19 : decode cX4_issue 19 = .ok (.imul, 1) := by decide +kernel
theorem dX4_issue_20 : decode cX4_issue 20 = .ok (.iconst 1, 1) := by decide +kernel
theorem dX4_issue_21 : decode cX4_issue 21 = .ok (.iadd, 1) := by decide +kernel
theorem dX4_issue_22 : decode cX4_issue 22 = .ok (.iaload, 1) := by decide +kernel
theorem dX4_issue_23 : decode cX4_issue 23 = .ok (.istore 4, 2) := by decide +kernel
theorem dX4_issue_25 : decode cX4_issue 25 = .ok (.aload_n 0, 1) := by decide +kernel
theorem dX4_issue_26 : decode cX4_issue 26 = .ok (.getfield 9, 3) := by decide +kernel
theorem dX4_issue_29 : decode cX4_issue 29 = .ok (.iconst 4, 1) := by decide +kernel
theorem dX4_issue_30 : decode cX4_issue 30 = .ok (.aload_n 0, 1) := by decide +kernel
theorem dX4_issue_31 : decode cX4_issue 31 = .ok (.getfield 86, 3) := by decide +kernel
theorem dX4_issue_34 : decode cX4_issue 34 = .ok (.imul, 1) := by decide +kernel
theorem dX4_issue_35 : decode cX4_issue 35 = .ok (.iconst 2, 1) := by decide +kernel
theorem dX4_issue_36 : decode cX4_issue 36 = .ok (.iadd, 1) := by decide +kernel
theorem dX4_issue_37 : decode cX4_issue 37 = .ok (.iaload, 1) := by decide +kernel
theorem dX4_issue_38 : decode cX4_issue 38 = .ok (.istore 5, 2) := by decide +kernel
theorem dX4_issue_40 : decode cX4_issue 40 = .ok (.aload_n 0, 1) := by decide +kernel
theorem dX4_issue_41 : decode cX4_issue 41 = .ok (.invokevirtual 126, 3) := by decide +kernel
theorem dX4_issue_44 : decode cX4_issue 44 = .ok (.istore 6, 2) := by decide +kernel
theorem dX4_issue_46 : decode cX4_issue 46 = .ok (.iconst 0, 1) := by decide +kernel
theorem dX4_issue_47 : decode cX4_issue 47 = .ok (.istore 7, 2) := by decide +kernel
theorem dX4_issue_49 : decode cX4_issue 49 = .ok (.iload 7, 2) := by decide +kernel
theorem dX4_issue_51 : decode cX4_issue 51 = .ok (.iconst 3, 1) := by decide +kernel
theorem dX4_issue_52 : decode cX4_issue 52 = .ok (.if_icmp .ge 28, 3) := by decide +kernel
theorem dX4_issue_55 : decode cX4_issue 55 = .ok (.aload_n 0, 1) := by decide +kernel
theorem dX4_issue_56 : decode cX4_issue 56 = .ok (.getfield 38, 3) := by decide +kernel
theorem dX4_issue_59 : decode cX4_issue 59 = .ok (.iload 7, 2) := by decide +kernel
theorem dX4_issue_61 : decode cX4_issue 61 = .ok (.dup2, 1) := by decide +kernel
theorem dX4_issue_62 : decode cX4_issue 62 = .ok (.iaload, 1) := by decide +kernel
theorem dX4_issue_63 : decode cX4_issue 63 = .ok (.aload_n 0, 1) := by decide +kernel
theorem dX4_issue_64 : decode cX4_issue 64 = .ok (.iload 7, 2) := by decide +kernel
theorem dX4_issue_66 : decode cX4_issue 66 = .ok (.iload_n 1, 1) := by decide +kernel
theorem dX4_issue_67 : decode cX4_issue 67 = .ok (.iconst 1, 1) := by decide +kernel
theorem dX4_issue_68 : decode cX4_issue 68 = .ok (.isub, 1) := by decide +kernel
theorem dX4_issue_69 : decode cX4_issue 69 = .ok (.invokevirtual 133, 3) := by decide +kernel
theorem dX4_issue_72 : decode cX4_issue 72 = .ok (.iadd, 1) := by decide +kernel
theorem dX4_issue_73 : decode cX4_issue 73 = .ok (.iastore, 1) := by decide +kernel
theorem dX4_issue_74 : decode cX4_issue 74 = .ok (.iinc 7 1, 3) := by decide +kernel
theorem dX4_issue_77 : decode cX4_issue 77 = .ok (.goto (-28), 3) := by decide +kernel
theorem dX4_issue_80 : decode cX4_issue 80 = .ok (.iconst 0, 1) := by decide +kernel
theorem dX4_issue_81 : decode cX4_issue 81 = .ok (.istore 7, 2) := by decide +kernel
theorem dX4_issue_83 : decode cX4_issue 83 = .ok (.aload_n 0, 1) := by decide +kernel
theorem dX4_issue_84 : decode cX4_issue 84 = .ok (.getfield 50, 3) := by decide +kernel
theorem dX4_issue_87 : decode cX4_issue 87 = .ok (.bipush 7, 2) := by decide +kernel
theorem dX4_issue_89 : decode cX4_issue 89 = .ok (.iconst 3, 1) := by decide +kernel
theorem dX4_issue_90 : decode cX4_issue 90 = .ok (.iload_n 3, 1) := by decide +kernel
theorem dX4_issue_91 : decode cX4_issue 91 = .ok (.imul, 1) := by decide +kernel
theorem dX4_issue_92 : decode cX4_issue 92 = .ok (.iload 7, 2) := by decide +kernel
theorem dX4_issue_94 : decode cX4_issue 94 = .ok (.iadd, 1) := by decide +kernel
theorem dX4_issue_95 : decode cX4_issue 95 = .ok (.imul, 1) := by decide +kernel
theorem dX4_issue_96 : decode cX4_issue 96 = .ok (.iconst 5, 1) := by decide +kernel
theorem dX4_issue_97 : decode cX4_issue 97 = .ok (.iadd, 1) := by decide +kernel
theorem dX4_issue_98 : decode cX4_issue 98 = .ok (.iaload, 1) := by decide +kernel
theorem dX4_issue_99 : decode cX4_issue 99 = .ok (.iload_n 1, 1) := by decide +kernel
theorem dX4_issue_100 : decode cX4_issue 100 = .ok (.if_icmp .lt 9, 3) := by decide +kernel
theorem dX4_issue_103 : decode cX4_issue 103 = .ok (.iinc 7 1, 3) := by decide +kernel
theorem dX4_issue_106 : decode cX4_issue 106 = .ok (.goto (-23), 3) := by decide +kernel
theorem dX4_issue_109 : decode cX4_issue 109 = .ok (.iload 7, 2) := by decide +kernel
theorem dX4_issue_111 : decode cX4_issue 111 = .ok (.iconst 3, 1) := by decide +kernel
theorem dX4_issue_112 : decode cX4_issue 112 = .ok (.iload_n 3, 1) := by decide +kernel
theorem dX4_issue_113 : decode cX4_issue 113 = .ok (.imul, 1) := by decide +kernel
theorem dX4_issue_114 : decode cX4_issue 114 = .ok (.iadd, 1) := by decide +kernel
theorem dX4_issue_115 : decode cX4_issue 115 = .ok (.istore 7, 2) := by decide +kernel
theorem dX4_issue_117 : decode cX4_issue 117 = .ok (.iconst 0, 1) := by decide +kernel
theorem dX4_issue_118 : decode cX4_issue 118 = .ok (.istore 8, 2) := by decide +kernel
theorem dX4_issue_120 : decode cX4_issue 120 = .ok (.iload 8, 2) := by decide +kernel
theorem dX4_issue_122 : decode cX4_issue 122 = .ok (.bipush 18, 2) := by decide +kernel
theorem dX4_issue_124 : decode cX4_issue 124 = .ok (.if_icmp .ge 41, 3) := by decide +kernel
theorem dX4_issue_127 : decode cX4_issue 127 = .ok (.aload_n 0, 1) := by decide +kernel
theorem dX4_issue_128 : decode cX4_issue 128 = .ok (.getfield 56, 3) := by decide +kernel
theorem dX4_issue_131 : decode cX4_issue 131 = .ok (.iload 8, 2) := by decide +kernel
theorem dX4_issue_133 : decode cX4_issue 133 = .ok (.baload, 1) := by decide +kernel
theorem dX4_issue_134 : decode cX4_issue 134 = .ok (.ifCond .eq 25, 3) := by decide +kernel
theorem dX4_issue_137 : decode cX4_issue 137 = .ok (.aload_n 0, 1) := by decide +kernel
theorem dX4_issue_138 : decode cX4_issue 138 = .ok (.getfield 50, 3) := by decide +kernel
theorem dX4_issue_141 : decode cX4_issue 141 = .ok (.bipush 7, 2) := by decide +kernel
theorem dX4_issue_143 : decode cX4_issue 143 = .ok (.iload 8, 2) := by decide +kernel
theorem dX4_issue_145 : decode cX4_issue 145 = .ok (.imul, 1) := by decide +kernel
theorem dX4_issue_146 : decode cX4_issue 146 = .ok (.iconst 5, 1) := by decide +kernel
theorem dX4_issue_147 : decode cX4_issue 147 = .ok (.iadd, 1) := by decide +kernel
theorem dX4_issue_148 : decode cX4_issue 148 = .ok (.iaload, 1) := by decide +kernel
theorem dX4_issue_149 : decode cX4_issue 149 = .ok (.iload_n 1, 1) := by decide +kernel
theorem dX4_issue_150 : decode cX4_issue 150 = .ok (.if_icmp .ge 9, 3) := by decide +kernel
theorem dX4_issue_153 : decode cX4_issue 153 = .ok (.aload_n 0, 1) := by decide +kernel
theorem dX4_issue_154 : decode cX4_issue 154 = .ok (.iload 8, 2) := by decide +kernel
theorem dX4_issue_156 : decode cX4_issue 156 = .ok (.invokevirtual 136, 3) := by decide +kernel
theorem dX4_issue_159 : decode cX4_issue 159 = .ok (.iinc 8 1, 3) := by decide +kernel
theorem dX4_issue_162 : decode cX4_issue 162 = .ok (.goto (-42), 3) := by decide +kernel
theorem dX4_issue_165 : decode cX4_issue 165 = .ok (.iload_n 1, 1) := by decide +kernel
theorem dX4_issue_166 : decode cX4_issue 166 = .ok (.iconst 1, 1) := by decide +kernel
theorem dX4_issue_167 : decode cX4_issue 167 = .ok (.iadd, 1) := by decide +kernel
theorem dX4_issue_168 : decode cX4_issue 168 = .ok (.istore 8, 2) := by decide +kernel
theorem dX4_issue_170 : decode cX4_issue 170 = .ok (.iload_n 2, 1) := by decide +kernel
theorem dX4_issue_171 : decode cX4_issue 171 = .ok (.invokestatic 140, 3) := by decide +kernel
theorem dX4_issue_174 : decode cX4_issue 174 = .ok (.ifCond .eq 19, 3) := by decide +kernel
theorem dX4_issue_177 : decode cX4_issue 177 = .ok (.iload 8, 2) := by decide +kernel
theorem dX4_issue_179 : decode cX4_issue 179 = .ok (.aload_n 0, 1) := by decide +kernel
theorem dX4_issue_180 : decode cX4_issue 180 = .ok (.getfield 41, 3) := by decide +kernel
theorem dX4_issue_183 : decode cX4_issue 183 = .ok (.iload 5, 2) := by decide +kernel
theorem dX4_issue_185 : decode cX4_issue 185 = .ok (.iaload, 1) := by decide +kernel
theorem dX4_issue_186 : decode cX4_issue 186 = .ok (.iconst 1, 1) := by decide +kernel
theorem dX4_issue_187 : decode cX4_issue 187 = .ok (.iadd, 1) := by decide +kernel
theorem dX4_issue_188 : decode cX4_issue 188 = .ok (.invokestatic 112, 3) := by decide +kernel
theorem dX4_issue_191 : decode cX4_issue 191 = .ok (.istore 8, 2) := by decide +kernel
theorem dX4_issue_193 : decode cX4_issue 193 = .ok (.iload_n 2, 1) := by decide +kernel
theorem dX4_issue_194 : decode cX4_issue 194 = .ok (.invokestatic 143, 3) := by decide +kernel
theorem dX4_issue_197 : decode cX4_issue 197 = .ok (.ifCond .eq 19, 3) := by decide +kernel
theorem dX4_issue_200 : decode cX4_issue 200 = .ok (.iload 8, 2) := by decide +kernel
theorem dX4_issue_202 : decode cX4_issue 202 = .ok (.aload_n 0, 1) := by decide +kernel
theorem dX4_issue_203 : decode cX4_issue 203 = .ok (.getfield 41, 3) := by decide +kernel
theorem dX4_issue_206 : decode cX4_issue 206 = .ok (.iload 6, 2) := by decide +kernel
theorem dX4_issue_208 : decode cX4_issue 208 = .ok (.iaload, 1) := by decide +kernel
theorem dX4_issue_209 : decode cX4_issue 209 = .ok (.iconst 1, 1) := by decide +kernel
theorem dX4_issue_210 : decode cX4_issue 210 = .ok (.iadd, 1) := by decide +kernel
theorem dX4_issue_211 : decode cX4_issue 211 = .ok (.invokestatic 112, 3) := by decide +kernel
theorem dX4_issue_214 : decode cX4_issue 214 = .ok (.istore 8, 2) := by decide +kernel
theorem dX4_issue_216 : decode cX4_issue 216 = .ok (.iload_n 2, 1) := by decide +kernel
theorem dX4_issue_217 : decode cX4_issue 217 = .ok (.bipush 15, 2) := by decide +kernel
theorem dX4_issue_219 : decode cX4_issue 219 = .ok (.if_icmp .ne 19, 3) := by decide +kernel
theorem dX4_issue_222 : decode cX4_issue 222 = .ok (.iload 8, 2) := by decide +kernel
theorem dX4_issue_224 : decode cX4_issue 224 = .ok (.aload_n 0, 1) := by decide +kernel
theorem dX4_issue_225 : decode cX4_issue 225 = .ok (.getfield 41, 3) := by decide +kernel
theorem dX4_issue_228 : decode cX4_issue 228 = .ok (.iload 4, 2) := by decide +kernel
theorem dX4_issue_230 : decode cX4_issue 230 = .ok (.iaload, 1) := by decide +kernel
theorem dX4_issue_231 : decode cX4_issue 231 = .ok (.iconst 1, 1) := by decide +kernel
theorem dX4_issue_232 : decode cX4_issue 232 = .ok (.iadd, 1) := by decide +kernel
theorem dX4_issue_233 : decode cX4_issue 233 = .ok (.invokestatic 112, 3) := by decide +kernel
theorem dX4_issue_236 : decode cX4_issue 236 = .ok (.istore 8, 2) := by decide +kernel
theorem dX4_issue_238 : decode cX4_issue 238 = .ok (.iload 8, 2) := by decide +kernel
theorem dX4_issue_240 : decode cX4_issue 240 = .ok (.aload_n 0, 1) := by decide +kernel
theorem dX4_issue_241 : decode cX4_issue 241 = .ok (.getfield 16, 3) := by decide +kernel
theorem dX4_issue_244 : decode cX4_issue 244 = .ok (.iload_n 3, 1) := by decide +kernel
theorem dX4_issue_245 : decode cX4_issue 245 = .ok (.iaload, 1) := by decide +kernel
theorem dX4_issue_246 : decode cX4_issue 246 = .ok (.iadd, 1) := by decide +kernel
theorem dX4_issue_247 : decode cX4_issue 247 = .ok (.istore 9, 2) := by decide +kernel
theorem dX4_issue_249 : decode cX4_issue 249 = .ok (.iload 9, 2) := by decide +kernel
theorem dX4_issue_251 : decode cX4_issue 251 = .ok (.iconst 1, 1) := by decide +kernel
theorem dX4_issue_252 : decode cX4_issue 252 = .ok (.iadd, 1) := by decide +kernel
theorem dX4_issue_253 : decode cX4_issue 253 = .ok (.istore 10, 2) := by decide +kernel
theorem dX4_issue_255 : decode cX4_issue 255 = .ok (.iload_n 2, 1) := by decide +kernel
theorem dX4_issue_256 : decode cX4_issue 256 = .ok (.invokestatic 105, 3) := by decide +kernel
theorem dX4_issue_259 : decode cX4_issue 259 = .ok (.ifCond .eq 19, 3) := by decide +kernel
theorem dX4_issue_262 : decode cX4_issue 262 = .ok (.iload 10, 2) := by decide +kernel
theorem dX4_issue_264 : decode cX4_issue 264 = .ok (.aload_n 0, 1) := by decide +kernel
theorem dX4_issue_265 : decode cX4_issue 265 = .ok (.getfield 47, 3) := by decide +kernel
theorem dX4_issue_268 : decode cX4_issue 268 = .ok (.iload 4, 2) := by decide +kernel
theorem dX4_issue_270 : decode cX4_issue 270 = .ok (.iaload, 1) := by decide +kernel
theorem dX4_issue_271 : decode cX4_issue 271 = .ok (.iconst 1, 1) := by decide +kernel
theorem dX4_issue_272 : decode cX4_issue 272 = .ok (.iadd, 1) := by decide +kernel
theorem dX4_issue_273 : decode cX4_issue 273 = .ok (.invokestatic 112, 3) := by decide +kernel
theorem dX4_issue_276 : decode cX4_issue 276 = .ok (.istore 10, 2) := by decide +kernel
theorem dX4_issue_278 : decode cX4_issue 278 = .ok (.iload_n 2, 1) := by decide +kernel
theorem dX4_issue_279 : decode cX4_issue 279 = .ok (.invokestatic 140, 3) := by decide +kernel
theorem dX4_issue_282 : decode cX4_issue 282 = .ok (.ifCond .eq 22, 3) := by decide +kernel
theorem dX4_issue_285 : decode cX4_issue 285 = .ok (.aload_n 0, 1) := by decide +kernel
theorem dX4_issue_286 : decode cX4_issue 286 = .ok (.getfield 47, 3) := by decide +kernel
theorem dX4_issue_289 : decode cX4_issue 289 = .ok (.iload 5, 2) := by decide +kernel
theorem dX4_issue_291 : decode cX4_issue 291 = .ok (.aload_n 0, 1) := by decide +kernel
theorem dX4_issue_292 : decode cX4_issue 292 = .ok (.getfield 47, 3) := by decide +kernel
theorem dX4_issue_295 : decode cX4_issue 295 = .ok (.iload 5, 2) := by decide +kernel
theorem dX4_issue_297 : decode cX4_issue 297 = .ok (.iaload, 1) := by decide +kernel
theorem dX4_issue_298 : decode cX4_issue 298 = .ok (.iload 8, 2) := by decide +kernel
theorem dX4_issue_300 : decode cX4_issue 300 = .ok (.invokestatic 112, 3) := by decide +kernel
theorem dX4_issue_303 : decode cX4_issue 303 = .ok (.iastore, 1) := by decide +kernel
theorem dX4_issue_304 : decode cX4_issue 304 = .ok (.iload_n 2, 1) := by decide +kernel
theorem dX4_issue_305 : decode cX4_issue 305 = .ok (.invokestatic 143, 3) := by decide +kernel
theorem dX4_issue_308 : decode cX4_issue 308 = .ok (.ifCond .eq 22, 3) := by decide +kernel
theorem dX4_issue_311 : decode cX4_issue 311 = .ok (.aload_n 0, 1) := by decide +kernel
theorem dX4_issue_312 : decode cX4_issue 312 = .ok (.getfield 47, 3) := by decide +kernel
theorem dX4_issue_315 : decode cX4_issue 315 = .ok (.iload 6, 2) := by decide +kernel
theorem dX4_issue_317 : decode cX4_issue 317 = .ok (.aload_n 0, 1) := by decide +kernel
theorem dX4_issue_318 : decode cX4_issue 318 = .ok (.getfield 47, 3) := by decide +kernel
theorem dX4_issue_321 : decode cX4_issue 321 = .ok (.iload 6, 2) := by decide +kernel
theorem dX4_issue_323 : decode cX4_issue 323 = .ok (.iaload, 1) := by decide +kernel
theorem dX4_issue_324 : decode cX4_issue 324 = .ok (.iload 8, 2) := by decide +kernel
theorem dX4_issue_326 : decode cX4_issue 326 = .ok (.invokestatic 112, 3) := by decide +kernel
theorem dX4_issue_329 : decode cX4_issue 329 = .ok (.iastore, 1) := by decide +kernel
theorem dX4_issue_330 : decode cX4_issue 330 = .ok (.iload_n 2, 1) := by decide +kernel
theorem dX4_issue_331 : decode cX4_issue 331 = .ok (.bipush 15, 2) := by decide +kernel
theorem dX4_issue_333 : decode cX4_issue 333 = .ok (.if_icmp .ne 22, 3) := by decide +kernel
theorem dX4_issue_336 : decode cX4_issue 336 = .ok (.aload_n 0, 1) := by decide +kernel
theorem dX4_issue_337 : decode cX4_issue 337 = .ok (.getfield 47, 3) := by decide +kernel
theorem dX4_issue_340 : decode cX4_issue 340 = .ok (.iload 4, 2) := by decide +kernel
theorem dX4_issue_342 : decode cX4_issue 342 = .ok (.aload_n 0, 1) := by decide +kernel
theorem dX4_issue_343 : decode cX4_issue 343 = .ok (.getfield 47, 3) := by decide +kernel
theorem dX4_issue_346 : decode cX4_issue 346 = .ok (.iload 4, 2) := by decide +kernel
theorem dX4_issue_348 : decode cX4_issue 348 = .ok (.iaload, 1) := by decide +kernel
theorem dX4_issue_349 : decode cX4_issue 349 = .ok (.iload 8, 2) := by decide +kernel
theorem dX4_issue_351 : decode cX4_issue 351 = .ok (.invokestatic 112, 3) := by decide +kernel
theorem dX4_issue_354 : decode cX4_issue 354 = .ok (.iastore, 1) := by decide +kernel
theorem dX4_issue_355 : decode cX4_issue 355 = .ok (.iload_n 2, 1) := by decide +kernel
theorem dX4_issue_356 : decode cX4_issue 356 = .ok (.bipush 15, 2) := by decide +kernel
theorem dX4_issue_358 : decode cX4_issue 358 = .ok (.if_icmp .ne 36, 3) := by decide +kernel
theorem dX4_issue_361 : decode cX4_issue 361 = .ok (.bipush 16, 2) := by decide +kernel
theorem dX4_issue_363 : decode cX4_issue 363 = .ok (.aload_n 0, 1) := by decide +kernel
theorem dX4_issue_364 : decode cX4_issue 364 = .ok (.getfield 26, 3) := by decide +kernel
theorem dX4_issue_367 : decode cX4_issue 367 = .ok (.iload 5, 2) := by decide +kernel
theorem dX4_issue_369 : decode cX4_issue 369 = .ok (.laload, 1) := by decide +kernel
theorem dX4_issue_370 : decode cX4_issue 370 = .ok (.aload_n 0, 1) := by decide +kernel
theorem dX4_issue_371 : decode cX4_issue 371 = .ok (.getfield 9, 3) := by decide +kernel
theorem dX4_issue_374 : decode cX4_issue 374 = .ok (.iconst 4, 1) := by decide +kernel
theorem dX4_issue_375 : decode cX4_issue 375 = .ok (.aload_n 0, 1) := by decide +kernel
theorem dX4_issue_376 : decode cX4_issue 376 = .ok (.getfield 86, 3) := by decide +kernel
theorem dX4_issue_379 : decode cX4_issue 379 = .ok (.imul, 1) := by decide +kernel
theorem dX4_issue_380 : decode cX4_issue 380 = .ok (.iconst 3, 1) := by decide +kernel
theorem dX4_issue_381 : decode cX4_issue 381 = .ok (.iadd, 1) := by decide +kernel
theorem dX4_issue_382 : decode cX4_issue 382 = .ok (.iaload, 1) := by decide +kernel
theorem dX4_issue_383 : decode cX4_issue 383 = .ok (.i2l, 1) := by decide +kernel
theorem dX4_issue_384 : decode cX4_issue 384 = .ok (.ladd, 1) := by decide +kernel
theorem dX4_issue_385 : decode cX4_issue 385 = .ok (.ldc2_w 131, 3) := by decide +kernel
theorem dX4_issue_388 : decode cX4_issue 388 = .ok (.land, 1) := by decide +kernel
theorem dX4_issue_389 : decode cX4_issue 389 = .ok (.l2i, 1) := by decide +kernel
theorem dX4_issue_390 : decode cX4_issue 390 = .ok (.iadd, 1) := by decide +kernel
theorem dX4_issue_391 : decode cX4_issue 391 = .ok (.goto 4, 3) := by decide +kernel
theorem dX4_issue_394 : decode cX4_issue 394 = .ok (.iconst (-1), 1) := by decide +kernel
theorem dX4_issue_395 : decode cX4_issue 395 = .ok (.istore 11, 2) := by decide +kernel
theorem dX4_issue_397 : decode cX4_issue 397 = .ok (.aload_n 0, 1) := by decide +kernel
theorem dX4_issue_398 : decode cX4_issue 398 = .ok (.getfield 50, 3) := by decide +kernel
theorem dX4_issue_401 : decode cX4_issue 401 = .ok (.bipush 7, 2) := by decide +kernel
theorem dX4_issue_403 : decode cX4_issue 403 = .ok (.iload 7, 2) := by decide +kernel
theorem dX4_issue_405 : decode cX4_issue 405 = .ok (.imul, 1) := by decide +kernel
theorem dX4_issue_406 : decode cX4_issue 406 = .ok (.aload_n 0, 1) := by decide +kernel
theorem dX4_issue_407 : decode cX4_issue 407 = .ok (.getfield 86, 3) := by decide +kernel
theorem dX4_issue_410 : decode cX4_issue 410 = .ok (.iastore, 1) := by decide +kernel
theorem dX4_issue_411 : decode cX4_issue 411 = .ok (.aload_n 0, 1) := by decide +kernel
theorem dX4_issue_412 : decode cX4_issue 412 = .ok (.getfield 50, 3) := by decide +kernel
theorem dX4_issue_415 : decode cX4_issue 415 = .ok (.bipush 7, 2) := by decide +kernel
theorem dX4_issue_417 : decode cX4_issue 417 = .ok (.iload 7, 2) := by decide +kernel
theorem dX4_issue_419 : decode cX4_issue 419 = .ok (.imul, 1) := by decide +kernel
theorem dX4_issue_420 : decode cX4_issue 420 = .ok (.iconst 1, 1) := by decide +kernel
theorem dX4_issue_421 : decode cX4_issue 421 = .ok (.iadd, 1) := by decide +kernel
theorem dX4_issue_422 : decode cX4_issue 422 = .ok (.aload_n 0, 1) := by decide +kernel
theorem dX4_issue_423 : decode cX4_issue 423 = .ok (.getfield 83, 3) := by decide +kernel
theorem dX4_issue_426 : decode cX4_issue 426 = .ok (.iastore, 1) := by decide +kernel
theorem dX4_issue_427 : decode cX4_issue 427 = .ok (.aload_n 0, 1) := by decide +kernel
theorem dX4_issue_428 : decode cX4_issue 428 = .ok (.getfield 50, 3) := by decide +kernel
theorem dX4_issue_431 : decode cX4_issue 431 = .ok (.bipush 7, 2) := by decide +kernel
theorem dX4_issue_433 : decode cX4_issue 433 = .ok (.iload 7, 2) := by decide +kernel
theorem dX4_issue_435 : decode cX4_issue 435 = .ok (.imul, 1) := by decide +kernel
theorem dX4_issue_436 : decode cX4_issue 436 = .ok (.iconst 2, 1) := by decide +kernel
theorem dX4_issue_437 : decode cX4_issue 437 = .ok (.iadd, 1) := by decide +kernel
theorem dX4_issue_438 : decode cX4_issue 438 = .ok (.iload_n 1, 1) := by decide +kernel
theorem dX4_issue_439 : decode cX4_issue 439 = .ok (.iastore, 1) := by decide +kernel
theorem dX4_issue_440 : decode cX4_issue 440 = .ok (.aload_n 0, 1) := by decide +kernel
theorem dX4_issue_441 : decode cX4_issue 441 = .ok (.getfield 50, 3) := by decide +kernel
theorem dX4_issue_444 : decode cX4_issue 444 = .ok (.bipush 7, 2) := by decide +kernel
theorem dX4_issue_446 : decode cX4_issue 446 = .ok (.iload 7, 2) := by decide +kernel
theorem dX4_issue_448 : decode cX4_issue 448 = .ok (.imul, 1) := by decide +kernel
theorem dX4_issue_449 : decode cX4_issue 449 = .ok (.iconst 3, 1) := by decide +kernel
theorem dX4_issue_450 : decode cX4_issue 450 = .ok (.iadd, 1) := by decide +kernel
theorem dX4_issue_451 : decode cX4_issue 451 = .ok (.iload 8, 2) := by decide +kernel
theorem dX4_issue_453 : decode cX4_issue 453 = .ok (.iastore, 1) := by decide +kernel
theorem dX4_issue_454 : decode cX4_issue 454 = .ok (.aload_n 0, 1) := by decide +kernel
theorem dX4_issue_455 : decode cX4_issue 455 = .ok (.getfield 50, 3) := by decide +kernel
theorem dX4_issue_458 : decode cX4_issue 458 = .ok (.bipush 7, 2) := by decide +kernel
theorem dX4_issue_460 : decode cX4_issue 460 = .ok (.iload 7, 2) := by decide +kernel
theorem dX4_issue_462 : decode cX4_issue 462 = .ok (.imul, 1) := by decide +kernel
theorem dX4_issue_463 : decode cX4_issue 463 = .ok (.iconst 4, 1) := by decide +kernel
theorem dX4_issue_464 : decode cX4_issue 464 = .ok (.iadd, 1) := by decide +kernel
theorem dX4_issue_465 : decode cX4_issue 465 = .ok (.iload 9, 2) := by decide +kernel
theorem dX4_issue_467 : decode cX4_issue 467 = .ok (.iastore, 1) := by decide +kernel
theorem dX4_issue_468 : decode cX4_issue 468 = .ok (.aload_n 0, 1) := by decide +kernel
theorem dX4_issue_469 : decode cX4_issue 469 = .ok (.getfield 50, 3) := by decide +kernel
theorem dX4_issue_472 : decode cX4_issue 472 = .ok (.bipush 7, 2) := by decide +kernel
theorem dX4_issue_474 : decode cX4_issue 474 = .ok (.iload 7, 2) := by decide +kernel
theorem dX4_issue_476 : decode cX4_issue 476 = .ok (.imul, 1) := by decide +kernel
theorem dX4_issue_477 : decode cX4_issue 477 = .ok (.iconst 5, 1) := by decide +kernel
theorem dX4_issue_478 : decode cX4_issue 478 = .ok (.iadd, 1) := by decide +kernel
theorem dX4_issue_479 : decode cX4_issue 479 = .ok (.iload 10, 2) := by decide +kernel
theorem dX4_issue_481 : decode cX4_issue 481 = .ok (.iastore, 1) := by decide +kernel
theorem dX4_issue_482 : decode cX4_issue 482 = .ok (.aload_n 0, 1) := by decide +kernel
theorem dX4_issue_483 : decode cX4_issue 483 = .ok (.getfield 50, 3) := by decide +kernel
theorem dX4_issue_486 : decode cX4_issue 486 = .ok (.bipush 7, 2) := by decide +kernel
theorem dX4_issue_488 : decode cX4_issue 488 = .ok (.iload 7, 2) := by decide +kernel
theorem dX4_issue_490 : decode cX4_issue 490 = .ok (.imul, 1) := by decide +kernel
theorem dX4_issue_491 : decode cX4_issue 491 = .ok (.bipush 6, 2) := by decide +kernel
theorem dX4_issue_493 : decode cX4_issue 493 = .ok (.iadd, 1) := by decide +kernel
theorem dX4_issue_494 : decode cX4_issue 494 = .ok (.iload_n 2, 1) := by decide +kernel
theorem dX4_issue_495 : decode cX4_issue 495 = .ok (.invokestatic 105, 3) := by decide +kernel
theorem dX4_issue_498 : decode cX4_issue 498 = .ok (.ifCond .eq 8, 3) := by decide +kernel
theorem dX4_issue_501 : decode cX4_issue 501 = .ok (.iload 4, 2) := by decide +kernel
theorem dX4_issue_503 : decode cX4_issue 503 = .ok (.goto 5, 3) := by decide +kernel
theorem dX4_issue_506 : decode cX4_issue 506 = .ok (.iload 11, 2) := by decide +kernel
theorem dX4_issue_508 : decode cX4_issue 508 = .ok (.iastore, 1) := by decide +kernel
theorem dX4_issue_509 : decode cX4_issue 509 = .ok (.iconst 0, 1) := by decide +kernel
theorem dX4_issue_510 : decode cX4_issue 510 = .ok (.istore 12, 2) := by decide +kernel
theorem dX4_issue_512 : decode cX4_issue 512 = .ok (.iload 12, 2) := by decide +kernel
theorem dX4_issue_514 : decode cX4_issue 514 = .ok (.bipush 6, 2) := by decide +kernel
theorem dX4_issue_516 : decode cX4_issue 516 = .ok (.if_icmp .ge 40, 3) := by decide +kernel
theorem dX4_issue_519 : decode cX4_issue 519 = .ok (.aload_n 0, 1) := by decide +kernel
theorem dX4_issue_520 : decode cX4_issue 520 = .ok (.getfield 60, 3) := by decide +kernel
theorem dX4_issue_523 : decode cX4_issue 523 = .ok (.bipush 6, 2) := by decide +kernel
theorem dX4_issue_525 : decode cX4_issue 525 = .ok (.aload_n 0, 1) := by decide +kernel
theorem dX4_issue_526 : decode cX4_issue 526 = .ok (.getfield 83, 3) := by decide +kernel
theorem dX4_issue_529 : decode cX4_issue 529 = .ok (.bipush 64, 2) := by decide +kernel
theorem dX4_issue_531 : decode cX4_issue 531 = .ok (.irem, 1) := by decide +kernel
theorem dX4_issue_532 : decode cX4_issue 532 = .ok (.imul, 1) := by decide +kernel
theorem dX4_issue_533 : decode cX4_issue 533 = .ok (.iload 12, 2) := by decide +kernel
theorem dX4_issue_535 : decode cX4_issue 535 = .ok (.iadd, 1) := by decide +kernel
theorem dX4_issue_536 : decode cX4_issue 536 = .ok (.aload_n 0, 1) := by decide +kernel
theorem dX4_issue_537 : decode cX4_issue 537 = .ok (.getfield 50, 3) := by decide +kernel
theorem dX4_issue_540 : decode cX4_issue 540 = .ok (.bipush 7, 2) := by decide +kernel
theorem dX4_issue_542 : decode cX4_issue 542 = .ok (.iload 7, 2) := by decide +kernel
theorem dX4_issue_544 : decode cX4_issue 544 = .ok (.imul, 1) := by decide +kernel
theorem dX4_issue_545 : decode cX4_issue 545 = .ok (.iload 12, 2) := by decide +kernel
theorem dX4_issue_547 : decode cX4_issue 547 = .ok (.iadd, 1) := by decide +kernel
theorem dX4_issue_548 : decode cX4_issue 548 = .ok (.iaload, 1) := by decide +kernel
theorem dX4_issue_549 : decode cX4_issue 549 = .ok (.iastore, 1) := by decide +kernel
theorem dX4_issue_550 : decode cX4_issue 550 = .ok (.iinc 12 1, 3) := by decide +kernel
theorem dX4_issue_553 : decode cX4_issue 553 = .ok (.goto (-41), 3) := by decide +kernel
theorem dX4_issue_556 : decode cX4_issue 556 = .ok (.aload_n 0, 1) := by decide +kernel
theorem dX4_issue_557 : decode cX4_issue 557 = .ok (.invokevirtual 146, 3) := by decide +kernel
theorem dX4_issue_560 : decode cX4_issue 560 = .ok (.lstore 12, 2) := by decide +kernel
theorem dX4_issue_562 : decode cX4_issue 562 = .ok (.aload_n 0, 1) := by decide +kernel
theorem dX4_issue_563 : decode cX4_issue 563 = .ok (.getfield 53, 3) := by decide +kernel
theorem dX4_issue_566 : decode cX4_issue 566 = .ok (.iload 7, 2) := by decide +kernel
theorem dX4_issue_568 : decode cX4_issue 568 = .ok (.lload 12, 2) := by decide +kernel
theorem dX4_issue_570 : decode cX4_issue 570 = .ok (.lastore, 1) := by decide +kernel
theorem dX4_issue_571 : decode cX4_issue 571 = .ok (.aload_n 0, 1) := by decide +kernel
theorem dX4_issue_572 : decode cX4_issue 572 = .ok (.getfield 56, 3) := by decide +kernel
theorem dX4_issue_575 : decode cX4_issue 575 = .ok (.iload 7, 2) := by decide +kernel
theorem dX4_issue_577 : decode cX4_issue 577 = .ok (.iconst 1, 1) := by decide +kernel
theorem dX4_issue_578 : decode cX4_issue 578 = .ok (.bastore, 1) := by decide +kernel
theorem dX4_issue_579 : decode cX4_issue 579 = .ok (.iload_n 2, 1) := by decide +kernel
theorem dX4_issue_580 : decode cX4_issue 580 = .ok (.invokestatic 105, 3) := by decide +kernel
theorem dX4_issue_583 : decode cX4_issue 583 = .ok (.ifCond .eq 35, 3) := by decide +kernel
theorem dX4_issue_586 : decode cX4_issue 586 = .ok (.aload_n 0, 1) := by decide +kernel
theorem dX4_issue_587 : decode cX4_issue 587 = .ok (.getfield 26, 3) := by decide +kernel
theorem dX4_issue_590 : decode cX4_issue 590 = .ok (.iload 4, 2) := by decide +kernel
theorem dX4_issue_592 : decode cX4_issue 592 = .ok (.lload 12, 2) := by decide +kernel
theorem dX4_issue_594 : decode cX4_issue 594 = .ok (.lastore, 1) := by decide +kernel
theorem dX4_issue_595 : decode cX4_issue 595 = .ok (.aload_n 0, 1) := by decide +kernel
theorem dX4_issue_596 : decode cX4_issue 596 = .ok (.getfield 41, 3) := by decide +kernel
theorem dX4_issue_599 : decode cX4_issue 599 = .ok (.iload 4, 2) := by decide +kernel
theorem dX4_issue_601 : decode cX4_issue 601 = .ok (.iload 10, 2) := by decide +kernel
theorem dX4_issue_603 : decode cX4_issue 603 = .ok (.iastore, 1) := by decide +kernel
theorem dX4_issue_604 : decode cX4_issue 604 = .ok (.aload_n 0, 1) := by decide +kernel
theorem dX4_issue_605 : decode cX4_issue 605 = .ok (.getfield 44, 3) := by decide +kernel
theorem dX4_issue_608 : decode cX4_issue 608 = .ok (.iload 4, 2) := by decide +kernel
theorem dX4_issue_610 : decode cX4_issue 610 = .ok (.aload_n 0, 1) := by decide +kernel
theorem dX4_issue_611 : decode cX4_issue 611 = .ok (.getfield 83, 3) := by decide +kernel
theorem dX4_issue_614 : decode cX4_issue 614 = .ok (.iastore, 1) := by decide +kernel
theorem dX4_issue_615 : decode cX4_issue 615 = .ok (.goto 21, 3) := by decide +kernel
theorem dX4_issue_618 : decode cX4_issue 618 = .ok (.iload_n 2, 1) := by decide +kernel
theorem dX4_issue_619 : decode cX4_issue 619 = .ok (.bipush 15, 2) := by decide +kernel
theorem dX4_issue_621 : decode cX4_issue 621 = .ok (.if_icmp .ne 15, 3) := by decide +kernel
theorem dX4_issue_624 : decode cX4_issue 624 = .ok (.aload_n 0, 1) := by decide +kernel
theorem dX4_issue_625 : decode cX4_issue 625 = .ok (.getfield 29, 3) := by decide +kernel
theorem dX4_issue_628 : decode cX4_issue 628 = .ok (.iload 11, 2) := by decide +kernel
theorem dX4_issue_630 : decode cX4_issue 630 = .ok (.bipush 16, 2) := by decide +kernel
theorem dX4_issue_632 : decode cX4_issue 632 = .ok (.isub, 1) := by decide +kernel
theorem dX4_issue_633 : decode cX4_issue 633 = .ok (.lload 12, 2) := by decide +kernel
theorem dX4_issue_635 : decode cX4_issue 635 = .ok (.lastore, 1) := by decide +kernel
theorem dX4_issue_636 : decode cX4_issue 636 = .ok (.iload_n 3, 1) := by decide +kernel
theorem dX4_issue_637 : decode cX4_issue 637 = .ok (.iconst 5, 1) := by decide +kernel
theorem dX4_issue_638 : decode cX4_issue 638 = .ok (.if_icmp .ne 9, 3) := by decide +kernel
theorem dX4_issue_641 : decode cX4_issue 641 = .ok (.aload_n 0, 1) := by decide +kernel
theorem dX4_issue_642 : decode cX4_issue 642 = .ok (.iload 10, 2) := by decide +kernel
theorem dX4_issue_644 : decode cX4_issue 644 = .ok (.putfield 95, 3) := by decide +kernel
theorem dX4_issue_647 : decode cX4_issue 647 = .ok (.aload_n 0, 1) := by decide +kernel
theorem dX4_issue_648 : decode cX4_issue 648 = .ok (.aload_n 0, 1) := by decide +kernel
theorem dX4_issue_649 : decode cX4_issue 649 = .ok (.getfield 98, 3) := by decide +kernel
theorem dX4_issue_652 : decode cX4_issue 652 = .ok (.iload 10, 2) := by decide +kernel
theorem dX4_issue_654 : decode cX4_issue 654 = .ok (.invokestatic 112, 3) := by decide +kernel
theorem dX4_issue_657 : decode cX4_issue 657 = .ok (.putfield 98, 3) := by decide +kernel
theorem dX4_issue_660 : decode cX4_issue 660 = .ok (.aload_n 0, 1) := by decide +kernel
theorem dX4_issue_661 : decode cX4_issue 661 = .ok (.iload_n 1, 1) := by decide +kernel
theorem dX4_issue_662 : decode cX4_issue 662 = .ok (.aload_n 0, 1) := by decide +kernel
theorem dX4_issue_663 : decode cX4_issue 663 = .ok (.getfield 89, 3) := by decide +kernel
theorem dX4_issue_666 : decode cX4_issue 666 = .ok (.if_icmp .ne 12, 3) := by decide +kernel
theorem dX4_issue_669 : decode cX4_issue 669 = .ok (.aload_n 0, 1) := by decide +kernel
theorem dX4_issue_670 : decode cX4_issue 670 = .ok (.getfield 92, 3) := by decide +kernel
theorem dX4_issue_673 : decode cX4_issue 673 = .ok (.iconst 1, 1) := by decide +kernel
theorem dX4_issue_674 : decode cX4_issue 674 = .ok (.iadd, 1) := by decide +kernel
theorem dX4_issue_675 : decode cX4_issue 675 = .ok (.goto 4, 3) := by decide +kernel
theorem dX4_issue_678 : decode cX4_issue 678 = .ok (.iconst 1, 1) := by decide +kernel
theorem dX4_issue_679 : decode cX4_issue 679 = .ok (.putfield 92, 3) := by decide +kernel
theorem dX4_issue_682 : decode cX4_issue 682 = .ok (.aload_n 0, 1) := by decide +kernel
theorem dX4_issue_683 : decode cX4_issue 683 = .ok (.iload_n 1, 1) := by decide +kernel
theorem dX4_issue_684 : decode cX4_issue 684 = .ok (.putfield 89, 3) := by decide +kernel
theorem dX4_issue_687 : decode cX4_issue 687 = .ok (.aload_n 0, 1) := by decide +kernel
theorem dX4_issue_688 : decode cX4_issue 688 = .ok (.dup, 1) := by decide +kernel
theorem dX4_issue_689 : decode cX4_issue 689 = .ok (.getfield 83, 3) := by decide +kernel
theorem dX4_issue_692 : decode cX4_issue 692 = .ok (.iconst 1, 1) := by decide +kernel
theorem dX4_issue_693 : decode cX4_issue 693 = .ok (.iadd, 1) := by decide +kernel
theorem dX4_issue_694 : decode cX4_issue 694 = .ok (.putfield 83, 3) := by decide +kernel
theorem dX4_issue_697 : decode cX4_issue 697 = .ok (.return_, 1) := by decide +kernel
theorem dX4_commit_0 : decode cX4_commit 0 = .ok (.aload_n 0, 1) := by decide +kernel
theorem dX4_commit_1 : decode cX4_commit 1 = .ok (.getfield 56, 3) := by decide +kernel
theorem dX4_commit_4 : decode cX4_commit 4 = .ok (.iload_n 1, 1) := by decide +kernel
theorem dX4_commit_5 : decode cX4_commit 5 = .ok (.baload, 1) := by decide +kernel
theorem dX4_commit_6 : decode cX4_commit 6 = .ok (.ifCond .ne 4, 3) := by decide +kernel
theorem dX4_commit_9 : decode cX4_commit 9 = .ok (.return_, 1) := by decide +kernel
theorem dX4_commit_10 : decode cX4_commit 10 = .ok (.aload_n 0, 1) := by decide +kernel
theorem dX4_commit_11 : decode cX4_commit 11 = .ok (.getfield 56, 3) := by decide +kernel
theorem dX4_commit_14 : decode cX4_commit 14 = .ok (.iload_n 1, 1) := by decide +kernel
theorem dX4_commit_15 : decode cX4_commit 15 = .ok (.iconst 0, 1) := by decide +kernel
theorem dX4_commit_16 : decode cX4_commit 16 = .ok (.bastore, 1) := by decide +kernel
theorem dX4_commit_17 : decode cX4_commit 17 = .ok (.aload_n 0, 1) := by decide +kernel
theorem dX4_commit_18 : decode cX4_commit 18 = .ok (.getfield 50, 3) := by decide +kernel
theorem dX4_commit_21 : decode cX4_commit 21 = .ok (.bipush 7, 2) := by decide +kernel
theorem dX4_commit_23 : decode cX4_commit 23 = .ok (.iload_n 1, 1) := by decide +kernel
theorem dX4_commit_24 : decode cX4_commit 24 = .ok (.imul, 1) := by decide +kernel
theorem dX4_commit_25 : decode cX4_commit 25 = .ok (.bipush 6, 2) := by decide +kernel
theorem dX4_commit_27 : decode cX4_commit 27 = .ok (.iadd, 1) := by decide +kernel
theorem dX4_commit_28 : decode cX4_commit 28 = .ok (.iaload, 1) := by decide +kernel
theorem dX4_commit_29 : decode cX4_commit 29 = .ok (.istore_n 2, 1) := by decide +kernel
theorem dX4_commit_30 : decode cX4_commit 30 = .ok (.iload_n 2, 1) := by decide +kernel
theorem dX4_commit_31 : decode cX4_commit 31 = .ok (.bipush 16, 2) := by decide +kernel
theorem dX4_commit_33 : decode cX4_commit 33 = .ok (.if_icmp .lt 21, 3) := by decide +kernel
theorem dX4_commit_36 : decode cX4_commit 36 = .ok (.aload_n 0, 1) := by decide +kernel
theorem dX4_commit_37 : decode cX4_commit 37 = .ok (.getfield 35, 3) := by decide +kernel
theorem dX4_commit_40 : decode cX4_commit 40 = .ok (.iload_n 2, 1) := by decide +kernel
theorem dX4_commit_41 : decode cX4_commit 41 = .ok (.bipush 16, 2) := by decide +kernel
theorem dX4_commit_43 : decode cX4_commit 43 = .ok (.isub, 1) := by decide +kernel
theorem dX4_commit_44 : decode cX4_commit 44 = .ok (.aload_n 0, 1) := by decide +kernel
theorem dX4_commit_45 : decode cX4_commit 45 = .ok (.getfield 53, 3) := by decide +kernel
theorem dX4_commit_48 : decode cX4_commit 48 = .ok (.iload_n 1, 1) := by decide +kernel
theorem dX4_commit_49 : decode cX4_commit 49 = .ok (.laload, 1) := by decide +kernel
theorem dX4_commit_50 : decode cX4_commit 50 = .ok (.lastore, 1) := by decide +kernel
theorem dX4_commit_51 : decode cX4_commit 51 = .ok (.goto 19, 3) := by decide +kernel
theorem dX4_commit_54 : decode cX4_commit 54 = .ok (.iload_n 2, 1) := by decide +kernel
theorem dX4_commit_55 : decode cX4_commit 55 = .ok (.ifCond .lt 15, 3) := by decide +kernel
theorem dX4_commit_58 : decode cX4_commit 58 = .ok (.aload_n 0, 1) := by decide +kernel
theorem dX4_commit_59 : decode cX4_commit 59 = .ok (.getfield 32, 3) := by decide +kernel
theorem dX4_commit_62 : decode cX4_commit 62 = .ok (.iload_n 2, 1) := by decide +kernel
theorem dX4_commit_63 : decode cX4_commit 63 = .ok (.aload_n 0, 1) := by decide +kernel
theorem dX4_commit_64 : decode cX4_commit 64 = .ok (.getfield 53, 3) := by decide +kernel
theorem dX4_commit_67 : decode cX4_commit 67 = .ok (.iload_n 1, 1) := by decide +kernel
theorem dX4_commit_68 : decode cX4_commit 68 = .ok (.laload, 1) := by decide +kernel
theorem dX4_commit_69 : decode cX4_commit 69 = .ok (.lastore, 1) := by decide +kernel
theorem dX4_commit_70 : decode cX4_commit 70 = .ok (.return_, 1) := by decide +kernel
theorem dX4_run_0 : decode cX4_run 0 = .ok (.aload_n 0, 1) := by decide +kernel
theorem dX4_run_1 : decode cX4_run 1 = .ok (.iconst 0, 1) := by decide +kernel
theorem dX4_run_2 : decode cX4_run 2 = .ok (.putfield 66, 3) := by decide +kernel
theorem dX4_run_5 : decode cX4_run 5 = .ok (.iload_n 1, 1) := by decide +kernel
theorem dX4_run_6 : decode cX4_run 6 = .ok (.ifCond .lt 10, 3) := by decide +kernel
theorem dX4_run_9 : decode cX4_run 9 = .ok (.iload_n 1, 1) := by decide +kernel
theorem dX4_run_10 : decode cX4_run 10 = .ok (.sipush 3000, 3) := by decide +kernel
theorem dX4_run_13 : decode cX4_run 13 = .ok (.if_icmp .le 5, 3) := by decide +kernel
theorem dX4_run_16 : decode cX4_run 16 = .ok (.iconst (-1), 1) := by decide +kernel
theorem dX4_run_17 : decode cX4_run 17 = .ok (.ireturn, 1) := by decide +kernel
theorem dX4_run_18 : decode cX4_run 18 = .ok (.aload_n 0, 1) := by decide +kernel
theorem dX4_run_19 : decode cX4_run 19 = .ok (.getfield 79, 3) := by decide +kernel
theorem dX4_run_22 : decode cX4_run 22 = .ok (.ifCond .eq 5, 3) := by decide +kernel
theorem dX4_run_25 : decode cX4_run 25 = .ok (.iconst 0, 1) := by decide +kernel
theorem dX4_run_26 : decode cX4_run 26 = .ok (.ireturn, 1) := by decide +kernel
theorem dX4_run_27 : decode cX4_run 27 = .ok (.aload_n 0, 1) := by decide +kernel
theorem dX4_run_28 : decode cX4_run 28 = .ok (.getfield 76, 3) := by decide +kernel
theorem dX4_run_31 : decode cX4_run 31 = .ok (.istore_n 2, 1) := by decide +kernel
theorem dX4_run_32 : decode cX4_run 32 = .ok (.aload_n 0, 1) := by decide +kernel
theorem dX4_run_33 : decode cX4_run 33 = .ok (.getfield 76, 3) := by decide +kernel
theorem dX4_run_36 : decode cX4_run 36 = .ok (.iload_n 1, 1) := by decide +kernel
theorem dX4_run_37 : decode cX4_run 37 = .ok (.iadd, 1) := by decide +kernel
theorem dX4_run_38 : decode cX4_run 38 = .ok (.istore_n 3, 1) := by decide +kernel
theorem dX4_run_39 : decode cX4_run 39 = .ok (.iconst 1, 1) := by decide +kernel
theorem dX4_run_40 : decode cX4_run 40 = .ok (.istore 4, 2) := by decide +kernel
theorem dX4_run_42 : decode cX4_run 42 = .ok (.iload 4, 2) := by decide +kernel
theorem dX4_run_44 : decode cX4_run 44 = .ok (.ifCond .eq 97, 3) := by decide +kernel
theorem dX4_run_47 : decode cX4_run 47 = .ok (.aload_n 0, 1) := by decide +kernel
theorem dX4_run_48 : decode cX4_run 48 = .ok (.invokevirtual 101, 3) := by decide +kernel
theorem dX4_run_51 : decode cX4_run 51 = .ok (.ifCond .ne 57, 3) := by decide +kernel
theorem dX4_run_54 : decode cX4_run 54 = .ok (.iconst 1, 1) := by decide +kernel
theorem dX4_run_55 : decode cX4_run 55 = .ok (.aload_n 0, 1) := by decide +kernel
theorem dX4_run_56 : decode cX4_run 56 = .ok (.getfield 89, 3) := by decide +kernel
theorem dX4_run_59 : decode cX4_run 59 = .ok (.invokestatic 112, 3) := by decide +kernel
theorem dX4_run_62 : decode cX4_run 62 = .ok (.aload_n 0, 1) := by decide +kernel
theorem dX4_run_63 : decode cX4_run 63 = .ok (.getfield 98, 3) := by decide +kernel
theorem dX4_run_66 : decode cX4_run 66 = .ok (.iconst 1, 1) := by decide +kernel
theorem dX4_run_67 : decode cX4_run 67 = .ok (.iadd, 1) := by decide +kernel
theorem dX4_run_68 : decode cX4_run 68 = .ok (.invokestatic 112, 3) := by decide +kernel
theorem dX4_run_71 : decode cX4_run 71 = .ok (.istore 5, 2) := by decide +kernel
theorem dX4_run_73 : decode cX4_run 73 = .ok (.aload_n 0, 1) := by decide +kernel
theorem dX4_run_74 : decode cX4_run 74 = .ok (.iload 5, 2) := by decide +kernel
theorem dX4_run_76 : decode cX4_run 76 = .ok (.iload_n 3, 1) := by decide +kernel
theorem dX4_run_77 : decode cX4_run 77 = .ok (.if_icmp .gt 7, 3) := by decide +kernel
theorem dX4_run_80 : decode cX4_run 80 = .ok (.iconst 1, 1) := by decide +kernel
theorem dX4_run_81 : decode cX4_run 81 = .ok (.goto 4, 3) := by decide +kernel
theorem dX4_run_84 : decode cX4_run 84 = .ok (.iconst 0, 1) := by decide +kernel
theorem dX4_run_85 : decode cX4_run 85 = .ok (.putfield 79, 3) := by decide +kernel
theorem dX4_run_88 : decode cX4_run 88 = .ok (.aload_n 0, 1) := by decide +kernel
theorem dX4_run_89 : decode cX4_run 89 = .ok (.getfield 79, 3) := by decide +kernel
theorem dX4_run_92 : decode cX4_run 92 = .ok (.ifCond .eq 8, 3) := by decide +kernel
theorem dX4_run_95 : decode cX4_run 95 = .ok (.iload 5, 2) := by decide +kernel
theorem dX4_run_97 : decode cX4_run 97 = .ok (.goto 4, 3) := by decide +kernel
theorem dX4_run_100 : decode cX4_run 100 = .ok (.iload_n 3, 1) := by decide +kernel
theorem dX4_run_101 : decode cX4_run 101 = .ok (.istore_n 3, 1) := by decide +kernel
theorem dX4_run_102 : decode cX4_run 102 = .ok (.iconst 0, 1) := by decide +kernel
theorem dX4_run_103 : decode cX4_run 103 = .ok (.istore 4, 2) := by decide +kernel
theorem dX4_run_105 : decode cX4_run 105 = .ok (.goto (-63), 3) := by decide +kernel
theorem dX4_run_108 : decode cX4_run 108 = .ok (.aload_n 0, 1) := by decide +kernel
theorem dX4_run_109 : decode cX4_run 109 = .ok (.invokevirtual 150, 3) := by decide +kernel
theorem dX4_run_112 : decode cX4_run 112 = .ok (.istore 5, 2) := by decide +kernel
theorem dX4_run_114 : decode cX4_run 114 = .ok (.iload 5, 2) := by decide +kernel
theorem dX4_run_116 : decode cX4_run 116 = .ok (.iload_n 3, 1) := by decide +kernel
theorem dX4_run_117 : decode cX4_run 117 = .ok (.if_icmp .gt 7, 3) := by decide +kernel
theorem dX4_run_120 : decode cX4_run 120 = .ok (.iconst 1, 1) := by decide +kernel
theorem dX4_run_121 : decode cX4_run 121 = .ok (.goto 4, 3) := by decide +kernel
theorem dX4_run_124 : decode cX4_run 124 = .ok (.iconst 0, 1) := by decide +kernel
theorem dX4_run_125 : decode cX4_run 125 = .ok (.istore 4, 2) := by decide +kernel
theorem dX4_run_127 : decode cX4_run 127 = .ok (.iload 4, 2) := by decide +kernel
theorem dX4_run_129 : decode cX4_run 129 = .ok (.ifCond .eq 9, 3) := by decide +kernel
theorem dX4_run_132 : decode cX4_run 132 = .ok (.aload_n 0, 1) := by decide +kernel
theorem dX4_run_133 : decode cX4_run 133 = .ok (.iload 5, 2) := by decide +kernel
theorem dX4_run_135 : decode cX4_run 135 = .ok (.invokevirtual 153, 3) := by decide +kernel
theorem dX4_run_138 : decode cX4_run 138 = .ok (.goto (-96), 3) := by decide +kernel
theorem dX4_run_141 : decode cX4_run 141 = .ok (.aload_n 0, 1) := by decide +kernel
theorem dX4_run_142 : decode cX4_run 142 = .ok (.iload_n 3, 1) := by decide +kernel
theorem dX4_run_143 : decode cX4_run 143 = .ok (.putfield 76, 3) := by decide +kernel
theorem dX4_run_146 : decode cX4_run 146 = .ok (.iconst 0, 1) := by decide +kernel
theorem dX4_run_147 : decode cX4_run 147 = .ok (.istore 5, 2) := by decide +kernel
theorem dX4_run_149 : decode cX4_run 149 = .ok (.iload 5, 2) := by decide +kernel
theorem dX4_run_151 : decode cX4_run 151 = .ok (.bipush 18, 2) := by decide +kernel
theorem dX4_run_153 : decode cX4_run 153 = .ok (.if_icmp .ge 44, 3) := by decide +kernel
theorem dX4_run_156 : decode cX4_run 156 = .ok (.aload_n 0, 1) := by decide +kernel
theorem dX4_run_157 : decode cX4_run 157 = .ok (.getfield 56, 3) := by decide +kernel
theorem dX4_run_160 : decode cX4_run 160 = .ok (.iload 5, 2) := by decide +kernel
theorem dX4_run_162 : decode cX4_run 162 = .ok (.baload, 1) := by decide +kernel
theorem dX4_run_163 : decode cX4_run 163 = .ok (.ifCond .eq 28, 3) := by decide +kernel
theorem dX4_run_166 : decode cX4_run 166 = .ok (.aload_n 0, 1) := by decide +kernel
theorem dX4_run_167 : decode cX4_run 167 = .ok (.getfield 50, 3) := by decide +kernel
theorem dX4_run_170 : decode cX4_run 170 = .ok (.bipush 7, 2) := by decide +kernel
theorem dX4_run_172 : decode cX4_run 172 = .ok (.iload 5, 2) := by decide +kernel
theorem dX4_run_174 : decode cX4_run 174 = .ok (.imul, 1) := by decide +kernel
theorem dX4_run_175 : decode cX4_run 175 = .ok (.iconst 5, 1) := by decide +kernel
theorem dX4_run_176 : decode cX4_run 176 = .ok (.iadd, 1) := by decide +kernel
theorem dX4_run_177 : decode cX4_run 177 = .ok (.iaload, 1) := by decide +kernel
theorem dX4_run_178 : decode cX4_run 178 = .ok (.aload_n 0, 1) := by decide +kernel
theorem dX4_run_179 : decode cX4_run 179 = .ok (.getfield 76, 3) := by decide +kernel
theorem dX4_run_182 : decode cX4_run 182 = .ok (.if_icmp .gt 9, 3) := by decide +kernel
theorem dX4_run_185 : decode cX4_run 185 = .ok (.aload_n 0, 1) := by decide +kernel
theorem dX4_run_186 : decode cX4_run 186 = .ok (.iload 5, 2) := by decide +kernel
theorem dX4_run_188 : decode cX4_run 188 = .ok (.invokevirtual 136, 3) := by decide +kernel
theorem dX4_run_191 : decode cX4_run 191 = .ok (.iinc 5 1, 3) := by decide +kernel
theorem dX4_run_194 : decode cX4_run 194 = .ok (.goto (-45), 3) := by decide +kernel
theorem dX4_run_197 : decode cX4_run 197 = .ok (.aload_n 0, 1) := by decide +kernel
theorem dX4_run_198 : decode cX4_run 198 = .ok (.getfield 76, 3) := by decide +kernel
theorem dX4_run_201 : decode cX4_run 201 = .ok (.iload_n 2, 1) := by decide +kernel
theorem dX4_run_202 : decode cX4_run 202 = .ok (.isub, 1) := by decide +kernel
theorem dX4_run_203 : decode cX4_run 203 = .ok (.ireturn, 1) := by decide +kernel
theorem dX4_open_0 : decode cX4_open 0 = .ok (.iconst 0, 1) := by decide +kernel
theorem dX4_open_1 : decode cX4_open 1 = .ok (.istore_n 1, 1) := by decide +kernel
theorem dX4_open_2 : decode cX4_open 2 = .ok (.iconst 0, 1) := by decide +kernel
theorem dX4_open_3 : decode cX4_open 3 = .ok (.istore_n 2, 1) := by decide +kernel
theorem dX4_open_4 : decode cX4_open 4 = .ok (.iload_n 2, 1) := by decide +kernel
theorem dX4_open_5 : decode cX4_open 5 = .ok (.bipush 18, 2) := by decide +kernel
theorem dX4_open_7 : decode cX4_open 7 = .ok (.if_icmp .ge 21, 3) := by decide +kernel
theorem dX4_open_10 : decode cX4_open 10 = .ok (.aload_n 0, 1) := by decide +kernel
theorem dX4_open_11 : decode cX4_open 11 = .ok (.getfield 56, 3) := by decide +kernel
theorem dX4_open_14 : decode cX4_open 14 = .ok (.iload_n 2, 1) := by decide +kernel
theorem dX4_open_15 : decode cX4_open 15 = .ok (.baload, 1) := by decide +kernel
theorem dX4_open_16 : decode cX4_open 16 = .ok (.ifCond .eq 6, 3) := by decide +kernel
theorem dX4_open_19 : decode cX4_open 19 = .ok (.iinc 1 1, 3) := by decide +kernel
theorem dX4_open_22 : decode cX4_open 22 = .ok (.iinc 2 1, 3) := by decide +kernel
theorem dX4_open_25 : decode cX4_open 25 = .ok (.goto (-21), 3) := by decide +kernel
theorem dX4_open_28 : decode cX4_open 28 = .ok (.iload_n 1, 1) := by decide +kernel
theorem dX4_open_29 : decode cX4_open 29 = .ok (.ireturn, 1) := by decide +kernel
theorem dX4_count_0 : decode cX4_count 0 = .ok (.aload_n 0, 1) := by decide +kernel
theorem dX4_count_1 : decode cX4_count 1 = .ok (.iconst 0, 1) := by decide +kernel
theorem dX4_count_2 : decode cX4_count 2 = .ok (.putfield 66, 3) := by decide +kernel
theorem dX4_count_5 : decode cX4_count 5 = .ok (.iload_n 1, 1) := by decide +kernel
theorem dX4_count_6 : decode cX4_count 6 = .ok (.tableswitch 140 0 8 #[50, 55, 68, 73, 78, 78, 78, 110, 130], 50) := by decide +kernel
theorem dX4_count_56 : decode cX4_count 56 = .ok (.aload_n 0, 1) := by decide +kernel
theorem dX4_count_57 : decode cX4_count 57 = .ok (.getfield 76, 3) := by decide +kernel
theorem dX4_count_60 : decode cX4_count 60 = .ok (.ireturn, 1) := by decide +kernel
theorem dX4_count_61 : decode cX4_count 61 = .ok (.aload_n 0, 1) := by decide +kernel
theorem dX4_count_62 : decode cX4_count 62 = .ok (.getfield 79, 3) := by decide +kernel
theorem dX4_count_65 : decode cX4_count 65 = .ok (.ifCond .eq 7, 3) := by decide +kernel
theorem dX4_count_68 : decode cX4_count 68 = .ok (.iconst 1, 1) := by decide +kernel
theorem dX4_count_69 : decode cX4_count 69 = .ok (.goto 4, 3) := by decide +kernel
theorem dX4_count_72 : decode cX4_count 72 = .ok (.iconst 0, 1) := by decide +kernel
theorem dX4_count_73 : decode cX4_count 73 = .ok (.ireturn, 1) := by decide +kernel
theorem dX4_count_74 : decode cX4_count 74 = .ok (.aload_n 0, 1) := by decide +kernel
theorem dX4_count_75 : decode cX4_count 75 = .ok (.getfield 83, 3) := by decide +kernel
theorem dX4_count_78 : decode cX4_count 78 = .ok (.ireturn, 1) := by decide +kernel
theorem dX4_count_79 : decode cX4_count 79 = .ok (.aload_n 0, 1) := by decide +kernel
theorem dX4_count_80 : decode cX4_count 80 = .ok (.invokevirtual 156, 3) := by decide +kernel
theorem dX4_count_83 : decode cX4_count 83 = .ok (.ireturn, 1) := by decide +kernel
theorem dX4_count_84 : decode cX4_count 84 = .ok (.aload_n 0, 1) := by decide +kernel
theorem dX4_count_85 : decode cX4_count 85 = .ok (.getfield 38, 3) := by decide +kernel
theorem dX4_count_88 : decode cX4_count 88 = .ok (.iload_n 1, 1) := by decide +kernel
theorem dX4_count_89 : decode cX4_count 89 = .ok (.iconst 4, 1) := by decide +kernel
theorem dX4_count_90 : decode cX4_count 90 = .ok (.isub, 1) := by decide +kernel
theorem dX4_count_91 : decode cX4_count 91 = .ok (.iaload, 1) := by decide +kernel
theorem dX4_count_92 : decode cX4_count 92 = .ok (.aload_n 0, 1) := by decide +kernel
theorem dX4_count_93 : decode cX4_count 93 = .ok (.invokevirtual 101, 3) := by decide +kernel
theorem dX4_count_96 : decode cX4_count 96 = .ok (.ifCond .ne 7, 3) := by decide +kernel
theorem dX4_count_99 : decode cX4_count 99 = .ok (.iconst 0, 1) := by decide +kernel
theorem dX4_count_100 : decode cX4_count 100 = .ok (.goto 14, 3) := by decide +kernel
theorem dX4_count_103 : decode cX4_count 103 = .ok (.aload_n 0, 1) := by decide +kernel
theorem dX4_count_104 : decode cX4_count 104 = .ok (.iload_n 1, 1) := by decide +kernel
theorem dX4_count_105 : decode cX4_count 105 = .ok (.iconst 4, 1) := by decide +kernel
theorem dX4_count_106 : decode cX4_count 106 = .ok (.isub, 1) := by decide +kernel
theorem dX4_count_107 : decode cX4_count 107 = .ok (.aload_n 0, 1) := by decide +kernel
theorem dX4_count_108 : decode cX4_count 108 = .ok (.getfield 76, 3) := by decide +kernel
theorem dX4_count_111 : decode cX4_count 111 = .ok (.invokevirtual 133, 3) := by decide +kernel
theorem dX4_count_114 : decode cX4_count 114 = .ok (.iadd, 1) := by decide +kernel
theorem dX4_count_115 : decode cX4_count 115 = .ok (.ireturn, 1) := by decide +kernel
theorem dX4_count_116 : decode cX4_count 116 = .ok (.aload_n 0, 1) := by decide +kernel
theorem dX4_count_117 : decode cX4_count 117 = .ok (.getfield 95, 3) := by decide +kernel
theorem dX4_count_120 : decode cX4_count 120 = .ok (.aload_n 0, 1) := by decide +kernel
theorem dX4_count_121 : decode cX4_count 121 = .ok (.getfield 76, 3) := by decide +kernel
theorem dX4_count_124 : decode cX4_count 124 = .ok (.if_icmp .le 7, 3) := by decide +kernel
theorem dX4_count_127 : decode cX4_count 127 = .ok (.iconst (-1), 1) := by decide +kernel
theorem dX4_count_128 : decode cX4_count 128 = .ok (.goto 7, 3) := by decide +kernel
theorem dX4_count_131 : decode cX4_count 131 = .ok (.aload_n 0, 1) := by decide +kernel
theorem dX4_count_132 : decode cX4_count 132 = .ok (.getfield 86, 3) := by decide +kernel
theorem dX4_count_135 : decode cX4_count 135 = .ok (.ireturn, 1) := by decide +kernel
theorem dX4_count_136 : decode cX4_count 136 = .ok (.aload_n 0, 1) := by decide +kernel
theorem dX4_count_137 : decode cX4_count 137 = .ok (.getfield 83, 3) := by decide +kernel
theorem dX4_count_140 : decode cX4_count 140 = .ok (.aload_n 0, 1) := by decide +kernel
theorem dX4_count_141 : decode cX4_count 141 = .ok (.invokevirtual 156, 3) := by decide +kernel
theorem dX4_count_144 : decode cX4_count 144 = .ok (.isub, 1) := by decide +kernel
theorem dX4_count_145 : decode cX4_count 145 = .ok (.ireturn, 1) := by decide +kernel
theorem dX4_count_146 : decode cX4_count 146 = .ok (.iconst (-1), 1) := by decide +kernel
theorem dX4_count_147 : decode cX4_count 147 = .ok (.ireturn, 1) := by decide +kernel
theorem dX4_register_0 : decode cX4_register 0 = .ok (.aload_n 0, 1) := by decide +kernel
theorem dX4_register_1 : decode cX4_register 1 = .ok (.iconst 0, 1) := by decide +kernel
theorem dX4_register_2 : decode cX4_register 2 = .ok (.putfield 66, 3) := by decide +kernel
theorem dX4_register_5 : decode cX4_register 5 = .ok (.iload_n 1, 1) := by decide +kernel
theorem dX4_register_6 : decode cX4_register 6 = .ok (.ifCond .lt 9, 3) := by decide +kernel
theorem dX4_register_9 : decode cX4_register 9 = .ok (.iload_n 1, 1) := by decide +kernel
theorem dX4_register_10 : decode cX4_register 10 = .ok (.bipush 16, 2) := by decide +kernel
theorem dX4_register_12 : decode cX4_register 12 = .ok (.if_icmp .lt 10, 3) := by decide +kernel
theorem dX4_register_15 : decode cX4_register 15 = .ok (.aload_n 0, 1) := by decide +kernel
theorem dX4_register_16 : decode cX4_register 16 = .ok (.iconst 1, 1) := by decide +kernel
theorem dX4_register_17 : decode cX4_register 17 = .ok (.putfield 66, 3) := by decide +kernel
theorem dX4_register_20 : decode cX4_register 20 = .ok (.lconst 0, 1) := by decide +kernel
theorem dX4_register_21 : decode cX4_register 21 = .ok (.lreturn, 1) := by decide +kernel
theorem dX4_register_22 : decode cX4_register 22 = .ok (.aload_n 0, 1) := by decide +kernel
theorem dX4_register_23 : decode cX4_register 23 = .ok (.getfield 32, 3) := by decide +kernel
theorem dX4_register_26 : decode cX4_register 26 = .ok (.iload_n 1, 1) := by decide +kernel
theorem dX4_register_27 : decode cX4_register 27 = .ok (.laload, 1) := by decide +kernel
theorem dX4_register_28 : decode cX4_register 28 = .ok (.lreturn, 1) := by decide +kernel
theorem dX4_memory_0 : decode cX4_memory 0 = .ok (.aload_n 0, 1) := by decide +kernel
theorem dX4_memory_1 : decode cX4_memory 1 = .ok (.iconst 0, 1) := by decide +kernel
theorem dX4_memory_2 : decode cX4_memory 2 = .ok (.putfield 66, 3) := by decide +kernel
theorem dX4_memory_5 : decode cX4_memory 5 = .ok (.iload_n 1, 1) := by decide +kernel
theorem dX4_memory_6 : decode cX4_memory 6 = .ok (.ifCond .lt 10, 3) := by decide +kernel
theorem dX4_memory_9 : decode cX4_memory 9 = .ok (.iload_n 1, 1) := by decide +kernel
theorem dX4_memory_10 : decode cX4_memory 10 = .ok (.sipush 256, 3) := by decide +kernel
theorem dX4_memory_13 : decode cX4_memory 13 = .ok (.if_icmp .lt 10, 3) := by decide +kernel
theorem dX4_memory_16 : decode cX4_memory 16 = .ok (.aload_n 0, 1) := by decide +kernel
theorem dX4_memory_17 : decode cX4_memory 17 = .ok (.iconst 1, 1) := by decide +kernel
theorem dX4_memory_18 : decode cX4_memory 18 = .ok (.putfield 66, 3) := by decide +kernel
theorem dX4_memory_21 : decode cX4_memory 21 = .ok (.lconst 0, 1) := by decide +kernel
theorem dX4_memory_22 : decode cX4_memory 22 = .ok (.lreturn, 1) := by decide +kernel
theorem dX4_memory_23 : decode cX4_memory 23 = .ok (.aload_n 0, 1) := by decide +kernel
theorem dX4_memory_24 : decode cX4_memory 24 = .ok (.getfield 35, 3) := by decide +kernel
theorem dX4_memory_27 : decode cX4_memory 27 = .ok (.iload_n 1, 1) := by decide +kernel
theorem dX4_memory_28 : decode cX4_memory 28 = .ok (.laload, 1) := by decide +kernel
theorem dX4_memory_29 : decode cX4_memory 29 = .ok (.lreturn, 1) := by decide +kernel
theorem dX4_plain_0 : decode cX4_plain 0 = .ok (.aload_n 0, 1) := by decide +kernel
theorem dX4_plain_1 : decode cX4_plain 1 = .ok (.iconst 0, 1) := by decide +kernel
theorem dX4_plain_2 : decode cX4_plain 2 = .ok (.putfield 66, 3) := by decide +kernel
theorem dX4_plain_5 : decode cX4_plain 5 = .ok (.iload_n 1, 1) := by decide +kernel
theorem dX4_plain_6 : decode cX4_plain 6 = .ok (.ifCond .lt 28, 3) := by decide +kernel
theorem dX4_plain_9 : decode cX4_plain 9 = .ok (.iload_n 1, 1) := by decide +kernel
theorem dX4_plain_10 : decode cX4_plain 10 = .ok (.iconst 1, 1) := by decide +kernel
theorem dX4_plain_11 : decode cX4_plain 11 = .ok (.if_icmp .gt 23, 3) := by decide +kernel
theorem dX4_plain_14 : decode cX4_plain 14 = .ok (.iload_n 2, 1) := by decide +kernel
theorem dX4_plain_15 : decode cX4_plain 15 = .ok (.ifCond .lt 19, 3) := by decide +kernel
theorem dX4_plain_18 : decode cX4_plain 18 = .ok (.iload_n 2, 1) := by decide +kernel
theorem dX4_plain_19 : decode cX4_plain 19 = .ok (.iload_n 1, 1) := by decide +kernel
theorem dX4_plain_20 : decode cX4_plain 20 = .ok (.ifCond .ne 8, 3) := by decide +kernel
theorem dX4_plain_23 : decode cX4_plain 23 = .ok (.bipush 16, 2) := by decide +kernel
theorem dX4_plain_25 : decode cX4_plain 25 = .ok (.goto 6, 3) := by decide +kernel
theorem dX4_plain_28 : decode cX4_plain 28 = .ok (.sipush 256, 3) := by decide +kernel
theorem dX4_plain_31 : decode cX4_plain 31 = .ok (.if_icmp .lt 10, 3) := by decide +kernel
theorem dX4_plain_34 : decode cX4_plain 34 = .ok (.aload_n 0, 1) := by decide +kernel
theorem dX4_plain_35 : decode cX4_plain 35 = .ok (.iconst 1, 1) := by decide +kernel
theorem dX4_plain_36 : decode cX4_plain 36 = .ok (.putfield 66, 3) := by decide +kernel
theorem dX4_plain_39 : decode cX4_plain 39 = .ok (.lconst 0, 1) := by decide +kernel
theorem dX4_plain_40 : decode cX4_plain 40 = .ok (.lreturn, 1) := by decide +kernel
theorem dX4_plain_41 : decode cX4_plain 41 = .ok (.iload_n 1, 1) := by decide +kernel
theorem dX4_plain_42 : decode cX4_plain 42 = .ok (.ifCond .ne 12, 3) := by decide +kernel
theorem dX4_plain_45 : decode cX4_plain 45 = .ok (.aload_n 0, 1) := by decide +kernel
theorem dX4_plain_46 : decode cX4_plain 46 = .ok (.getfield 26, 3) := by decide +kernel
theorem dX4_plain_49 : decode cX4_plain 49 = .ok (.iload_n 2, 1) := by decide +kernel
theorem dX4_plain_50 : decode cX4_plain 50 = .ok (.laload, 1) := by decide +kernel
theorem dX4_plain_51 : decode cX4_plain 51 = .ok (.goto 9, 3) := by decide +kernel
theorem dX4_plain_54 : decode cX4_plain 54 = .ok (.aload_n 0, 1) := by decide +kernel
theorem dX4_plain_55 : decode cX4_plain 55 = .ok (.getfield 29, 3) := by decide +kernel
theorem dX4_plain_58 : decode cX4_plain 58 = .ok (.iload_n 2, 1) := by decide +kernel
theorem dX4_plain_59 : decode cX4_plain 59 = .ok (.laload, 1) := by decide +kernel
theorem dX4_plain_60 : decode cX4_plain 60 = .ok (.lreturn, 1) := by decide +kernel
theorem dX4_unit_0 : decode cX4_unit 0 = .ok (.aload_n 0, 1) := by decide +kernel
theorem dX4_unit_1 : decode cX4_unit 1 = .ok (.iconst 0, 1) := by decide +kernel
theorem dX4_unit_2 : decode cX4_unit 2 = .ok (.putfield 66, 3) := by decide +kernel
theorem dX4_unit_5 : decode cX4_unit 5 = .ok (.iload_n 1, 1) := by decide +kernel
theorem dX4_unit_6 : decode cX4_unit 6 = .ok (.ifCond .lt 32, 3) := by decide +kernel
theorem dX4_unit_9 : decode cX4_unit 9 = .ok (.iload_n 1, 1) := by decide +kernel
theorem dX4_unit_10 : decode cX4_unit 10 = .ok (.bipush 6, 2) := by decide +kernel
theorem dX4_unit_12 : decode cX4_unit 12 = .ok (.if_icmp .ge 26, 3) := by decide +kernel
theorem dX4_unit_15 : decode cX4_unit 15 = .ok (.iload_n 2, 1) := by decide +kernel
theorem dX4_unit_16 : decode cX4_unit 16 = .ok (.ifCond .lt 22, 3) := by decide +kernel
theorem dX4_unit_19 : decode cX4_unit 19 = .ok (.iload_n 2, 1) := by decide +kernel
theorem dX4_unit_20 : decode cX4_unit 20 = .ok (.aload_n 0, 1) := by decide +kernel
theorem dX4_unit_21 : decode cX4_unit 21 = .ok (.getfield 13, 3) := by decide +kernel
theorem dX4_unit_24 : decode cX4_unit 24 = .ok (.iload_n 1, 1) := by decide +kernel
theorem dX4_unit_25 : decode cX4_unit 25 = .ok (.iaload, 1) := by decide +kernel
theorem dX4_unit_26 : decode cX4_unit 26 = .ok (.if_icmp .ge 12, 3) := by decide +kernel
theorem dX4_unit_29 : decode cX4_unit 29 = .ok (.iload_n 3, 1) := by decide +kernel
theorem dX4_unit_30 : decode cX4_unit 30 = .ok (.ifCond .lt 8, 3) := by decide +kernel
theorem dX4_unit_33 : decode cX4_unit 33 = .ok (.iload_n 3, 1) := by decide +kernel
theorem dX4_unit_34 : decode cX4_unit 34 = .ok (.iconst 2, 1) := by decide +kernel
theorem dX4_unit_35 : decode cX4_unit 35 = .ok (.if_icmp .le 5, 3) := by decide +kernel
theorem dX4_unit_38 : decode cX4_unit 38 = .ok (.iconst (-1), 1) := by decide +kernel
theorem dX4_unit_39 : decode cX4_unit 39 = .ok (.ireturn, 1) := by decide +kernel
theorem dX4_unit_40 : decode cX4_unit 40 = .ok (.iconst 3, 1) := by decide +kernel
theorem dX4_unit_41 : decode cX4_unit 41 = .ok (.iload_n 1, 1) := by decide +kernel
theorem dX4_unit_42 : decode cX4_unit 42 = .ok (.imul, 1) := by decide +kernel
theorem dX4_unit_43 : decode cX4_unit 43 = .ok (.iload_n 2, 1) := by decide +kernel
theorem dX4_unit_44 : decode cX4_unit 44 = .ok (.iadd, 1) := by decide +kernel
theorem dX4_unit_45 : decode cX4_unit 45 = .ok (.istore 4, 2) := by decide +kernel
theorem dX4_unit_47 : decode cX4_unit 47 = .ok (.aload_n 0, 1) := by decide +kernel
theorem dX4_unit_48 : decode cX4_unit 48 = .ok (.getfield 56, 3) := by decide +kernel
theorem dX4_unit_51 : decode cX4_unit 51 = .ok (.iload 4, 2) := by decide +kernel
theorem dX4_unit_53 : decode cX4_unit 53 = .ok (.baload, 1) := by decide +kernel
theorem dX4_unit_54 : decode cX4_unit 54 = .ok (.ifCond .ne 5, 3) := by decide +kernel
theorem dX4_unit_57 : decode cX4_unit 57 = .ok (.iconst (-1), 1) := by decide +kernel
theorem dX4_unit_58 : decode cX4_unit 58 = .ok (.ireturn, 1) := by decide +kernel
theorem dX4_unit_59 : decode cX4_unit 59 = .ok (.iload_n 3, 1) := by decide +kernel
theorem dX4_unit_60 : decode cX4_unit 60 = .ok (.iconst 2, 1) := by decide +kernel
theorem dX4_unit_61 : decode cX4_unit 61 = .ok (.if_icmp .ge 16, 3) := by decide +kernel
theorem dX4_unit_64 : decode cX4_unit 64 = .ok (.aload_n 0, 1) := by decide +kernel
theorem dX4_unit_65 : decode cX4_unit 65 = .ok (.getfield 50, 3) := by decide +kernel
theorem dX4_unit_68 : decode cX4_unit 68 = .ok (.bipush 7, 2) := by decide +kernel
theorem dX4_unit_70 : decode cX4_unit 70 = .ok (.iload 4, 2) := by decide +kernel
theorem dX4_unit_72 : decode cX4_unit 72 = .ok (.imul, 1) := by decide +kernel
theorem dX4_unit_73 : decode cX4_unit 73 = .ok (.iload_n 3, 1) := by decide +kernel
theorem dX4_unit_74 : decode cX4_unit 74 = .ok (.iadd, 1) := by decide +kernel
theorem dX4_unit_75 : decode cX4_unit 75 = .ok (.iaload, 1) := by decide +kernel
theorem dX4_unit_76 : decode cX4_unit 76 = .ok (.ireturn, 1) := by decide +kernel
theorem dX4_unit_77 : decode cX4_unit 77 = .ok (.aload_n 0, 1) := by decide +kernel
theorem dX4_unit_78 : decode cX4_unit 78 = .ok (.getfield 50, 3) := by decide +kernel
theorem dX4_unit_81 : decode cX4_unit 81 = .ok (.bipush 7, 2) := by decide +kernel
theorem dX4_unit_83 : decode cX4_unit 83 = .ok (.iload 4, 2) := by decide +kernel
theorem dX4_unit_85 : decode cX4_unit 85 = .ok (.imul, 1) := by decide +kernel
theorem dX4_unit_86 : decode cX4_unit 86 = .ok (.iconst 4, 1) := by decide +kernel
theorem dX4_unit_87 : decode cX4_unit 87 = .ok (.iadd, 1) := by decide +kernel
theorem dX4_unit_88 : decode cX4_unit 88 = .ok (.iaload, 1) := by decide +kernel
theorem dX4_unit_89 : decode cX4_unit 89 = .ok (.aload_n 0, 1) := by decide +kernel
theorem dX4_unit_90 : decode cX4_unit 90 = .ok (.getfield 76, 3) := by decide +kernel
theorem dX4_unit_93 : decode cX4_unit 93 = .ok (.if_icmp .gt 7, 3) := by decide +kernel
theorem dX4_unit_96 : decode cX4_unit 96 = .ok (.iconst 3, 1) := by decide +kernel
theorem dX4_unit_97 : decode cX4_unit 97 = .ok (.goto 27, 3) := by decide +kernel
theorem dX4_unit_100 : decode cX4_unit 100 = .ok (.aload_n 0, 1) := by decide +kernel
theorem dX4_unit_101 : decode cX4_unit 101 = .ok (.getfield 50, 3) := by decide +kernel
theorem dX4_unit_104 : decode cX4_unit 104 = .ok (.bipush 7, 2) := by decide +kernel
theorem dX4_unit_106 : decode cX4_unit 106 = .ok (.iload 4, 2) := by decide +kernel
theorem dX4_unit_108 : decode cX4_unit 108 = .ok (.imul, 1) := by decide +kernel
theorem dX4_unit_109 : decode cX4_unit 109 = .ok (.iconst 3, 1) := by decide +kernel
theorem dX4_unit_110 : decode cX4_unit 110 = .ok (.iadd, 1) := by decide +kernel
theorem dX4_unit_111 : decode cX4_unit 111 = .ok (.iaload, 1) := by decide +kernel
theorem dX4_unit_112 : decode cX4_unit 112 = .ok (.aload_n 0, 1) := by decide +kernel
theorem dX4_unit_113 : decode cX4_unit 113 = .ok (.getfield 76, 3) := by decide +kernel
theorem dX4_unit_116 : decode cX4_unit 116 = .ok (.if_icmp .gt 7, 3) := by decide +kernel
theorem dX4_unit_119 : decode cX4_unit 119 = .ok (.iconst 2, 1) := by decide +kernel
theorem dX4_unit_120 : decode cX4_unit 120 = .ok (.goto 4, 3) := by decide +kernel
theorem dX4_unit_123 : decode cX4_unit 123 = .ok (.iconst 1, 1) := by decide +kernel
theorem dX4_unit_124 : decode cX4_unit 124 = .ok (.ireturn, 1) := by decide +kernel
theorem dX4_pending_0 : decode cX4_pending 0 = .ok (.aload_n 0, 1) := by decide +kernel
theorem dX4_pending_1 : decode cX4_pending 1 = .ok (.iconst 0, 1) := by decide +kernel
theorem dX4_pending_2 : decode cX4_pending 2 = .ok (.putfield 66, 3) := by decide +kernel
theorem dX4_pending_5 : decode cX4_pending 5 = .ok (.iload_n 1, 1) := by decide +kernel
theorem dX4_pending_6 : decode cX4_pending 6 = .ok (.ifCond .lt 31, 3) := by decide +kernel
theorem dX4_pending_9 : decode cX4_pending 9 = .ok (.iload_n 1, 1) := by decide +kernel
theorem dX4_pending_10 : decode cX4_pending 10 = .ok (.bipush 16, 2) := by decide +kernel
theorem dX4_pending_12 : decode cX4_pending 12 = .ok (.if_icmp .ge 25, 3) := by decide +kernel
theorem dX4_pending_15 : decode cX4_pending 15 = .ok (.aload_n 0, 1) := by decide +kernel
theorem dX4_pending_16 : decode cX4_pending 16 = .ok (.getfield 41, 3) := by decide +kernel
theorem dX4_pending_19 : decode cX4_pending 19 = .ok (.iload_n 1, 1) := by decide +kernel
theorem dX4_pending_20 : decode cX4_pending 20 = .ok (.iaload, 1) := by decide +kernel
theorem dX4_pending_21 : decode cX4_pending 21 = .ok (.aload_n 0, 1) := by decide +kernel
theorem dX4_pending_22 : decode cX4_pending 22 = .ok (.getfield 76, 3) := by decide +kernel
theorem dX4_pending_25 : decode cX4_pending 25 = .ok (.if_icmp .le 12, 3) := by decide +kernel
theorem dX4_pending_28 : decode cX4_pending 28 = .ok (.aload_n 0, 1) := by decide +kernel
theorem dX4_pending_29 : decode cX4_pending 29 = .ok (.getfield 44, 3) := by decide +kernel
theorem dX4_pending_32 : decode cX4_pending 32 = .ok (.iload_n 1, 1) := by decide +kernel
theorem dX4_pending_33 : decode cX4_pending 33 = .ok (.iaload, 1) := by decide +kernel
theorem dX4_pending_34 : decode cX4_pending 34 = .ok (.goto 4, 3) := by decide +kernel
theorem dX4_pending_37 : decode cX4_pending 37 = .ok (.iconst (-1), 1) := by decide +kernel
theorem dX4_pending_38 : decode cX4_pending 38 = .ok (.ireturn, 1) := by decide +kernel
theorem dX4_latest_0 : decode cX4_latest 0 = .ok (.aload_n 0, 1) := by decide +kernel
theorem dX4_latest_1 : decode cX4_latest 1 = .ok (.iconst 0, 1) := by decide +kernel
theorem dX4_latest_2 : decode cX4_latest 2 = .ok (.putfield 66, 3) := by decide +kernel
theorem dX4_latest_5 : decode cX4_latest 5 = .ok (.iload_n 1, 1) := by decide +kernel
theorem dX4_latest_6 : decode cX4_latest 6 = .ok (.ifCond .lt 26, 3) := by decide +kernel
theorem dX4_latest_9 : decode cX4_latest 9 = .ok (.iload_n 1, 1) := by decide +kernel
theorem dX4_latest_10 : decode cX4_latest 10 = .ok (.bipush 64, 2) := by decide +kernel
theorem dX4_latest_12 : decode cX4_latest 12 = .ok (.if_icmp .ge 20, 3) := by decide +kernel
theorem dX4_latest_15 : decode cX4_latest 15 = .ok (.iload_n 1, 1) := by decide +kernel
theorem dX4_latest_16 : decode cX4_latest 16 = .ok (.aload_n 0, 1) := by decide +kernel
theorem dX4_latest_17 : decode cX4_latest 17 = .ok (.getfield 83, 3) := by decide +kernel
theorem dX4_latest_20 : decode cX4_latest 20 = .ok (.if_icmp .ge 12, 3) := by decide +kernel
theorem dX4_latest_23 : decode cX4_latest 23 = .ok (.iload_n 2, 1) := by decide +kernel
theorem dX4_latest_24 : decode cX4_latest 24 = .ok (.ifCond .lt 8, 3) := by decide +kernel
theorem dX4_latest_27 : decode cX4_latest 27 = .ok (.iload_n 2, 1) := by decide +kernel
theorem dX4_latest_28 : decode cX4_latest 28 = .ok (.iconst 5, 1) := by decide +kernel
theorem dX4_latest_29 : decode cX4_latest 29 = .ok (.if_icmp .le 5, 3) := by decide +kernel
theorem dX4_latest_32 : decode cX4_latest 32 = .ok (.iconst (-1), 1) := by decide +kernel
theorem dX4_latest_33 : decode cX4_latest 33 = .ok (.ireturn, 1) := by decide +kernel
theorem dX4_latest_34 : decode cX4_latest 34 = .ok (.aload_n 0, 1) := by decide +kernel
theorem dX4_latest_35 : decode cX4_latest 35 = .ok (.getfield 60, 3) := by decide +kernel
theorem dX4_latest_38 : decode cX4_latest 38 = .ok (.bipush 6, 2) := by decide +kernel
theorem dX4_latest_40 : decode cX4_latest 40 = .ok (.aload_n 0, 1) := by decide +kernel
theorem dX4_latest_41 : decode cX4_latest 41 = .ok (.getfield 83, 3) := by decide +kernel
theorem dX4_latest_44 : decode cX4_latest 44 = .ok (.iconst 1, 1) := by decide +kernel
theorem dX4_latest_45 : decode cX4_latest 45 = .ok (.isub, 1) := by decide +kernel
theorem dX4_latest_46 : decode cX4_latest 46 = .ok (.iload_n 1, 1) := by decide +kernel
theorem dX4_latest_47 : decode cX4_latest 47 = .ok (.isub, 1) := by decide +kernel
theorem dX4_latest_48 : decode cX4_latest 48 = .ok (.bipush 64, 2) := by decide +kernel
theorem dX4_latest_50 : decode cX4_latest 50 = .ok (.irem, 1) := by decide +kernel
theorem dX4_latest_51 : decode cX4_latest 51 = .ok (.imul, 1) := by decide +kernel
theorem dX4_latest_52 : decode cX4_latest 52 = .ok (.iload_n 2, 1) := by decide +kernel
theorem dX4_latest_53 : decode cX4_latest 53 = .ok (.iadd, 1) := by decide +kernel
theorem dX4_latest_54 : decode cX4_latest 54 = .ok (.iaload, 1) := by decide +kernel
theorem dX4_latest_55 : decode cX4_latest 55 = .ok (.istore_n 3, 1) := by decide +kernel
theorem dX4_latest_56 : decode cX4_latest 56 = .ok (.iload_n 2, 1) := by decide +kernel
theorem dX4_latest_57 : decode cX4_latest 57 = .ok (.iconst 1, 1) := by decide +kernel
theorem dX4_latest_58 : decode cX4_latest 58 = .ok (.if_icmp .le 15, 3) := by decide +kernel
theorem dX4_latest_61 : decode cX4_latest 61 = .ok (.iload_n 3, 1) := by decide +kernel
theorem dX4_latest_62 : decode cX4_latest 62 = .ok (.aload_n 0, 1) := by decide +kernel
theorem dX4_latest_63 : decode cX4_latest 63 = .ok (.getfield 76, 3) := by decide +kernel
theorem dX4_latest_66 : decode cX4_latest 66 = .ok (.if_icmp .le 7, 3) := by decide +kernel
theorem dX4_latest_69 : decode cX4_latest 69 = .ok (.iconst (-1), 1) := by decide +kernel
theorem dX4_latest_70 : decode cX4_latest 70 = .ok (.goto 4, 3) := by decide +kernel
theorem dX4_latest_73 : decode cX4_latest 73 = .ok (.iload_n 3, 1) := by decide +kernel
theorem dX4_latest_74 : decode cX4_latest 74 = .ok (.ireturn, 1) := by decide +kernel
