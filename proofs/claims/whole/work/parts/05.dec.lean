theorem dX10_sendsAs_63 : decode cX10_sendsAs 63 = .ok (.invokevirtual 192, 3) := by decide +kernel
theorem dX10_sendsAs_66 : decode cX10_sendsAs 66 = .ok (.goto 23, 3) := by decide +kernel
theorem dX10_sendsAs_69 : decode cX10_sendsAs 69 = .ok (.aload_n 0, 1) := by decide +kernel
theorem dX10_sendsAs_70 : decode cX10_sendsAs 70 = .ok (.aload_n 0, 1) := by decide +kernel
theorem dX10_sendsAs_71 : decode cX10_sendsAs 71 = .ok (.getfield 56, 3) := by decide +kernel
theorem dX10_sendsAs_74 : decode cX10_sendsAs 74 = .ok (.iconst 4, 1) := by decide +kernel
theorem dX10_sendsAs_75 : decode cX10_sendsAs 75 = .ok (.bipush 12, 2) := by decide +kernel
theorem dX10_sendsAs_77 : decode cX10_sendsAs 77 = .ok (.iload_n 1, 1) := by decide +kernel
theorem dX10_sendsAs_78 : decode cX10_sendsAs 78 = .ok (.imul, 1) := by decide +kernel
theorem dX10_sendsAs_79 : decode cX10_sendsAs 79 = .ok (.iload_n 3, 1) := by decide +kernel
theorem dX10_sendsAs_80 : decode cX10_sendsAs 80 = .ok (.iadd, 1) := by decide +kernel
theorem dX10_sendsAs_81 : decode cX10_sendsAs 81 = .ok (.imul, 1) := by decide +kernel
theorem dX10_sendsAs_82 : decode cX10_sendsAs 82 = .ok (.iaload, 1) := by decide +kernel
theorem dX10_sendsAs_83 : decode cX10_sendsAs 83 = .ok (.iload_n 2, 1) := by decide +kernel
theorem dX10_sendsAs_84 : decode cX10_sendsAs 84 = .ok (.iload 4, 2) := by decide +kernel
theorem dX10_sendsAs_86 : decode cX10_sendsAs 86 = .ok (.invokevirtual 202, 3) := by decide +kernel
theorem dX10_sendsAs_89 : decode cX10_sendsAs 89 = .ok (.return_, 1) := by decide +kernel
theorem dX10_take_0 : decode cX10_take 0 = .ok (.aload_n 0, 1) := by decide +kernel
theorem dX10_take_1 : decode cX10_take 1 = .ok (.getfield 186, 3) := by decide +kernel
theorem dX10_take_4 : decode cX10_take 4 = .ok (.iconst 1, 1) := by decide +kernel
theorem dX10_take_5 : decode cX10_take 5 = .ok (.isub, 1) := by decide +kernel
theorem dX10_take_6 : decode cX10_take 6 = .ok (.istore_n 1, 1) := by decide +kernel
theorem dX10_take_7 : decode cX10_take 7 = .ok (.aload_n 0, 1) := by decide +kernel
theorem dX10_take_8 : decode cX10_take 8 = .ok (.getfield 89, 3) := by decide +kernel
theorem dX10_take_11 : decode cX10_take 11 = .ok (.iload_n 1, 1) := by decide +kernel
theorem dX10_take_12 : decode cX10_take 12 = .ok (.iaload, 1) := by decide +kernel
theorem dX10_take_13 : decode cX10_take 13 = .ok (.istore_n 2, 1) := by decide +kernel
theorem dX10_take_14 : decode cX10_take 14 = .ok (.aload_n 0, 1) := by decide +kernel
theorem dX10_take_15 : decode cX10_take 15 = .ok (.getfield 80, 3) := by decide +kernel
theorem dX10_take_18 : decode cX10_take 18 = .ok (.iload_n 1, 1) := by decide +kernel
theorem dX10_take_19 : decode cX10_take 19 = .ok (.iaload, 1) := by decide +kernel
theorem dX10_take_20 : decode cX10_take 20 = .ok (.ifCond .ne 19, 3) := by decide +kernel
theorem dX10_take_23 : decode cX10_take 23 = .ok (.aload_n 0, 1) := by decide +kernel
theorem dX10_take_24 : decode cX10_take 24 = .ok (.getfield 95, 3) := by decide +kernel
theorem dX10_take_27 : decode cX10_take 27 = .ok (.iload_n 1, 1) := by decide +kernel
theorem dX10_take_28 : decode cX10_take 28 = .ok (.aload_n 0, 1) := by decide +kernel
theorem dX10_take_29 : decode cX10_take 29 = .ok (.getfield 183, 3) := by decide +kernel
theorem dX10_take_32 : decode cX10_take 32 = .ok (.iastore, 1) := by decide +kernel
theorem dX10_take_33 : decode cX10_take 33 = .ok (.aload_n 0, 1) := by decide +kernel
theorem dX10_take_34 : decode cX10_take 34 = .ok (.iconst 0, 1) := by decide +kernel
theorem dX10_take_35 : decode cX10_take 35 = .ok (.putfield 180, 3) := by decide +kernel
theorem dX10_take_38 : decode cX10_take 38 = .ok (.return_, 1) := by decide +kernel
theorem dX10_take_39 : decode cX10_take 39 = .ok (.aload_n 0, 1) := by decide +kernel
theorem dX10_take_40 : decode cX10_take 40 = .ok (.getfield 80, 3) := by decide +kernel
theorem dX10_take_43 : decode cX10_take 43 = .ok (.iload_n 1, 1) := by decide +kernel
theorem dX10_take_44 : decode cX10_take 44 = .ok (.iaload, 1) := by decide +kernel
theorem dX10_take_45 : decode cX10_take 45 = .ok (.iconst 3, 1) := by decide +kernel
theorem dX10_take_46 : decode cX10_take 46 = .ok (.if_icmp .ne 37, 3) := by decide +kernel
theorem dX10_take_49 : decode cX10_take 49 = .ok (.aload_n 0, 1) := by decide +kernel
theorem dX10_take_50 : decode cX10_take 50 = .ok (.getfield 41, 3) := by decide +kernel
theorem dX10_take_53 : decode cX10_take 53 = .ok (.iload_n 2, 1) := by decide +kernel
theorem dX10_take_54 : decode cX10_take 54 = .ok (.baload, 1) := by decide +kernel
theorem dX10_take_55 : decode cX10_take 55 = .ok (.ifCond .eq 28, 3) := by decide +kernel
theorem dX10_take_58 : decode cX10_take 58 = .ok (.aload_n 0, 1) := by decide +kernel
theorem dX10_take_59 : decode cX10_take 59 = .ok (.iload_n 2, 1) := by decide +kernel
theorem dX10_take_60 : decode cX10_take 60 = .ok (.invokevirtual 137, 3) := by decide +kernel
theorem dX10_take_63 : decode cX10_take 63 = .ok (.aload_n 0, 1) := by decide +kernel
theorem dX10_take_64 : decode cX10_take 64 = .ok (.getfield 80, 3) := by decide +kernel
theorem dX10_take_67 : decode cX10_take 67 = .ok (.iload_n 1, 1) := by decide +kernel
theorem dX10_take_68 : decode cX10_take 68 = .ok (.iconst 4, 1) := by decide +kernel
theorem dX10_take_69 : decode cX10_take 69 = .ok (.iastore, 1) := by decide +kernel
theorem dX10_take_70 : decode cX10_take 70 = .ok (.aload_n 0, 1) := by decide +kernel
theorem dX10_take_71 : decode cX10_take 71 = .ok (.iconst 0, 1) := by decide +kernel
theorem dX10_take_72 : decode cX10_take 72 = .ok (.putfield 180, 3) := by decide +kernel
theorem dX10_take_75 : decode cX10_take 75 = .ok (.aload_n 0, 1) := by decide +kernel
theorem dX10_take_76 : decode cX10_take 76 = .ok (.iload_n 2, 1) := by decide +kernel
theorem dX10_take_77 : decode cX10_take 77 = .ok (.iconst 1, 1) := by decide +kernel
theorem dX10_take_78 : decode cX10_take 78 = .ok (.iconst 0, 1) := by decide +kernel
theorem dX10_take_79 : decode cX10_take 79 = .ok (.invokevirtual 205, 3) := by decide +kernel
theorem dX10_take_82 : decode cX10_take 82 = .ok (.return_, 1) := by decide +kernel
theorem dX10_take_83 : decode cX10_take 83 = .ok (.aload_n 0, 1) := by decide +kernel
theorem dX10_take_84 : decode cX10_take 84 = .ok (.dup, 1) := by decide +kernel
theorem dX10_take_85 : decode cX10_take 85 = .ok (.getfield 186, 3) := by decide +kernel
theorem dX10_take_88 : decode cX10_take 88 = .ok (.iconst 1, 1) := by decide +kernel
theorem dX10_take_89 : decode cX10_take 89 = .ok (.isub, 1) := by decide +kernel
theorem dX10_take_90 : decode cX10_take 90 = .ok (.putfield 186, 3) := by decide +kernel
theorem dX10_take_93 : decode cX10_take 93 = .ok (.aload_n 0, 1) := by decide +kernel
theorem dX10_take_94 : decode cX10_take 94 = .ok (.aload_n 0, 1) := by decide +kernel
theorem dX10_take_95 : decode cX10_take 95 = .ok (.getfield 80, 3) := by decide +kernel
theorem dX10_take_98 : decode cX10_take 98 = .ok (.iload_n 1, 1) := by decide +kernel
theorem dX10_take_99 : decode cX10_take 99 = .ok (.iaload, 1) := by decide +kernel
theorem dX10_take_100 : decode cX10_take 100 = .ok (.iconst 1, 1) := by decide +kernel
theorem dX10_take_101 : decode cX10_take 101 = .ok (.if_icmp .ne 7, 3) := by decide +kernel
theorem dX10_take_104 : decode cX10_take 104 = .ok (.iload_n 2, 1) := by decide +kernel
theorem dX10_take_105 : decode cX10_take 105 = .ok (.goto 4, 3) := by decide +kernel
theorem dX10_take_108 : decode cX10_take 108 = .ok (.iconst 1, 1) := by decide +kernel
theorem dX10_take_109 : decode cX10_take 109 = .ok (.putfield 183, 3) := by decide +kernel
theorem dX10_take_112 : decode cX10_take 112 = .ok (.aload_n 0, 1) := by decide +kernel
theorem dX10_take_113 : decode cX10_take 113 = .ok (.getfield 80, 3) := by decide +kernel
theorem dX10_take_116 : decode cX10_take 116 = .ok (.iload_n 1, 1) := by decide +kernel
theorem dX10_take_117 : decode cX10_take 117 = .ok (.iaload, 1) := by decide +kernel
theorem dX10_take_118 : decode cX10_take 118 = .ok (.iconst 2, 1) := by decide +kernel
theorem dX10_take_119 : decode cX10_take 119 = .ok (.if_icmp .ne 46, 3) := by decide +kernel
theorem dX10_take_122 : decode cX10_take 122 = .ok (.aload_n 0, 1) := by decide +kernel
theorem dX10_take_123 : decode cX10_take 123 = .ok (.getfield 41, 3) := by decide +kernel
theorem dX10_take_126 : decode cX10_take 126 = .ok (.iload_n 2, 1) := by decide +kernel
theorem dX10_take_127 : decode cX10_take 127 = .ok (.baload, 1) := by decide +kernel
theorem dX10_take_128 : decode cX10_take 128 = .ok (.ifCond .eq 37, 3) := by decide +kernel
theorem dX10_take_131 : decode cX10_take 131 = .ok (.aload_n 0, 1) := by decide +kernel
theorem dX10_take_132 : decode cX10_take 132 = .ok (.iload_n 2, 1) := by decide +kernel
theorem dX10_take_133 : decode cX10_take 133 = .ok (.invokevirtual 177, 3) := by decide +kernel
theorem dX10_take_136 : decode cX10_take 136 = .ok (.aload_n 0, 1) := by decide +kernel
theorem dX10_take_137 : decode cX10_take 137 = .ok (.getfield 68, 3) := by decide +kernel
theorem dX10_take_140 : decode cX10_take 140 = .ok (.iload_n 2, 1) := by decide +kernel
theorem dX10_take_141 : decode cX10_take 141 = .ok (.iaload, 1) := by decide +kernel
theorem dX10_take_142 : decode cX10_take 142 = .ok (.ifCond .eq 16, 3) := by decide +kernel
theorem dX10_take_145 : decode cX10_take 145 = .ok (.aload_n 0, 1) := by decide +kernel
theorem dX10_take_146 : decode cX10_take 146 = .ok (.aload_n 0, 1) := by decide +kernel
theorem dX10_take_147 : decode cX10_take 147 = .ok (.getfield 68, 3) := by decide +kernel
theorem dX10_take_150 : decode cX10_take 150 = .ok (.iload_n 2, 1) := by decide +kernel
theorem dX10_take_151 : decode cX10_take 151 = .ok (.iaload, 1) := by decide +kernel
theorem dX10_take_152 : decode cX10_take 152 = .ok (.invokevirtual 177, 3) := by decide +kernel
theorem dX10_take_155 : decode cX10_take 155 = .ok (.goto (-19), 3) := by decide +kernel
theorem dX10_take_158 : decode cX10_take 158 = .ok (.aload_n 0, 1) := by decide +kernel
theorem dX10_take_159 : decode cX10_take 159 = .ok (.getfield 41, 3) := by decide +kernel
theorem dX10_take_162 : decode cX10_take 162 = .ok (.iload_n 2, 1) := by decide +kernel
theorem dX10_take_163 : decode cX10_take 163 = .ok (.iconst 0, 1) := by decide +kernel
theorem dX10_take_164 : decode cX10_take 164 = .ok (.bastore, 1) := by decide +kernel
theorem dX10_take_165 : decode cX10_take 165 = .ok (.return_, 1) := by decide +kernel
theorem dX10_ends_0 : decode cX10_ends 0 = .ok (.aload_n 0, 1) := by decide +kernel
theorem dX10_ends_1 : decode cX10_ends 1 = .ok (.dup, 1) := by decide +kernel
theorem dX10_ends_2 : decode cX10_ends 2 = .ok (.getfield 186, 3) := by decide +kernel
theorem dX10_ends_5 : decode cX10_ends 5 = .ok (.iconst 1, 1) := by decide +kernel
theorem dX10_ends_6 : decode cX10_ends 6 = .ok (.isub, 1) := by decide +kernel
theorem dX10_ends_7 : decode cX10_ends 7 = .ok (.putfield 186, 3) := by decide +kernel
theorem dX10_ends_10 : decode cX10_ends 10 = .ok (.aload_n 0, 1) := by decide +kernel
theorem dX10_ends_11 : decode cX10_ends 11 = .ok (.dup, 1) := by decide +kernel
theorem dX10_ends_12 : decode cX10_ends 12 = .ok (.getfield 189, 3) := by decide +kernel
theorem dX10_ends_15 : decode cX10_ends 15 = .ok (.iconst 1, 1) := by decide +kernel
theorem dX10_ends_16 : decode cX10_ends 16 = .ok (.isub, 1) := by decide +kernel
theorem dX10_ends_17 : decode cX10_ends 17 = .ok (.putfield 189, 3) := by decide +kernel
theorem dX10_ends_20 : decode cX10_ends 20 = .ok (.aload_n 0, 1) := by decide +kernel
theorem dX10_ends_21 : decode cX10_ends 21 = .ok (.aload_n 0, 1) := by decide +kernel
theorem dX10_ends_22 : decode cX10_ends 22 = .ok (.getfield 95, 3) := by decide +kernel
theorem dX10_ends_25 : decode cX10_ends 25 = .ok (.iload_n 1, 1) := by decide +kernel
theorem dX10_ends_26 : decode cX10_ends 26 = .ok (.iaload, 1) := by decide +kernel
theorem dX10_ends_27 : decode cX10_ends 27 = .ok (.invokevirtual 192, 3) := by decide +kernel
theorem dX10_ends_30 : decode cX10_ends 30 = .ok (.return_, 1) := by decide +kernel
theorem dX10_step_0 : decode cX10_step 0 = .ok (.aload_n 0, 1) := by decide +kernel
theorem dX10_step_1 : decode cX10_step 1 = .ok (.getfield 186, 3) := by decide +kernel
theorem dX10_step_4 : decode cX10_step 4 = .ok (.iconst 1, 1) := by decide +kernel
theorem dX10_step_5 : decode cX10_step 5 = .ok (.isub, 1) := by decide +kernel
theorem dX10_step_6 : decode cX10_step 6 = .ok (.istore_n 1, 1) := by decide +kernel
theorem dX10_step_7 : decode cX10_step 7 = .ok (.aload_n 0, 1) := by decide +kernel
theorem dX10_step_8 : decode cX10_step 8 = .ok (.getfield 83, 3) := by decide +kernel
theorem dX10_step_11 : decode cX10_step 11 = .ok (.iload_n 1, 1) := by decide +kernel
theorem dX10_step_12 : decode cX10_step 12 = .ok (.iaload, 1) := by decide +kernel
theorem dX10_step_13 : decode cX10_step 13 = .ok (.istore_n 2, 1) := by decide +kernel
theorem dX10_step_14 : decode cX10_step 14 = .ok (.aload_n 0, 1) := by decide +kernel
theorem dX10_step_15 : decode cX10_step 15 = .ok (.getfield 86, 3) := by decide +kernel
theorem dX10_step_18 : decode cX10_step 18 = .ok (.iload_n 1, 1) := by decide +kernel
theorem dX10_step_19 : decode cX10_step 19 = .ok (.iaload, 1) := by decide +kernel
theorem dX10_step_20 : decode cX10_step 20 = .ok (.aload_n 0, 1) := by decide +kernel
theorem dX10_step_21 : decode cX10_step 21 = .ok (.getfield 19, 3) := by decide +kernel
theorem dX10_step_24 : decode cX10_step 24 = .ok (.iload_n 2, 1) := by decide +kernel
theorem dX10_step_25 : decode cX10_step 25 = .ok (.iaload, 1) := by decide +kernel
theorem dX10_step_26 : decode cX10_step 26 = .ok (.if_icmp .ne 9, 3) := by decide +kernel
theorem dX10_step_29 : decode cX10_step 29 = .ok (.aload_n 0, 1) := by decide +kernel
theorem dX10_step_30 : decode cX10_step 30 = .ok (.iload_n 1, 1) := by decide +kernel
theorem dX10_step_31 : decode cX10_step 31 = .ok (.invokevirtual 217, 3) := by decide +kernel
theorem dX10_step_34 : decode cX10_step 34 = .ok (.return_, 1) := by decide +kernel
theorem dX10_step_35 : decode cX10_step 35 = .ok (.aload_n 0, 1) := by decide +kernel
theorem dX10_step_36 : decode cX10_step 36 = .ok (.getfield 220, 3) := by decide +kernel
theorem dX10_step_39 : decode cX10_step 39 = .ok (.sipush 200, 3) := by decide +kernel
theorem dX10_step_42 : decode cX10_step 42 = .ok (.if_icmp .ne 35, 3) := by decide +kernel
theorem dX10_step_45 : decode cX10_step 45 = .ok (.aload_n 0, 1) := by decide +kernel
theorem dX10_step_46 : decode cX10_step 46 = .ok (.getfield 223, 3) := by decide +kernel
theorem dX10_step_49 : decode cX10_step 49 = .ok (.ifCond .ne 22, 3) := by decide +kernel
theorem dX10_step_52 : decode cX10_step 52 = .ok (.aload_n 0, 1) := by decide +kernel
theorem dX10_step_53 : decode cX10_step 53 = .ok (.bipush 10, 2) := by decide +kernel
theorem dX10_step_55 : decode cX10_step 55 = .ok (.aload_n 0, 1) := by decide +kernel
theorem dX10_step_56 : decode cX10_step 56 = .ok (.getfield 89, 3) := by decide +kernel
theorem dX10_step_59 : decode cX10_step 59 = .ok (.iload_n 1, 1) := by decide +kernel
theorem dX10_step_60 : decode cX10_step 60 = .ok (.iaload, 1) := by decide +kernel
theorem dX10_step_61 : decode cX10_step 61 = .ok (.iconst 0, 1) := by decide +kernel
theorem dX10_step_62 : decode cX10_step 62 = .ok (.invokevirtual 174, 3) := by decide +kernel
theorem dX10_step_65 : decode cX10_step 65 = .ok (.istore_n 3, 1) := by decide +kernel
theorem dX10_step_66 : decode cX10_step 66 = .ok (.aload_n 0, 1) := by decide +kernel
theorem dX10_step_67 : decode cX10_step 67 = .ok (.iconst 1, 1) := by decide +kernel
theorem dX10_step_68 : decode cX10_step 68 = .ok (.putfield 223, 3) := by decide +kernel
theorem dX10_step_71 : decode cX10_step 71 = .ok (.aload_n 0, 1) := by decide +kernel
theorem dX10_step_72 : decode cX10_step 72 = .ok (.iload_n 1, 1) := by decide +kernel
theorem dX10_step_73 : decode cX10_step 73 = .ok (.invokevirtual 217, 3) := by decide +kernel
theorem dX10_step_76 : decode cX10_step 76 = .ok (.return_, 1) := by decide +kernel
theorem dX10_step_77 : decode cX10_step 77 = .ok (.aload_n 0, 1) := by decide +kernel
theorem dX10_step_78 : decode cX10_step 78 = .ok (.dup, 1) := by decide +kernel
theorem dX10_step_79 : decode cX10_step 79 = .ok (.getfield 220, 3) := by decide +kernel
theorem dX10_step_82 : decode cX10_step 82 = .ok (.iconst 1, 1) := by decide +kernel
theorem dX10_step_83 : decode cX10_step 83 = .ok (.iadd, 1) := by decide +kernel
theorem dX10_step_84 : decode cX10_step 84 = .ok (.putfield 220, 3) := by decide +kernel
theorem dX10_step_87 : decode cX10_step 87 = .ok (.bipush 8, 2) := by decide +kernel
theorem dX10_step_89 : decode cX10_step 89 = .ok (.iload_n 2, 1) := by decide +kernel
theorem dX10_step_90 : decode cX10_step 90 = .ok (.imul, 1) := by decide +kernel
theorem dX10_step_91 : decode cX10_step 91 = .ok (.aload_n 0, 1) := by decide +kernel
theorem dX10_step_92 : decode cX10_step 92 = .ok (.getfield 86, 3) := by decide +kernel
theorem dX10_step_95 : decode cX10_step 95 = .ok (.iload_n 1, 1) := by decide +kernel
theorem dX10_step_96 : decode cX10_step 96 = .ok (.iaload, 1) := by decide +kernel
theorem dX10_step_97 : decode cX10_step 97 = .ok (.iadd, 1) := by decide +kernel
theorem dX10_step_98 : decode cX10_step 98 = .ok (.istore_n 3, 1) := by decide +kernel
theorem dX10_step_99 : decode cX10_step 99 = .ok (.aload_n 0, 1) := by decide +kernel
theorem dX10_step_100 : decode cX10_step 100 = .ok (.getfield 86, 3) := by decide +kernel
theorem dX10_step_103 : decode cX10_step 103 = .ok (.iload_n 1, 1) := by decide +kernel
theorem dX10_step_104 : decode cX10_step 104 = .ok (.dup2, 1) := by decide +kernel
theorem dX10_step_105 : decode cX10_step 105 = .ok (.iaload, 1) := by decide +kernel
theorem dX10_step_106 : decode cX10_step 106 = .ok (.iconst 1, 1) := by decide +kernel
theorem dX10_step_107 : decode cX10_step 107 = .ok (.iadd, 1) := by decide +kernel
theorem dX10_step_108 : decode cX10_step 108 = .ok (.iastore, 1) := by decide +kernel
theorem dX10_step_109 : decode cX10_step 109 = .ok (.aload_n 0, 1) := by decide +kernel
theorem dX10_step_110 : decode cX10_step 110 = .ok (.iload_n 1, 1) := by decide +kernel
theorem dX10_step_111 : decode cX10_step 111 = .ok (.aload_n 0, 1) := by decide +kernel
theorem dX10_step_112 : decode cX10_step 112 = .ok (.getfield 22, 3) := by decide +kernel
theorem dX10_step_115 : decode cX10_step 115 = .ok (.iload_n 3, 1) := by decide +kernel
theorem dX10_step_116 : decode cX10_step 116 = .ok (.iaload, 1) := by decide +kernel
theorem dX10_step_117 : decode cX10_step 117 = .ok (.aload_n 0, 1) := by decide +kernel
theorem dX10_step_118 : decode cX10_step 118 = .ok (.getfield 25, 3) := by decide +kernel
theorem dX10_step_121 : decode cX10_step 121 = .ok (.iload_n 3, 1) := by decide +kernel
theorem dX10_step_122 : decode cX10_step 122 = .ok (.iaload, 1) := by decide +kernel
theorem dX10_step_123 : decode cX10_step 123 = .ok (.aload_n 0, 1) := by decide +kernel
theorem dX10_step_124 : decode cX10_step 124 = .ok (.getfield 28, 3) := by decide +kernel
theorem dX10_step_127 : decode cX10_step 127 = .ok (.iload_n 3, 1) := by decide +kernel
theorem dX10_step_128 : decode cX10_step 128 = .ok (.iaload, 1) := by decide +kernel
theorem dX10_step_129 : decode cX10_step 129 = .ok (.invokevirtual 226, 3) := by decide +kernel
theorem dX10_step_132 : decode cX10_step 132 = .ok (.return_, 1) := by decide +kernel
theorem dX10_doAct_0 : decode cX10_doAct 0 = .ok (.iload_n 2, 1) := by decide +kernel
theorem dX10_doAct_1 : decode cX10_doAct 1 = .ok (.tableswitch 285 0 13 #[71, 81, 96, 111, 124, 146, 170, 186, 208, 229, 229, 229, 252, 269], 71) := by decide +kernel
theorem dX10_doAct_72 : decode cX10_doAct 72 = .ok (.aload_n 0, 1) := by decide +kernel
theorem dX10_doAct_73 : decode cX10_doAct 73 = .ok (.getfield 95, 3) := by decide +kernel
theorem dX10_doAct_76 : decode cX10_doAct 76 = .ok (.iload_n 1, 1) := by decide +kernel
theorem dX10_doAct_77 : decode cX10_doAct 77 = .ok (.iload_n 3, 1) := by decide +kernel
theorem dX10_doAct_78 : decode cX10_doAct 78 = .ok (.iastore, 1) := by decide +kernel
theorem dX10_doAct_79 : decode cX10_doAct 79 = .ok (.goto 239, 3) := by decide +kernel
theorem dX10_doAct_82 : decode cX10_doAct 82 = .ok (.aload_n 0, 1) := by decide +kernel
theorem dX10_doAct_83 : decode cX10_doAct 83 = .ok (.getfield 95, 3) := by decide +kernel
theorem dX10_doAct_86 : decode cX10_doAct 86 = .ok (.iload_n 1, 1) := by decide +kernel
theorem dX10_doAct_87 : decode cX10_doAct 87 = .ok (.aload_n 0, 1) := by decide +kernel
theorem dX10_doAct_88 : decode cX10_doAct 88 = .ok (.getfield 92, 3) := by decide +kernel
theorem dX10_doAct_91 : decode cX10_doAct 91 = .ok (.iload_n 1, 1) := by decide +kernel
theorem dX10_doAct_92 : decode cX10_doAct 92 = .ok (.iaload, 1) := by decide +kernel
theorem dX10_doAct_93 : decode cX10_doAct 93 = .ok (.iastore, 1) := by decide +kernel
theorem dX10_doAct_94 : decode cX10_doAct 94 = .ok (.goto 224, 3) := by decide +kernel
theorem dX10_doAct_97 : decode cX10_doAct 97 = .ok (.aload_n 0, 1) := by decide +kernel
theorem dX10_doAct_98 : decode cX10_doAct 98 = .ok (.getfield 95, 3) := by decide +kernel
theorem dX10_doAct_101 : decode cX10_doAct 101 = .ok (.iload_n 1, 1) := by decide +kernel
theorem dX10_doAct_102 : decode cX10_doAct 102 = .ok (.aload_n 0, 1) := by decide +kernel
theorem dX10_doAct_103 : decode cX10_doAct 103 = .ok (.getfield 89, 3) := by decide +kernel
theorem dX10_doAct_106 : decode cX10_doAct 106 = .ok (.iload_n 1, 1) := by decide +kernel
theorem dX10_doAct_107 : decode cX10_doAct 107 = .ok (.iaload, 1) := by decide +kernel
theorem dX10_doAct_108 : decode cX10_doAct 108 = .ok (.iastore, 1) := by decide +kernel
theorem dX10_doAct_109 : decode cX10_doAct 109 = .ok (.goto 209, 3) := by decide +kernel
theorem dX10_doAct_112 : decode cX10_doAct 112 = .ok (.aload_n 0, 1) := by decide +kernel
theorem dX10_doAct_113 : decode cX10_doAct 113 = .ok (.getfield 95, 3) := by decide +kernel
theorem dX10_doAct_116 : decode cX10_doAct 116 = .ok (.iload_n 1, 1) := by decide +kernel
theorem dX10_doAct_117 : decode cX10_doAct 117 = .ok (.dup2, 1) := by decide +kernel
theorem dX10_doAct_118 : decode cX10_doAct 118 = .ok (.iaload, 1) := by decide +kernel
theorem dX10_doAct_119 : decode cX10_doAct 119 = .ok (.iload_n 3, 1) := by decide +kernel
theorem dX10_doAct_120 : decode cX10_doAct 120 = .ok (.iadd, 1) := by decide +kernel
theorem dX10_doAct_121 : decode cX10_doAct 121 = .ok (.iastore, 1) := by decide +kernel
theorem dX10_doAct_122 : decode cX10_doAct 122 = .ok (.goto 196, 3) := by decide +kernel
theorem dX10_doAct_125 : decode cX10_doAct 125 = .ok (.aload_n 0, 1) := by decide +kernel
theorem dX10_doAct_126 : decode cX10_doAct 126 = .ok (.getfield 95, 3) := by decide +kernel
theorem dX10_doAct_129 : decode cX10_doAct 129 = .ok (.iload_n 1, 1) := by decide +kernel
theorem dX10_doAct_130 : decode cX10_doAct 130 = .ok (.aload_n 0, 1) := by decide +kernel
theorem dX10_doAct_131 : decode cX10_doAct 131 = .ok (.aload_n 0, 1) := by decide +kernel
theorem dX10_doAct_132 : decode cX10_doAct 132 = .ok (.getfield 89, 3) := by decide +kernel
theorem dX10_doAct_135 : decode cX10_doAct 135 = .ok (.iload_n 1, 1) := by decide +kernel
theorem dX10_doAct_136 : decode cX10_doAct 136 = .ok (.iaload, 1) := by decide +kernel
theorem dX10_doAct_137 : decode cX10_doAct 137 = .ok (.iload_n 3, 1) := by decide +kernel
theorem dX10_doAct_138 : decode cX10_doAct 138 = .ok (.iload 4, 2) := by decide +kernel
theorem dX10_doAct_140 : decode cX10_doAct 140 = .ok (.invokevirtual 230, 3) := by decide +kernel
theorem dX10_doAct_143 : decode cX10_doAct 143 = .ok (.iastore, 1) := by decide +kernel
theorem dX10_doAct_144 : decode cX10_doAct 144 = .ok (.goto 174, 3) := by decide +kernel
theorem dX10_doAct_147 : decode cX10_doAct 147 = .ok (.aload_n 0, 1) := by decide +kernel
theorem dX10_doAct_148 : decode cX10_doAct 148 = .ok (.aload_n 0, 1) := by decide +kernel
theorem dX10_doAct_149 : decode cX10_doAct 149 = .ok (.getfield 89, 3) := by decide +kernel
theorem dX10_doAct_152 : decode cX10_doAct 152 = .ok (.iload_n 1, 1) := by decide +kernel
theorem dX10_doAct_153 : decode cX10_doAct 153 = .ok (.iaload, 1) := by decide +kernel
theorem dX10_doAct_154 : decode cX10_doAct 154 = .ok (.iload_n 3, 1) := by decide +kernel
theorem dX10_doAct_155 : decode cX10_doAct 155 = .ok (.iload 4, 2) := by decide +kernel
theorem dX10_doAct_157 : decode cX10_doAct 157 = .ok (.aload_n 0, 1) := by decide +kernel
theorem dX10_doAct_158 : decode cX10_doAct 158 = .ok (.getfield 95, 3) := by decide +kernel
theorem dX10_doAct_161 : decode cX10_doAct 161 = .ok (.iload_n 1, 1) := by decide +kernel
theorem dX10_doAct_162 : decode cX10_doAct 162 = .ok (.iaload, 1) := by decide +kernel
theorem dX10_doAct_163 : decode cX10_doAct 163 = .ok (.invokevirtual 233, 3) := by decide +kernel
theorem dX10_doAct_166 : decode cX10_doAct 166 = .ok (.istore 5, 2) := by decide +kernel
theorem dX10_doAct_168 : decode cX10_doAct 168 = .ok (.goto 150, 3) := by decide +kernel
theorem dX10_doAct_171 : decode cX10_doAct 171 = .ok (.aload_n 0, 1) := by decide +kernel
theorem dX10_doAct_172 : decode cX10_doAct 172 = .ok (.aload_n 0, 1) := by decide +kernel
theorem dX10_doAct_173 : decode cX10_doAct 173 = .ok (.getfield 95, 3) := by decide +kernel
theorem dX10_doAct_176 : decode cX10_doAct 176 = .ok (.iload_n 1, 1) := by decide +kernel
theorem dX10_doAct_177 : decode cX10_doAct 177 = .ok (.iaload, 1) := by decide +kernel
theorem dX10_doAct_178 : decode cX10_doAct 178 = .ok (.iload_n 3, 1) := by decide +kernel
theorem dX10_doAct_179 : decode cX10_doAct 179 = .ok (.iload 4, 2) := by decide +kernel
theorem dX10_doAct_181 : decode cX10_doAct 181 = .ok (.invokevirtual 237, 3) := by decide +kernel
theorem dX10_doAct_184 : decode cX10_doAct 184 = .ok (.goto 134, 3) := by decide +kernel
theorem dX10_doAct_187 : decode cX10_doAct 187 = .ok (.aload_n 0, 1) := by decide +kernel
theorem dX10_doAct_188 : decode cX10_doAct 188 = .ok (.iload 4, 2) := by decide +kernel
theorem dX10_doAct_190 : decode cX10_doAct 190 = .ok (.aload_n 0, 1) := by decide +kernel
theorem dX10_doAct_191 : decode cX10_doAct 191 = .ok (.getfield 89, 3) := by decide +kernel
theorem dX10_doAct_194 : decode cX10_doAct 194 = .ok (.iload_n 1, 1) := by decide +kernel
theorem dX10_doAct_195 : decode cX10_doAct 195 = .ok (.iaload, 1) := by decide +kernel
theorem dX10_doAct_196 : decode cX10_doAct 196 = .ok (.iload_n 3, 1) := by decide +kernel
theorem dX10_doAct_197 : decode cX10_doAct 197 = .ok (.aload_n 0, 1) := by decide +kernel
theorem dX10_doAct_198 : decode cX10_doAct 198 = .ok (.getfield 92, 3) := by decide +kernel
theorem dX10_doAct_201 : decode cX10_doAct 201 = .ok (.iload_n 1, 1) := by decide +kernel
theorem dX10_doAct_202 : decode cX10_doAct 202 = .ok (.iaload, 1) := by decide +kernel
theorem dX10_doAct_203 : decode cX10_doAct 203 = .ok (.invokevirtual 240, 3) := by decide +kernel
theorem dX10_doAct_206 : decode cX10_doAct 206 = .ok (.goto 112, 3) := by decide +kernel
theorem dX10_doAct_209 : decode cX10_doAct 209 = .ok (.aload_n 0, 1) := by decide +kernel
theorem dX10_doAct_210 : decode cX10_doAct 210 = .ok (.aload_n 0, 1) := by decide +kernel
theorem dX10_doAct_211 : decode cX10_doAct 211 = .ok (.getfield 89, 3) := by decide +kernel
theorem dX10_doAct_214 : decode cX10_doAct 214 = .ok (.iload_n 1, 1) := by decide +kernel
theorem dX10_doAct_215 : decode cX10_doAct 215 = .ok (.iaload, 1) := by decide +kernel
theorem dX10_doAct_216 : decode cX10_doAct 216 = .ok (.aload_n 0, 1) := by decide +kernel
theorem dX10_doAct_217 : decode cX10_doAct 217 = .ok (.getfield 95, 3) := by decide +kernel
theorem dX10_doAct_220 : decode cX10_doAct 220 = .ok (.iload_n 1, 1) := by decide +kernel
theorem dX10_doAct_221 : decode cX10_doAct 221 = .ok (.iaload, 1) := by decide +kernel
theorem dX10_doAct_222 : decode cX10_doAct 222 = .ok (.invokevirtual 243, 3) := by decide +kernel
theorem dX10_doAct_225 : decode cX10_doAct 225 = .ok (.istore 6, 2) := by decide +kernel
theorem dX10_doAct_227 : decode cX10_doAct 227 = .ok (.goto 91, 3) := by decide +kernel
theorem dX10_doAct_230 : decode cX10_doAct 230 = .ok (.aload_n 0, 1) := by decide +kernel
theorem dX10_doAct_231 : decode cX10_doAct 231 = .ok (.getfield 95, 3) := by decide +kernel
theorem dX10_doAct_234 : decode cX10_doAct 234 = .ok (.iload_n 1, 1) := by decide +kernel
theorem dX10_doAct_235 : decode cX10_doAct 235 = .ok (.aload_n 0, 1) := by decide +kernel
theorem dX10_doAct_236 : decode cX10_doAct 236 = .ok (.aload_n 0, 1) := by decide +kernel
theorem dX10_doAct_237 : decode cX10_doAct 237 = .ok (.getfield 95, 3) := by decide +kernel
theorem dX10_doAct_240 : decode cX10_doAct 240 = .ok (.iload_n 1, 1) := by decide +kernel
theorem dX10_doAct_241 : decode cX10_doAct 241 = .ok (.iaload, 1) := by decide +kernel
theorem dX10_doAct_242 : decode cX10_doAct 242 = .ok (.iload_n 2, 1) := by decide +kernel
theorem dX10_doAct_243 : decode cX10_doAct 243 = .ok (.bipush 9, 2) := by decide +kernel
theorem dX10_doAct_245 : decode cX10_doAct 245 = .ok (.isub, 1) := by decide +kernel
theorem dX10_doAct_246 : decode cX10_doAct 246 = .ok (.invokevirtual 246, 3) := by decide +kernel
theorem dX10_doAct_249 : decode cX10_doAct 249 = .ok (.iastore, 1) := by decide +kernel
theorem dX10_doAct_250 : decode cX10_doAct 250 = .ok (.goto 68, 3) := by decide +kernel
theorem dX10_doAct_253 : decode cX10_doAct 253 = .ok (.aload_n 0, 1) := by decide +kernel
theorem dX10_doAct_254 : decode cX10_doAct 254 = .ok (.getfield 95, 3) := by decide +kernel
theorem dX10_doAct_257 : decode cX10_doAct 257 = .ok (.iload_n 1, 1) := by decide +kernel
theorem dX10_doAct_258 : decode cX10_doAct 258 = .ok (.iaload, 1) := by decide +kernel
theorem dX10_doAct_259 : decode cX10_doAct 259 = .ok (.ifCond .ne 59, 3) := by decide +kernel
theorem dX10_doAct_262 : decode cX10_doAct 262 = .ok (.aload_n 0, 1) := by decide +kernel
theorem dX10_doAct_263 : decode cX10_doAct 263 = .ok (.iload_n 1, 1) := by decide +kernel
theorem dX10_doAct_264 : decode cX10_doAct 264 = .ok (.invokevirtual 217, 3) := by decide +kernel
theorem dX10_doAct_267 : decode cX10_doAct 267 = .ok (.goto 51, 3) := by decide +kernel
theorem dX10_doAct_270 : decode cX10_doAct 270 = .ok (.aload_n 0, 1) := by decide +kernel
theorem dX10_doAct_271 : decode cX10_doAct 271 = .ok (.aload_n 0, 1) := by decide +kernel
theorem dX10_doAct_272 : decode cX10_doAct 272 = .ok (.getfield 95, 3) := by decide +kernel
theorem dX10_doAct_275 : decode cX10_doAct 275 = .ok (.iload_n 1, 1) := by decide +kernel
theorem dX10_doAct_276 : decode cX10_doAct 276 = .ok (.iaload, 1) := by decide +kernel
theorem dX10_doAct_277 : decode cX10_doAct 277 = .ok (.iload_n 3, 1) := by decide +kernel
theorem dX10_doAct_278 : decode cX10_doAct 278 = .ok (.invokevirtual 249, 3) := by decide +kernel
theorem dX10_doAct_281 : decode cX10_doAct 281 = .ok (.istore 7, 2) := by decide +kernel
theorem dX10_doAct_283 : decode cX10_doAct 283 = .ok (.goto 35, 3) := by decide +kernel
theorem dX10_doAct_286 : decode cX10_doAct 286 = .ok (.aload_n 0, 1) := by decide +kernel
theorem dX10_doAct_287 : decode cX10_doAct 287 = .ok (.getfield 95, 3) := by decide +kernel
theorem dX10_doAct_290 : decode cX10_doAct 290 = .ok (.iload_n 1, 1) := by decide +kernel
theorem dX10_doAct_291 : decode cX10_doAct 291 = .ok (.aload_n 0, 1) := by decide +kernel
theorem dX10_doAct_292 : decode cX10_doAct 292 = .ok (.aload_n 0, 1) := by decide +kernel
theorem dX10_doAct_293 : decode cX10_doAct 293 = .ok (.getfield 95, 3) := by decide +kernel
theorem dX10_doAct_296 : decode cX10_doAct 296 = .ok (.iload_n 1, 1) := by decide +kernel
theorem dX10_doAct_297 : decode cX10_doAct 297 = .ok (.iaload, 1) := by decide +kernel
theorem dX10_doAct_298 : decode cX10_doAct 298 = .ok (.iload_n 3, 1) := by decide +kernel
theorem dX10_doAct_299 : decode cX10_doAct 299 = .ok (.invokevirtual 214, 3) := by decide +kernel
theorem dX10_doAct_302 : decode cX10_doAct 302 = .ok (.iastore, 1) := by decide +kernel
theorem dX10_doAct_303 : decode cX10_doAct 303 = .ok (.aload_n 0, 1) := by decide +kernel
theorem dX10_doAct_304 : decode cX10_doAct 304 = .ok (.getfield 95, 3) := by decide +kernel
theorem dX10_doAct_307 : decode cX10_doAct 307 = .ok (.iload_n 1, 1) := by decide +kernel
theorem dX10_doAct_308 : decode cX10_doAct 308 = .ok (.iaload, 1) := by decide +kernel
theorem dX10_doAct_309 : decode cX10_doAct 309 = .ok (.iconst 1, 1) := by decide +kernel
theorem dX10_doAct_310 : decode cX10_doAct 310 = .ok (.if_icmp .ne 8, 3) := by decide +kernel
theorem dX10_doAct_313 : decode cX10_doAct 313 = .ok (.aload_n 0, 1) := by decide +kernel
theorem dX10_doAct_314 : decode cX10_doAct 314 = .ok (.iload_n 1, 1) := by decide +kernel
theorem dX10_doAct_315 : decode cX10_doAct 315 = .ok (.invokevirtual 217, 3) := by decide +kernel
theorem dX10_doAct_318 : decode cX10_doAct 318 = .ok (.return_, 1) := by decide +kernel
theorem dX10_begins_0 : decode cX10_begins 0 = .ok (.aload_n 0, 1) := by decide +kernel
theorem dX10_begins_1 : decode cX10_begins 1 = .ok (.iconst 0, 1) := by decide +kernel
theorem dX10_begins_2 : decode cX10_begins 2 = .ok (.putfield 186, 3) := by decide +kernel
theorem dX10_begins_5 : decode cX10_begins 5 = .ok (.aload_n 0, 1) := by decide +kernel
theorem dX10_begins_6 : decode cX10_begins 6 = .ok (.iconst 0, 1) := by decide +kernel
theorem dX10_begins_7 : decode cX10_begins 7 = .ok (.putfield 189, 3) := by decide +kernel
theorem dX10_begins_10 : decode cX10_begins 10 = .ok (.aload_n 0, 1) := by decide +kernel
theorem dX10_begins_11 : decode cX10_begins 11 = .ok (.iconst 0, 1) := by decide +kernel
theorem dX10_begins_12 : decode cX10_begins 12 = .ok (.putfield 220, 3) := by decide +kernel
theorem dX10_begins_15 : decode cX10_begins 15 = .ok (.aload_n 0, 1) := by decide +kernel
theorem dX10_begins_16 : decode cX10_begins 16 = .ok (.iconst 0, 1) := by decide +kernel
theorem dX10_begins_17 : decode cX10_begins 17 = .ok (.putfield 223, 3) := by decide +kernel
theorem dX10_begins_20 : decode cX10_begins 20 = .ok (.aload_n 0, 1) := by decide +kernel
theorem dX10_begins_21 : decode cX10_begins 21 = .ok (.iconst 0, 1) := by decide +kernel
theorem dX10_begins_22 : decode cX10_begins 22 = .ok (.putfield 180, 3) := by decide +kernel
theorem dX10_begins_25 : decode cX10_begins 25 = .ok (.return_, 1) := by decide +kernel
theorem dX10_goes_0 : decode cX10_goes 0 = .ok (.aload_n 0, 1) := by decide +kernel
theorem dX10_goes_1 : decode cX10_goes 1 = .ok (.getfield 180, 3) := by decide +kernel
theorem dX10_goes_4 : decode cX10_goes 4 = .ok (.ifCond .eq 10, 3) := by decide +kernel
theorem dX10_goes_7 : decode cX10_goes 7 = .ok (.aload_n 0, 1) := by decide +kernel
theorem dX10_goes_8 : decode cX10_goes 8 = .ok (.getfield 186, 3) := by decide +kernel
theorem dX10_goes_11 : decode cX10_goes 11 = .ok (.ifCond .le 24, 3) := by decide +kernel
theorem dX10_goes_14 : decode cX10_goes 14 = .ok (.aload_n 0, 1) := by decide +kernel
theorem dX10_goes_15 : decode cX10_goes 15 = .ok (.getfield 180, 3) := by decide +kernel
theorem dX10_goes_18 : decode cX10_goes 18 = .ok (.ifCond .eq 10, 3) := by decide +kernel
theorem dX10_goes_21 : decode cX10_goes 21 = .ok (.aload_n 0, 1) := by decide +kernel
theorem dX10_goes_22 : decode cX10_goes 22 = .ok (.invokevirtual 252, 3) := by decide +kernel
theorem dX10_goes_25 : decode cX10_goes 25 = .ok (.goto (-25), 3) := by decide +kernel
theorem dX10_goes_28 : decode cX10_goes 28 = .ok (.aload_n 0, 1) := by decide +kernel
theorem dX10_goes_29 : decode cX10_goes 29 = .ok (.invokevirtual 255, 3) := by decide +kernel
theorem dX10_goes_32 : decode cX10_goes 32 = .ok (.goto (-32), 3) := by decide +kernel
theorem dX10_goes_35 : decode cX10_goes 35 = .ok (.aload_n 0, 1) := by decide +kernel
theorem dX10_goes_36 : decode cX10_goes 36 = .ok (.getfield 183, 3) := by decide +kernel
theorem dX10_goes_39 : decode cX10_goes 39 = .ok (.ireturn, 1) := by decide +kernel
theorem dX10_send_0 : decode cX10_send 0 = .ok (.aload_n 0, 1) := by decide +kernel
theorem dX10_send_1 : decode cX10_send 1 = .ok (.invokevirtual 258, 3) := by decide +kernel
theorem dX10_send_4 : decode cX10_send 4 = .ok (.aload_n 0, 1) := by decide +kernel
theorem dX10_send_5 : decode cX10_send 5 = .ok (.iload_n 1, 1) := by decide +kernel
theorem dX10_send_6 : decode cX10_send 6 = .ok (.iload_n 2, 1) := by decide +kernel
theorem dX10_send_7 : decode cX10_send 7 = .ok (.iload_n 3, 1) := by decide +kernel
theorem dX10_send_8 : decode cX10_send 8 = .ok (.invokevirtual 237, 3) := by decide +kernel
theorem dX10_send_11 : decode cX10_send 11 = .ok (.aload_n 0, 1) := by decide +kernel
theorem dX10_send_12 : decode cX10_send 12 = .ok (.invokevirtual 261, 3) := by decide +kernel
theorem dX10_send_15 : decode cX10_send 15 = .ok (.ireturn, 1) := by decide +kernel
theorem dX10_sendAs_0 : decode cX10_sendAs 0 = .ok (.aload_n 0, 1) := by decide +kernel
theorem dX10_sendAs_1 : decode cX10_sendAs 1 = .ok (.invokevirtual 258, 3) := by decide +kernel
theorem dX10_sendAs_4 : decode cX10_sendAs 4 = .ok (.aload_n 0, 1) := by decide +kernel
theorem dX10_sendAs_5 : decode cX10_sendAs 5 = .ok (.iload_n 1, 1) := by decide +kernel
theorem dX10_sendAs_6 : decode cX10_sendAs 6 = .ok (.iload_n 2, 1) := by decide +kernel
theorem dX10_sendAs_7 : decode cX10_sendAs 7 = .ok (.iload_n 3, 1) := by decide +kernel
theorem dX10_sendAs_8 : decode cX10_sendAs 8 = .ok (.iload 4, 2) := by decide +kernel
theorem dX10_sendAs_10 : decode cX10_sendAs 10 = .ok (.invokevirtual 240, 3) := by decide +kernel
theorem dX10_sendAs_13 : decode cX10_sendAs 13 = .ok (.aload_n 0, 1) := by decide +kernel
theorem dX10_sendAs_14 : decode cX10_sendAs 14 = .ok (.invokevirtual 261, 3) := by decide +kernel
theorem dX10_sendAs_17 : decode cX10_sendAs 17 = .ok (.ireturn, 1) := by decide +kernel
theorem dX10_loop_0 : decode cX10_loop 0 = .ok (.aload_n 0, 1) := by decide +kernel
theorem dX10_loop_1 : decode cX10_loop 1 = .ok (.invokevirtual 258, 3) := by decide +kernel
theorem dX10_loop_4 : decode cX10_loop 4 = .ok (.aload_n 0, 1) := by decide +kernel
theorem dX10_loop_5 : decode cX10_loop 5 = .ok (.iload_n 1, 1) := by decide +kernel
theorem dX10_loop_6 : decode cX10_loop 6 = .ok (.invokevirtual 141, 3) := by decide +kernel
theorem dX10_loop_9 : decode cX10_loop 9 = .ok (.iconst 2, 1) := by decide +kernel
theorem dX10_loop_10 : decode cX10_loop 10 = .ok (.if_icmp .eq 12, 3) := by decide +kernel
theorem dX10_loop_13 : decode cX10_loop 13 = .ok (.aload_n 0, 1) := by decide +kernel
theorem dX10_loop_14 : decode cX10_loop 14 = .ok (.bipush 6, 2) := by decide +kernel
theorem dX10_loop_16 : decode cX10_loop 16 = .ok (.iload_n 1, 1) := by decide +kernel
theorem dX10_loop_17 : decode cX10_loop 17 = .ok (.iconst 0, 1) := by decide +kernel
theorem dX10_loop_18 : decode cX10_loop 18 = .ok (.invokevirtual 174, 3) := by decide +kernel
theorem dX10_loop_21 : decode cX10_loop 21 = .ok (.ireturn, 1) := by decide +kernel
theorem dX10_loop_22 : decode cX10_loop 22 = .ok (.aload_n 0, 1) := by decide +kernel
theorem dX10_loop_23 : decode cX10_loop 23 = .ok (.iload_n 2, 1) := by decide +kernel
theorem dX10_loop_24 : decode cX10_loop 24 = .ok (.invokevirtual 141, 3) := by decide +kernel
theorem dX10_loop_27 : decode cX10_loop 27 = .ok (.iconst 4, 1) := by decide +kernel
theorem dX10_loop_28 : decode cX10_loop 28 = .ok (.if_icmp .eq 12, 3) := by decide +kernel
theorem dX10_loop_31 : decode cX10_loop 31 = .ok (.aload_n 0, 1) := by decide +kernel
theorem dX10_loop_32 : decode cX10_loop 32 = .ok (.bipush 13, 2) := by decide +kernel
theorem dX10_loop_34 : decode cX10_loop 34 = .ok (.iload_n 1, 1) := by decide +kernel
theorem dX10_loop_35 : decode cX10_loop 35 = .ok (.iload_n 2, 1) := by decide +kernel
theorem dX10_loop_36 : decode cX10_loop 36 = .ok (.invokevirtual 174, 3) := by decide +kernel
theorem dX10_loop_39 : decode cX10_loop 39 = .ok (.ireturn, 1) := by decide +kernel
theorem dX10_loop_40 : decode cX10_loop 40 = .ok (.iconst 0, 1) := by decide +kernel
theorem dX10_loop_41 : decode cX10_loop 41 = .ok (.istore_n 3, 1) := by decide +kernel
theorem dX10_loop_42 : decode cX10_loop 42 = .ok (.aload_n 0, 1) := by decide +kernel
theorem dX10_loop_43 : decode cX10_loop 43 = .ok (.getfield 68, 3) := by decide +kernel
theorem dX10_loop_46 : decode cX10_loop 46 = .ok (.iload_n 1, 1) := by decide +kernel
theorem dX10_loop_47 : decode cX10_loop 47 = .ok (.iaload, 1) := by decide +kernel
theorem dX10_loop_48 : decode cX10_loop 48 = .ok (.istore 4, 2) := by decide +kernel
theorem dX10_loop_50 : decode cX10_loop 50 = .ok (.iload 4, 2) := by decide +kernel
theorem dX10_loop_52 : decode cX10_loop 52 = .ok (.ifCond .eq 77, 3) := by decide +kernel
theorem dX10_loop_55 : decode cX10_loop 55 = .ok (.iload_n 3, 1) := by decide +kernel
theorem dX10_loop_56 : decode cX10_loop 56 = .ok (.bipush 40, 2) := by decide +kernel
theorem dX10_loop_58 : decode cX10_loop 58 = .ok (.if_icmp .ge 71, 3) := by decide +kernel
theorem dX10_loop_61 : decode cX10_loop 61 = .ok (.aload_n 0, 1) := by decide +kernel
theorem dX10_loop_62 : decode cX10_loop 62 = .ok (.getfield 71, 3) := by decide +kernel
theorem dX10_loop_65 : decode cX10_loop 65 = .ok (.iload 4, 2) := by decide +kernel
theorem dX10_loop_67 : decode cX10_loop 67 = .ok (.iaload, 1) := by decide +kernel
theorem dX10_loop_68 : decode cX10_loop 68 = .ok (.istore 5, 2) := by decide +kernel
theorem dX10_loop_70 : decode cX10_loop 70 = .ok (.aload_n 0, 1) := by decide +kernel
theorem dX10_loop_71 : decode cX10_loop 71 = .ok (.iconst 0, 1) := by decide +kernel
theorem dX10_loop_72 : decode cX10_loop 72 = .ok (.putfield 180, 3) := by decide +kernel
theorem dX10_loop_75 : decode cX10_loop 75 = .ok (.aload_n 0, 1) := by decide +kernel
theorem dX10_loop_76 : decode cX10_loop 76 = .ok (.iload_n 2, 1) := by decide +kernel
theorem dX10_loop_77 : decode cX10_loop 77 = .ok (.iload 4, 2) := by decide +kernel
theorem dX10_loop_79 : decode cX10_loop 79 = .ok (.iload_n 1, 1) := by decide +kernel
theorem dX10_loop_80 : decode cX10_loop 80 = .ok (.invokevirtual 198, 3) := by decide +kernel
theorem dX10_loop_83 : decode cX10_loop 83 = .ok (.aload_n 0, 1) := by decide +kernel
theorem dX10_loop_84 : decode cX10_loop 84 = .ok (.invokevirtual 261, 3) := by decide +kernel
theorem dX10_loop_87 : decode cX10_loop 87 = .ok (.istore 6, 2) := by decide +kernel
theorem dX10_loop_89 : decode cX10_loop 89 = .ok (.iinc 3 1, 3) := by decide +kernel
theorem dX10_loop_92 : decode cX10_loop 92 = .ok (.iload 5, 2) := by decide +kernel
theorem dX10_loop_94 : decode cX10_loop 94 = .ok (.ifCond .eq 28, 3) := by decide +kernel
theorem dX10_loop_97 : decode cX10_loop 97 = .ok (.aload_n 0, 1) := by decide +kernel
theorem dX10_loop_98 : decode cX10_loop 98 = .ok (.getfield 65, 3) := by decide +kernel
theorem dX10_loop_101 : decode cX10_loop 101 = .ok (.iload 5, 2) := by decide +kernel
theorem dX10_loop_103 : decode cX10_loop 103 = .ok (.iaload, 1) := by decide +kernel
theorem dX10_loop_104 : decode cX10_loop 104 = .ok (.iload_n 1, 1) := by decide +kernel
theorem dX10_loop_105 : decode cX10_loop 105 = .ok (.if_icmp .eq 17, 3) := by decide +kernel
theorem dX10_loop_108 : decode cX10_loop 108 = .ok (.aload_n 0, 1) := by decide +kernel
theorem dX10_loop_109 : decode cX10_loop 109 = .ok (.bipush 11, 2) := by decide +kernel
theorem dX10_loop_111 : decode cX10_loop 111 = .ok (.iload 5, 2) := by decide +kernel
theorem dX10_loop_113 : decode cX10_loop 113 = .ok (.iconst 0, 1) := by decide +kernel
theorem dX10_loop_114 : decode cX10_loop 114 = .ok (.invokevirtual 174, 3) := by decide +kernel
theorem dX10_loop_117 : decode cX10_loop 117 = .ok (.istore 7, 2) := by decide +kernel
theorem dX10_loop_119 : decode cX10_loop 119 = .ok (.iconst 0, 1) := by decide +kernel
theorem dX10_loop_120 : decode cX10_loop 120 = .ok (.istore 5, 2) := by decide +kernel
theorem dX10_loop_122 : decode cX10_loop 122 = .ok (.iload 5, 2) := by decide +kernel
theorem dX10_loop_124 : decode cX10_loop 124 = .ok (.istore 4, 2) := by decide +kernel
theorem dX10_loop_126 : decode cX10_loop 126 = .ok (.goto (-76), 3) := by decide +kernel
theorem dX10_loop_129 : decode cX10_loop 129 = .ok (.iload_n 3, 1) := by decide +kernel
theorem dX10_loop_130 : decode cX10_loop 130 = .ok (.ireturn, 1) := by decide +kernel
theorem dX10_isWrongWord_0 : decode cX10_isWrongWord 0 = .ok (.aload_n 0, 1) := by decide +kernel
theorem dX10_isWrongWord_1 : decode cX10_isWrongWord 1 = .ok (.iload_n 1, 1) := by decide +kernel
theorem dX10_isWrongWord_2 : decode cX10_isWrongWord 2 = .ok (.invokevirtual 141, 3) := by decide +kernel
theorem dX10_isWrongWord_5 : decode cX10_isWrongWord 5 = .ok (.iconst 5, 1) := by decide +kernel
theorem dX10_isWrongWord_6 : decode cX10_isWrongWord 6 = .ok (.if_icmp .eq 20, 3) := by decide +kernel
theorem dX10_isWrongWord_9 : decode cX10_isWrongWord 9 = .ok (.aload_n 0, 1) := by decide +kernel
theorem dX10_isWrongWord_10 : decode cX10_isWrongWord 10 = .ok (.bipush 14, 2) := by decide +kernel
theorem dX10_isWrongWord_12 : decode cX10_isWrongWord 12 = .ok (.iload_n 1, 1) := by decide +kernel
theorem dX10_isWrongWord_13 : decode cX10_isWrongWord 13 = .ok (.iload_n 2, 1) := by decide +kernel
theorem dX10_isWrongWord_14 : decode cX10_isWrongWord 14 = .ok (.invokevirtual 174, 3) := by decide +kernel
theorem dX10_isWrongWord_17 : decode cX10_isWrongWord 17 = .ok (.ifCond .ne 7, 3) := by decide +kernel
theorem dX10_isWrongWord_20 : decode cX10_isWrongWord 20 = .ok (.iconst 1, 1) := by decide +kernel
theorem dX10_isWrongWord_21 : decode cX10_isWrongWord 21 = .ok (.goto 4, 3) := by decide +kernel
theorem dX10_isWrongWord_24 : decode cX10_isWrongWord 24 = .ok (.iconst 0, 1) := by decide +kernel
theorem dX10_isWrongWord_25 : decode cX10_isWrongWord 25 = .ok (.ireturn, 1) := by decide +kernel
theorem dX10_isWrongWord_26 : decode cX10_isWrongWord 26 = .ok (.iload_n 2, 1) := by decide +kernel
theorem dX10_isWrongWord_27 : decode cX10_isWrongWord 27 = .ok (.iconst 0, 1) := by decide +kernel
theorem dX10_isWrongWord_28 : decode cX10_isWrongWord 28 = .ok (.iload_n 3, 1) := by decide +kernel
theorem dX10_isWrongWord_29 : decode cX10_isWrongWord 29 = .ok (.aload_n 0, 1) := by decide +kernel
theorem dX10_isWrongWord_30 : decode cX10_isWrongWord 30 = .ok (.getfield 31, 3) := by decide +kernel
theorem dX10_isWrongWord_33 : decode cX10_isWrongWord 33 = .ok (.iload_n 1, 1) := by decide +kernel
theorem dX10_isWrongWord_34 : decode cX10_isWrongWord 34 = .ok (.sipush 301, 3) := by decide +kernel
theorem dX10_isWrongWord_37 : decode cX10_isWrongWord 37 = .ok (.isub, 1) := by decide +kernel
theorem dX10_isWrongWord_38 : decode cX10_isWrongWord 38 = .ok (.iaload, 1) := by decide +kernel
theorem dX10_isWrongWord_39 : decode cX10_isWrongWord 39 = .ok (.imul, 1) := by decide +kernel
theorem dX10_isWrongWord_40 : decode cX10_isWrongWord 40 = .ok (.iconst 1, 1) := by decide +kernel
theorem dX10_isWrongWord_41 : decode cX10_isWrongWord 41 = .ok (.isub, 1) := by decide +kernel
theorem dX10_isWrongWord_42 : decode cX10_isWrongWord 42 = .ok (.invokestatic 102, 3) := by decide +kernel
theorem dX10_isWrongWord_45 : decode cX10_isWrongWord 45 = .ok (.ifCond .ne 18, 3) := by decide +kernel
theorem dX10_isWrongWord_48 : decode cX10_isWrongWord 48 = .ok (.aload_n 0, 1) := by decide +kernel
theorem dX10_isWrongWord_49 : decode cX10_isWrongWord 49 = .ok (.bipush 12, 2) := by decide +kernel
theorem dX10_isWrongWord_51 : decode cX10_isWrongWord 51 = .ok (.iload_n 1, 1) := by decide +kernel
theorem dX10_isWrongWord_52 : decode cX10_isWrongWord 52 = .ok (.iload_n 2, 1) := by decide +kernel
theorem dX10_isWrongWord_53 : decode cX10_isWrongWord 53 = .ok (.invokevirtual 174, 3) := by decide +kernel
theorem dX10_isWrongWord_56 : decode cX10_isWrongWord 56 = .ok (.ifCond .ne 7, 3) := by decide +kernel
theorem dX10_isWrongWord_59 : decode cX10_isWrongWord 59 = .ok (.iconst 1, 1) := by decide +kernel
theorem dX10_isWrongWord_60 : decode cX10_isWrongWord 60 = .ok (.goto 4, 3) := by decide +kernel
theorem dX10_isWrongWord_63 : decode cX10_isWrongWord 63 = .ok (.iconst 0, 1) := by decide +kernel
theorem dX10_isWrongWord_64 : decode cX10_isWrongWord 64 = .ok (.ireturn, 1) := by decide +kernel
theorem dX10_word_0 : decode cX10_word 0 = .ok (.aload_n 0, 1) := by decide +kernel
theorem dX10_word_1 : decode cX10_word 1 = .ok (.iload_n 1, 1) := by decide +kernel
theorem dX10_word_2 : decode cX10_word 2 = .ok (.iload_n 2, 1) := by decide +kernel
theorem dX10_word_3 : decode cX10_word 3 = .ok (.iconst 1, 1) := by decide +kernel
theorem dX10_word_4 : decode cX10_word 4 = .ok (.invokevirtual 265, 3) := by decide +kernel
theorem dX10_word_7 : decode cX10_word 7 = .ok (.ifCond .eq 7, 3) := by decide +kernel
theorem dX10_word_10 : decode cX10_word 10 = .ok (.iconst 0, 1) := by decide +kernel
theorem dX10_word_11 : decode cX10_word 11 = .ok (.goto 18, 3) := by decide +kernel
theorem dX10_word_14 : decode cX10_word 14 = .ok (.aload_n 0, 1) := by decide +kernel
theorem dX10_word_15 : decode cX10_word 15 = .ok (.getfield 34, 3) := by decide +kernel
theorem dX10_word_18 : decode cX10_word 18 = .ok (.bipush 10, 2) := by decide +kernel
theorem dX10_word_20 : decode cX10_word 20 = .ok (.iload_n 1, 1) := by decide +kernel
theorem dX10_word_21 : decode cX10_word 21 = .ok (.sipush 301, 3) := by decide +kernel
theorem dX10_word_24 : decode cX10_word 24 = .ok (.isub, 1) := by decide +kernel
theorem dX10_word_25 : decode cX10_word 25 = .ok (.imul, 1) := by decide +kernel
theorem dX10_word_26 : decode cX10_word 26 = .ok (.iload_n 2, 1) := by decide +kernel
theorem dX10_word_27 : decode cX10_word 27 = .ok (.iadd, 1) := by decide +kernel
theorem dX10_word_28 : decode cX10_word 28 = .ok (.iaload, 1) := by decide +kernel
theorem dX10_word_29 : decode cX10_word 29 = .ok (.ireturn, 1) := by decide +kernel
theorem dX10_setWord_0 : decode cX10_setWord 0 = .ok (.aload_n 0, 1) := by decide +kernel
theorem dX10_setWord_1 : decode cX10_setWord 1 = .ok (.iload_n 1, 1) := by decide +kernel
theorem dX10_setWord_2 : decode cX10_setWord 2 = .ok (.iload_n 2, 1) := by decide +kernel
theorem dX10_setWord_3 : decode cX10_setWord 3 = .ok (.iconst 1, 1) := by decide +kernel
theorem dX10_setWord_4 : decode cX10_setWord 4 = .ok (.invokevirtual 265, 3) := by decide +kernel
theorem dX10_setWord_7 : decode cX10_setWord 7 = .ok (.ifCond .eq 5, 3) := by decide +kernel
theorem dX10_setWord_10 : decode cX10_setWord 10 = .ok (.iconst 0, 1) := by decide +kernel
theorem dX10_setWord_11 : decode cX10_setWord 11 = .ok (.ireturn, 1) := by decide +kernel
theorem dX10_setWord_12 : decode cX10_setWord 12 = .ok (.aload_n 0, 1) := by decide +kernel
theorem dX10_setWord_13 : decode cX10_setWord 13 = .ok (.getfield 34, 3) := by decide +kernel
theorem dX10_setWord_16 : decode cX10_setWord 16 = .ok (.bipush 10, 2) := by decide +kernel
theorem dX10_setWord_18 : decode cX10_setWord 18 = .ok (.iload_n 1, 1) := by decide +kernel
theorem dX10_setWord_19 : decode cX10_setWord 19 = .ok (.sipush 301, 3) := by decide +kernel
theorem dX10_setWord_22 : decode cX10_setWord 22 = .ok (.isub, 1) := by decide +kernel
theorem dX10_setWord_23 : decode cX10_setWord 23 = .ok (.imul, 1) := by decide +kernel
theorem dX10_setWord_24 : decode cX10_setWord 24 = .ok (.iload_n 2, 1) := by decide +kernel
theorem dX10_setWord_25 : decode cX10_setWord 25 = .ok (.iadd, 1) := by decide +kernel
theorem dX10_setWord_26 : decode cX10_setWord 26 = .ok (.iload_n 3, 1) := by decide +kernel
theorem dX10_setWord_27 : decode cX10_setWord 27 = .ok (.iastore, 1) := by decide +kernel
theorem dX10_setWord_28 : decode cX10_setWord 28 = .ok (.iload_n 3, 1) := by decide +kernel
theorem dX10_setWord_29 : decode cX10_setWord 29 = .ok (.ireturn, 1) := by decide +kernel
theorem dX10_byteOf_0 : decode cX10_byteOf 0 = .ok (.aload_n 0, 1) := by decide +kernel
theorem dX10_byteOf_1 : decode cX10_byteOf 1 = .ok (.iload_n 1, 1) := by decide +kernel
theorem dX10_byteOf_2 : decode cX10_byteOf 2 = .ok (.iload_n 2, 1) := by decide +kernel
theorem dX10_byteOf_3 : decode cX10_byteOf 3 = .ok (.iconst 4, 1) := by decide +kernel
theorem dX10_byteOf_4 : decode cX10_byteOf 4 = .ok (.invokevirtual 265, 3) := by decide +kernel
theorem dX10_byteOf_7 : decode cX10_byteOf 7 = .ok (.ifCond .eq 7, 3) := by decide +kernel
theorem dX10_byteOf_10 : decode cX10_byteOf 10 = .ok (.iconst 0, 1) := by decide +kernel
theorem dX10_byteOf_11 : decode cX10_byteOf 11 = .ok (.goto 34, 3) := by decide +kernel
theorem dX10_byteOf_14 : decode cX10_byteOf 14 = .ok (.aload_n 0, 1) := by decide +kernel
theorem dX10_byteOf_15 : decode cX10_byteOf 15 = .ok (.getfield 34, 3) := by decide +kernel
theorem dX10_byteOf_18 : decode cX10_byteOf 18 = .ok (.bipush 10, 2) := by decide +kernel
theorem dX10_byteOf_20 : decode cX10_byteOf 20 = .ok (.iload_n 1, 1) := by decide +kernel
theorem dX10_byteOf_21 : decode cX10_byteOf 21 = .ok (.sipush 301, 3) := by decide +kernel
theorem dX10_byteOf_24 : decode cX10_byteOf 24 = .ok (.isub, 1) := by decide +kernel
theorem dX10_byteOf_25 : decode cX10_byteOf 25 = .ok (.imul, 1) := by decide +kernel
theorem dX10_byteOf_26 : decode cX10_byteOf 26 = .ok (.iload_n 2, 1) := by decide +kernel
theorem dX10_byteOf_27 : decode cX10_byteOf 27 = .ok (.iconst 4, 1) := by decide +kernel
theorem dX10_byteOf_28 : decode cX10_byteOf 28 = .ok (.idiv, 1) := by decide +kernel
theorem dX10_byteOf_29 : decode cX10_byteOf 29 = .ok (.iadd, 1) := by decide +kernel
theorem dX10_byteOf_30 : decode cX10_byteOf 30 = .ok (.iaload, 1) := by decide +kernel
theorem dX10_byteOf_31 : decode cX10_byteOf 31 = .ok (.bipush 24, 2) := by decide +kernel
theorem dX10_byteOf_33 : decode cX10_byteOf 33 = .ok (.bipush 8, 2) := by decide +kernel
theorem dX10_byteOf_35 : decode cX10_byteOf 35 = .ok (.iload_n 2, 1) := by decide +kernel
theorem dX10_byteOf_36 : decode cX10_byteOf 36 = .ok (.iconst 4, 1) := by decide +kernel
theorem dX10_byteOf_37 : decode cX10_byteOf 37 = .ok (.irem, 1) := by decide +kernel
theorem dX10_byteOf_38 : decode cX10_byteOf 38 = .ok (.imul, 1) := by decide +kernel
theorem dX10_byteOf_39 : decode cX10_byteOf 39 = .ok (.isub, 1) := by decide +kernel
theorem dX10_byteOf_40 : decode cX10_byteOf 40 = .ok (.ishr, 1) := by decide +kernel
theorem dX10_byteOf_41 : decode cX10_byteOf 41 = .ok (.sipush 255, 3) := by decide +kernel
theorem dX10_byteOf_44 : decode cX10_byteOf 44 = .ok (.iand, 1) := by decide +kernel
theorem dX10_byteOf_45 : decode cX10_byteOf 45 = .ok (.ireturn, 1) := by decide +kernel
theorem dX10_out_0 : decode cX10_out 0 = .ok (.iload_n 1, 1) := by decide +kernel
theorem dX10_out_1 : decode cX10_out 1 = .ok (.iconst 0, 1) := by decide +kernel
theorem dX10_out_2 : decode cX10_out 2 = .ok (.aload_n 0, 1) := by decide +kernel
theorem dX10_out_3 : decode cX10_out 3 = .ok (.getfield 148, 3) := by decide +kernel
theorem dX10_out_6 : decode cX10_out 6 = .ok (.iconst 1, 1) := by decide +kernel
theorem dX10_out_7 : decode cX10_out 7 = .ok (.isub, 1) := by decide +kernel
theorem dX10_out_8 : decode cX10_out 8 = .ok (.invokestatic 102, 3) := by decide +kernel
theorem dX10_out_11 : decode cX10_out 11 = .ok (.ifCond .eq 12, 3) := by decide +kernel
theorem dX10_out_14 : decode cX10_out 14 = .ok (.aload_n 0, 1) := by decide +kernel
theorem dX10_out_15 : decode cX10_out 15 = .ok (.getfield 77, 3) := by decide +kernel
theorem dX10_out_18 : decode cX10_out 18 = .ok (.iload_n 1, 1) := by decide +kernel
theorem dX10_out_19 : decode cX10_out 19 = .ok (.iaload, 1) := by decide +kernel
theorem dX10_out_20 : decode cX10_out 20 = .ok (.goto 4, 3) := by decide +kernel
theorem dX10_out_23 : decode cX10_out 23 = .ok (.iconst (-1), 1) := by decide +kernel
theorem dX10_out_24 : decode cX10_out 24 = .ok (.ireturn, 1) := by decide +kernel
theorem dX10_clear_0 : decode cX10_clear 0 = .ok (.aload_n 0, 1) := by decide +kernel
theorem dX10_clear_1 : decode cX10_clear 1 = .ok (.getfield 148, 3) := by decide +kernel
theorem dX10_clear_4 : decode cX10_clear 4 = .ok (.istore_n 1, 1) := by decide +kernel
theorem dX10_clear_5 : decode cX10_clear 5 = .ok (.aload_n 0, 1) := by decide +kernel
theorem dX10_clear_6 : decode cX10_clear 6 = .ok (.iconst 0, 1) := by decide +kernel
theorem dX10_clear_7 : decode cX10_clear 7 = .ok (.putfield 148, 3) := by decide +kernel
theorem dX10_clear_10 : decode cX10_clear 10 = .ok (.iload_n 1, 1) := by decide +kernel
theorem dX10_clear_11 : decode cX10_clear 11 = .ok (.ireturn, 1) := by decide +kernel
theorem dX10_fault_0 : decode cX10_fault 0 = .ok (.iload_n 1, 1) := by decide +kernel
theorem dX10_fault_1 : decode cX10_fault 1 = .ok (.iconst 0, 1) := by decide +kernel
theorem dX10_fault_2 : decode cX10_fault 2 = .ok (.aload_n 0, 1) := by decide +kernel
theorem dX10_fault_3 : decode cX10_fault 3 = .ok (.getfield 145, 3) := by decide +kernel
theorem dX10_fault_6 : decode cX10_fault 6 = .ok (.iconst 1, 1) := by decide +kernel
theorem dX10_fault_7 : decode cX10_fault 7 = .ok (.isub, 1) := by decide +kernel
theorem dX10_fault_8 : decode cX10_fault 8 = .ok (.invokestatic 102, 3) := by decide +kernel
theorem dX10_fault_11 : decode cX10_fault 11 = .ok (.ifCond .eq 25, 3) := by decide +kernel
theorem dX10_fault_14 : decode cX10_fault 14 = .ok (.iload_n 2, 1) := by decide +kernel
theorem dX10_fault_15 : decode cX10_fault 15 = .ok (.iconst 0, 1) := by decide +kernel
theorem dX10_fault_16 : decode cX10_fault 16 = .ok (.iconst 2, 1) := by decide +kernel
theorem dX10_fault_17 : decode cX10_fault 17 = .ok (.invokestatic 102, 3) := by decide +kernel
theorem dX10_fault_20 : decode cX10_fault 20 = .ok (.ifCond .eq 16, 3) := by decide +kernel
theorem dX10_fault_23 : decode cX10_fault 23 = .ok (.aload_n 0, 1) := by decide +kernel
theorem dX10_fault_24 : decode cX10_fault 24 = .ok (.getfield 74, 3) := by decide +kernel
theorem dX10_fault_27 : decode cX10_fault 27 = .ok (.iconst 3, 1) := by decide +kernel
theorem dX10_fault_28 : decode cX10_fault 28 = .ok (.iload_n 1, 1) := by decide +kernel
theorem dX10_fault_29 : decode cX10_fault 29 = .ok (.imul, 1) := by decide +kernel
theorem dX10_fault_30 : decode cX10_fault 30 = .ok (.iload_n 2, 1) := by decide +kernel
theorem dX10_fault_31 : decode cX10_fault 31 = .ok (.iadd, 1) := by decide +kernel
theorem dX10_fault_32 : decode cX10_fault 32 = .ok (.iaload, 1) := by decide +kernel
theorem dX10_fault_33 : decode cX10_fault 33 = .ok (.goto 4, 3) := by decide +kernel
theorem dX10_fault_36 : decode cX10_fault 36 = .ok (.iconst (-1), 1) := by decide +kernel
theorem dX10_fault_37 : decode cX10_fault 37 = .ok (.ireturn, 1) := by decide +kernel
theorem dX10_count_0 : decode cX10_count 0 = .ok (.iload_n 1, 1) := by decide +kernel
theorem dX10_count_1 : decode cX10_count 1 = .ok (.tableswitch 87 0 7 #[47, 52, 57, 62, 67, 72, 77, 82], 47) := by decide +kernel
theorem dX10_count_48 : decode cX10_count 48 = .ok (.aload_n 0, 1) := by decide +kernel
theorem dX10_count_49 : decode cX10_count 49 = .ok (.getfield 119, 3) := by decide +kernel
theorem dX10_count_52 : decode cX10_count 52 = .ok (.ireturn, 1) := by decide +kernel
theorem dX10_count_53 : decode cX10_count 53 = .ok (.aload_n 0, 1) := by decide +kernel
theorem dX10_count_54 : decode cX10_count 54 = .ok (.getfield 110, 3) := by decide +kernel
theorem dX10_count_57 : decode cX10_count 57 = .ok (.ireturn, 1) := by decide +kernel
theorem dX10_count_58 : decode cX10_count 58 = .ok (.aload_n 0, 1) := by decide +kernel
theorem dX10_count_59 : decode cX10_count 59 = .ok (.getfield 113, 3) := by decide +kernel
theorem dX10_count_62 : decode cX10_count 62 = .ok (.ireturn, 1) := by decide +kernel
theorem dX10_count_63 : decode cX10_count 63 = .ok (.aload_n 0, 1) := by decide +kernel
theorem dX10_count_64 : decode cX10_count 64 = .ok (.getfield 116, 3) := by decide +kernel
theorem dX10_count_67 : decode cX10_count 67 = .ok (.ireturn, 1) := by decide +kernel
theorem dX10_count_68 : decode cX10_count 68 = .ok (.aload_n 0, 1) := by decide +kernel
theorem dX10_count_69 : decode cX10_count 69 = .ok (.getfield 145, 3) := by decide +kernel
theorem dX10_count_72 : decode cX10_count 72 = .ok (.ireturn, 1) := by decide +kernel
theorem dX10_count_73 : decode cX10_count 73 = .ok (.aload_n 0, 1) := by decide +kernel
theorem dX10_count_74 : decode cX10_count 74 = .ok (.getfield 148, 3) := by decide +kernel
theorem dX10_count_77 : decode cX10_count 77 = .ok (.ireturn, 1) := by decide +kernel
theorem dX10_count_78 : decode cX10_count 78 = .ok (.aload_n 0, 1) := by decide +kernel
theorem dX10_count_79 : decode cX10_count 79 = .ok (.getfield 220, 3) := by decide +kernel
theorem dX10_count_82 : decode cX10_count 82 = .ok (.ireturn, 1) := by decide +kernel
theorem dX10_count_83 : decode cX10_count 83 = .ok (.aload_n 0, 1) := by decide +kernel
theorem dX10_count_84 : decode cX10_count 84 = .ok (.getfield 106, 3) := by decide +kernel
theorem dX10_count_87 : decode cX10_count 87 = .ok (.ireturn, 1) := by decide +kernel
theorem dX10_count_88 : decode cX10_count 88 = .ok (.iconst (-1), 1) := by decide +kernel
theorem dX10_count_89 : decode cX10_count 89 = .ok (.ireturn, 1) := by decide +kernel
theorem dJ9_floorDiv_7cf53_0 : decode cJ9_floorDiv_7cf53 0 = .ok (.iload_n 0, 1) := by decide +kernel
theorem dJ9_floorDiv_7cf53_1 : decode cJ9_floorDiv_7cf53 1 = .ok (.iload_n 1, 1) := by decide +kernel
theorem dJ9_floorDiv_7cf53_2 : decode cJ9_floorDiv_7cf53 2 = .ok (.idiv, 1) := by decide +kernel
theorem dJ9_floorDiv_7cf53_3 : decode cJ9_floorDiv_7cf53 3 = .ok (.istore_n 2, 1) := by decide +kernel
theorem dJ9_floorDiv_7cf53_4 : decode cJ9_floorDiv_7cf53 4 = .ok (.iload_n 0, 1) := by decide +kernel
theorem dJ9_floorDiv_7cf53_5 : decode cJ9_floorDiv_7cf53 5 = .ok (.iload_n 1, 1) := by decide +kernel
theorem dJ9_floorDiv_7cf53_6 : decode cJ9_floorDiv_7cf53 6 = .ok (.ixor, 1) := by decide +kernel
theorem dJ9_floorDiv_7cf53_7 : decode cJ9_floorDiv_7cf53 7 = .ok (.ifCond .ge 14, 3) := by decide +kernel
theorem dJ9_floorDiv_7cf53_10 : decode cJ9_floorDiv_7cf53 10 = .ok (.iload_n 2, 1) := by decide +kernel
theorem dJ9_floorDiv_7cf53_11 : decode cJ9_floorDiv_7cf53 11 = .ok (.iload_n 1, 1) := by decide +kernel
theorem dJ9_floorDiv_7cf53_12 : decode cJ9_floorDiv_7cf53 12 = .ok (.imul, 1) := by decide +kernel
theorem dJ9_floorDiv_7cf53_13 : decode cJ9_floorDiv_7cf53 13 = .ok (.iload_n 0, 1) := by decide +kernel
theorem dJ9_floorDiv_7cf53_14 : decode cJ9_floorDiv_7cf53 14 = .ok (.if_icmp .eq 7, 3) := by decide +kernel
theorem dJ9_floorDiv_7cf53_17 : decode cJ9_floorDiv_7cf53 17 = .ok (.iload_n 2, 1) := by decide +kernel
theorem dJ9_floorDiv_7cf53_18 : decode cJ9_floorDiv_7cf53 18 = .ok (.iconst 1, 1) := by decide +kernel
theorem dJ9_floorDiv_7cf53_19 : decode cJ9_floorDiv_7cf53 19 = .ok (.isub, 1) := by decide +kernel
theorem dJ9_floorDiv_7cf53_20 : decode cJ9_floorDiv_7cf53 20 = .ok (.ireturn, 1) := by decide +kernel
theorem dJ9_floorDiv_7cf53_21 : decode cJ9_floorDiv_7cf53 21 = .ok (.iload_n 2, 1) := by decide +kernel
theorem dJ9_floorDiv_7cf53_22 : decode cJ9_floorDiv_7cf53 22 = .ok (.ireturn, 1) := by decide +kernel
theorem dJ9_floorMod_7cf53_0 : decode cJ9_floorMod_7cf53 0 = .ok (.iload_n 0, 1) := by decide +kernel
theorem dJ9_floorMod_7cf53_1 : decode cJ9_floorMod_7cf53 1 = .ok (.iload_n 1, 1) := by decide +kernel
theorem dJ9_floorMod_7cf53_2 : decode cJ9_floorMod_7cf53 2 = .ok (.irem, 1) := by decide +kernel
theorem dJ9_floorMod_7cf53_3 : decode cJ9_floorMod_7cf53 3 = .ok (.istore_n 2, 1) := by decide +kernel
theorem dJ9_floorMod_7cf53_4 : decode cJ9_floorMod_7cf53 4 = .ok (.iload_n 0, 1) := by decide +kernel
theorem dJ9_floorMod_7cf53_5 : decode cJ9_floorMod_7cf53 5 = .ok (.iload_n 1, 1) := by decide +kernel
theorem dJ9_floorMod_7cf53_6 : decode cJ9_floorMod_7cf53 6 = .ok (.ixor, 1) := by decide +kernel
theorem dJ9_floorMod_7cf53_7 : decode cJ9_floorMod_7cf53 7 = .ok (.ifCond .ge 11, 3) := by decide +kernel
theorem dJ9_floorMod_7cf53_10 : decode cJ9_floorMod_7cf53 10 = .ok (.iload_n 2, 1) := by decide +kernel
theorem dJ9_floorMod_7cf53_11 : decode cJ9_floorMod_7cf53 11 = .ok (.ifCond .eq 7, 3) := by decide +kernel
theorem dJ9_floorMod_7cf53_14 : decode cJ9_floorMod_7cf53 14 = .ok (.iload_n 2, 1) := by decide +kernel
theorem dJ9_floorMod_7cf53_15 : decode cJ9_floorMod_7cf53 15 = .ok (.iload_n 1, 1) := by decide +kernel
theorem dJ9_floorMod_7cf53_16 : decode cJ9_floorMod_7cf53 16 = .ok (.iadd, 1) := by decide +kernel
theorem dJ9_floorMod_7cf53_17 : decode cJ9_floorMod_7cf53 17 = .ok (.ireturn, 1) := by decide +kernel
theorem dJ9_floorMod_7cf53_18 : decode cJ9_floorMod_7cf53 18 = .ok (.iload_n 2, 1) := by decide +kernel
theorem dJ9_floorMod_7cf53_19 : decode cJ9_floorMod_7cf53 19 = .ok (.ireturn, 1) := by decide +kernel
theorem dJ0_length_8abf5_0 : decode cJ0_length_8abf5 0 = .ok (.aload_n 0, 1) := by decide +kernel
theorem dJ0_length_8abf5_1 : decode cJ0_length_8abf5 1 = .ok (.getfield 9, 3) := by decide +kernel
theorem dJ0_length_8abf5_4 : decode cJ0_length_8abf5 4 = .ok (.arraylength, 1) := by decide +kernel
theorem dJ0_length_8abf5_5 : decode cJ0_length_8abf5 5 = .ok (.aload_n 0, 1) := by decide +kernel
theorem dJ0_length_8abf5_6 : decode cJ0_length_8abf5 6 = .ok (.invokevirtual 335, 3) := by decide +kernel
theorem dJ0_length_8abf5_9 : decode cJ0_length_8abf5 9 = .ok (.ishr, 1) := by decide +kernel
theorem dJ0_length_8abf5_10 : decode cJ0_length_8abf5 10 = .ok (.ireturn, 1) := by decide +kernel
theorem dJ0_charAt_5068e_0 : decode cJ0_charAt_5068e 0 = .ok (.aload_n 0, 1) := by decide +kernel
theorem dJ0_charAt_5068e_1 : decode cJ0_charAt_5068e 1 = .ok (.invokevirtual 492, 3) := by decide +kernel
theorem dJ0_charAt_5068e_4 : decode cJ0_charAt_5068e 4 = .ok (.ifCond .eq 12, 3) := by decide +kernel
theorem dJ0_charAt_5068e_7 : decode cJ0_charAt_5068e 7 = .ok (.aload_n 0, 1) := by decide +kernel
theorem dJ0_charAt_5068e_8 : decode cJ0_charAt_5068e 8 = .ok (.getfield 9, 3) := by decide +kernel
theorem dJ0_charAt_5068e_11 : decode cJ0_charAt_5068e 11 = .ok (.iload_n 1, 1) := by decide +kernel
theorem dJ0_charAt_5068e_12 : decode cJ0_charAt_5068e 12 = .ok (.invokestatic 495, 3) := by decide +kernel
theorem dJ0_charAt_5068e_15 : decode cJ0_charAt_5068e 15 = .ok (.ireturn, 1) := by decide +kernel
theorem dJ0_charAt_5068e_16 : decode cJ0_charAt_5068e 16 = .ok (.aload_n 0, 1) := by decide +kernel
theorem dJ0_charAt_5068e_17 : decode cJ0_charAt_5068e 17 = .ok (.getfield 9, 3) := by decide +kernel
theorem dJ0_charAt_5068e_20 : decode cJ0_charAt_5068e 20 = .ok (.iload_n 1, 1) := by decide +kernel
theorem dJ0_charAt_5068e_21 : decode cJ0_charAt_5068e 21 = .ok (.invokestatic 498, 3) := by decide +kernel
theorem dJ0_charAt_5068e_24 : decode cJ0_charAt_5068e 24 = .ok (.ireturn, 1) := by decide +kernel
theorem dJ0_indexOf_0f7a4_0 : decode cJ0_indexOf_0f7a4 0 = .ok (.aload_n 0, 1) := by decide +kernel
theorem dJ0_indexOf_0f7a4_1 : decode cJ0_indexOf_0f7a4 1 = .ok (.iload_n 1, 1) := by decide +kernel
theorem dJ0_indexOf_0f7a4_2 : decode cJ0_indexOf_0f7a4 2 = .ok (.iconst 0, 1) := by decide +kernel
theorem dJ0_indexOf_0f7a4_3 : decode cJ0_indexOf_0f7a4 3 = .ok (.invokevirtual 633, 3) := by decide +kernel
theorem dJ0_indexOf_0f7a4_6 : decode cJ0_indexOf_0f7a4 6 = .ok (.ireturn, 1) := by decide +kernel
theorem dJ0_indexOf_7cf53_0 : decode cJ0_indexOf_7cf53 0 = .ok (.aload_n 0, 1) := by decide +kernel
theorem dJ0_indexOf_7cf53_1 : decode cJ0_indexOf_7cf53 1 = .ok (.invokevirtual 492, 3) := by decide +kernel
theorem dJ0_indexOf_7cf53_4 : decode cJ0_indexOf_7cf53 4 = .ok (.ifCond .eq 19, 3) := by decide +kernel
theorem dJ0_indexOf_7cf53_7 : decode cJ0_indexOf_7cf53 7 = .ok (.aload_n 0, 1) := by decide +kernel
theorem dJ0_indexOf_7cf53_8 : decode cJ0_indexOf_7cf53 8 = .ok (.getfield 9, 3) := by decide +kernel
theorem dJ0_indexOf_7cf53_11 : decode cJ0_indexOf_7cf53 11 = .ok (.iload_n 1, 1) := by decide +kernel
theorem dJ0_indexOf_7cf53_12 : decode cJ0_indexOf_7cf53 12 = .ok (.iload_n 2, 1) := by decide +kernel
theorem dJ0_indexOf_7cf53_13 : decode cJ0_indexOf_7cf53 13 = .ok (.aload_n 0, 1) := by decide +kernel
theorem dJ0_indexOf_7cf53_14 : decode cJ0_indexOf_7cf53 14 = .ok (.invokevirtual 505, 3) := by decide +kernel
theorem dJ0_indexOf_7cf53_17 : decode cJ0_indexOf_7cf53 17 = .ok (.invokestatic 637, 3) := by decide +kernel
theorem dJ0_indexOf_7cf53_20 : decode cJ0_indexOf_7cf53 20 = .ok (.goto 16, 3) := by decide +kernel
theorem dJ0_indexOf_7cf53_23 : decode cJ0_indexOf_7cf53 23 = .ok (.aload_n 0, 1) := by decide +kernel
theorem dJ0_indexOf_7cf53_24 : decode cJ0_indexOf_7cf53 24 = .ok (.getfield 9, 3) := by decide +kernel
theorem dJ0_indexOf_7cf53_27 : decode cJ0_indexOf_7cf53 27 = .ok (.iload_n 1, 1) := by decide +kernel
theorem dJ0_indexOf_7cf53_28 : decode cJ0_indexOf_7cf53 28 = .ok (.iload_n 2, 1) := by decide +kernel
theorem dJ0_indexOf_7cf53_29 : decode cJ0_indexOf_7cf53 29 = .ok (.aload_n 0, 1) := by decide +kernel
theorem dJ0_indexOf_7cf53_30 : decode cJ0_indexOf_7cf53 30 = .ok (.invokevirtual 505, 3) := by decide +kernel
theorem dJ0_indexOf_7cf53_33 : decode cJ0_indexOf_7cf53 33 = .ok (.invokestatic 640, 3) := by decide +kernel
theorem dJ0_indexOf_7cf53_36 : decode cJ0_indexOf_7cf53 36 = .ok (.ireturn, 1) := by decide +kernel
theorem dJ0_coder_7d493_0 : decode cJ0_coder_7d493 0 = .ok (.getstatic 38, 3) := by decide +kernel
theorem dJ0_coder_7d493_3 : decode cJ0_coder_7d493 3 = .ok (.ifCond .eq 10, 3) := by decide +kernel
theorem dJ0_coder_7d493_6 : decode cJ0_coder_7d493 6 = .ok (.aload_n 0, 1) := by decide +kernel
theorem dJ0_coder_7d493_7 : decode cJ0_coder_7d493 7 = .ok (.getfield 15, 3) := by decide +kernel
theorem dJ0_coder_7d493_10 : decode cJ0_coder_7d493 10 = .ok (.goto 4, 3) := by decide +kernel
theorem dJ0_coder_7d493_13 : decode cJ0_coder_7d493 13 = .ok (.iconst 1, 1) := by decide +kernel
theorem dJ0_coder_7d493_14 : decode cJ0_coder_7d493 14 = .ok (.ireturn, 1) := by decide +kernel
theorem dJ0_isLatin1_aae02_0 : decode cJ0_isLatin1_aae02 0 = .ok (.getstatic 38, 3) := by decide +kernel
theorem dJ0_isLatin1_aae02_3 : decode cJ0_isLatin1_aae02 3 = .ok (.ifCond .eq 14, 3) := by decide +kernel
theorem dJ0_isLatin1_aae02_6 : decode cJ0_isLatin1_aae02 6 = .ok (.aload_n 0, 1) := by decide +kernel
theorem dJ0_isLatin1_aae02_7 : decode cJ0_isLatin1_aae02 7 = .ok (.getfield 15, 3) := by decide +kernel
theorem dJ0_isLatin1_aae02_10 : decode cJ0_isLatin1_aae02 10 = .ok (.ifCond .ne 7, 3) := by decide +kernel
theorem dJ0_isLatin1_aae02_13 : decode cJ0_isLatin1_aae02 13 = .ok (.iconst 1, 1) := by decide +kernel
theorem dJ0_isLatin1_aae02_14 : decode cJ0_isLatin1_aae02 14 = .ok (.goto 4, 3) := by decide +kernel
theorem dJ0_isLatin1_aae02_17 : decode cJ0_isLatin1_aae02 17 = .ok (.iconst 0, 1) := by decide +kernel
theorem dJ0_isLatin1_aae02_18 : decode cJ0_isLatin1_aae02 18 = .ok (.ireturn, 1) := by decide +kernel
theorem dJ0_checkIndex_df160_0 : decode cJ0_checkIndex_df160 0 = .ok (.iload_n 0, 1) := by decide +kernel
theorem dJ0_checkIndex_df160_1 : decode cJ0_checkIndex_df160 1 = .ok (.iload_n 1, 1) := by decide +kernel
theorem dJ0_checkIndex_df160_2 : decode cJ0_checkIndex_df160 2 = .ok (.getstatic 1053, 3) := by decide +kernel
theorem dJ0_checkIndex_df160_5 : decode cJ0_checkIndex_df160 5 = .ok (.invokestatic 1059, 3) := by decide +kernel
theorem dJ0_checkIndex_df160_8 : decode cJ0_checkIndex_df160 8 = .ok (.pop, 1) := by decide +kernel
theorem dJ0_checkIndex_df160_9 : decode cJ0_checkIndex_df160 9 = .ok (.return_, 1) := by decide +kernel
theorem dJ1_charAt_3b067_0 : decode cJ1_charAt_3b067 0 = .ok (.iload_n 1, 1) := by decide +kernel
theorem dJ1_charAt_3b067_1 : decode cJ1_charAt_3b067 1 = .ok (.aload_n 0, 1) := by decide +kernel
theorem dJ1_charAt_3b067_2 : decode cJ1_charAt_3b067 2 = .ok (.arraylength, 1) := by decide +kernel
theorem dJ1_charAt_3b067_3 : decode cJ1_charAt_3b067 3 = .ok (.invokestatic 9, 3) := by decide +kernel
theorem dJ1_charAt_3b067_6 : decode cJ1_charAt_3b067 6 = .ok (.aload_n 0, 1) := by decide +kernel
theorem dJ1_charAt_3b067_7 : decode cJ1_charAt_3b067 7 = .ok (.iload_n 1, 1) := by decide +kernel
theorem dJ1_charAt_3b067_8 : decode cJ1_charAt_3b067 8 = .ok (.baload, 1) := by decide +kernel
theorem dJ1_charAt_3b067_9 : decode cJ1_charAt_3b067 9 = .ok (.sipush 255, 3) := by decide +kernel
theorem dJ1_charAt_3b067_12 : decode cJ1_charAt_3b067 12 = .ok (.iand, 1) := by decide +kernel
theorem dJ1_charAt_3b067_13 : decode cJ1_charAt_3b067 13 = .ok (.i2c, 1) := by decide +kernel
theorem dJ1_charAt_3b067_14 : decode cJ1_charAt_3b067 14 = .ok (.ireturn, 1) := by decide +kernel
theorem dJ1_canEncode_9a6ad_0 : decode cJ1_canEncode_9a6ad 0 = .ok (.iload_n 0, 1) := by decide +kernel
theorem dJ1_canEncode_9a6ad_1 : decode cJ1_canEncode_9a6ad 1 = .ok (.ifCond .lt 14, 3) := by decide +kernel
theorem dJ1_canEncode_9a6ad_4 : decode cJ1_canEncode_9a6ad 4 = .ok (.iload_n 0, 1) := by decide +kernel
theorem dJ1_canEncode_9a6ad_5 : decode cJ1_canEncode_9a6ad 5 = .ok (.sipush 255, 3) := by decide +kernel
theorem dJ1_canEncode_9a6ad_8 : decode cJ1_canEncode_9a6ad 8 = .ok (.if_icmp .gt 7, 3) := by decide +kernel
theorem dJ1_canEncode_9a6ad_11 : decode cJ1_canEncode_9a6ad 11 = .ok (.iconst 1, 1) := by decide +kernel
theorem dJ1_canEncode_9a6ad_12 : decode cJ1_canEncode_9a6ad 12 = .ok (.goto 4, 3) := by decide +kernel
theorem dJ1_canEncode_9a6ad_15 : decode cJ1_canEncode_9a6ad 15 = .ok (.iconst 0, 1) := by decide +kernel
theorem dJ1_canEncode_9a6ad_16 : decode cJ1_canEncode_9a6ad 16 = .ok (.ireturn, 1) := by decide +kernel
theorem dJ1_indexOf_4cfef_0 : decode cJ1_indexOf_4cfef 0 = .ok (.iload_n 1, 1) := by decide +kernel
theorem dJ1_indexOf_4cfef_1 : decode cJ1_indexOf_4cfef 1 = .ok (.invokestatic 88, 3) := by decide +kernel
theorem dJ1_indexOf_4cfef_4 : decode cJ1_indexOf_4cfef 4 = .ok (.ifCond .ne 5, 3) := by decide +kernel
theorem dJ1_indexOf_4cfef_7 : decode cJ1_indexOf_4cfef 7 = .ok (.iconst (-1), 1) := by decide +kernel
theorem dJ1_indexOf_4cfef_8 : decode cJ1_indexOf_4cfef 8 = .ok (.ireturn, 1) := by decide +kernel
theorem dJ1_indexOf_4cfef_9 : decode cJ1_indexOf_4cfef 9 = .ok (.iload_n 2, 1) := by decide +kernel
theorem dJ1_indexOf_4cfef_10 : decode cJ1_indexOf_4cfef 10 = .ok (.iconst 0, 1) := by decide +kernel
theorem dJ1_indexOf_4cfef_11 : decode cJ1_indexOf_4cfef 11 = .ok (.invokestatic 92, 3) := by decide +kernel
theorem dJ1_indexOf_4cfef_14 : decode cJ1_indexOf_4cfef 14 = .ok (.istore_n 2, 1) := by decide +kernel
theorem dJ1_indexOf_4cfef_15 : decode cJ1_indexOf_4cfef 15 = .ok (.iload_n 3, 1) := by decide +kernel
theorem dJ1_indexOf_4cfef_16 : decode cJ1_indexOf_4cfef 16 = .ok (.aload_n 0, 1) := by decide +kernel
theorem dJ1_indexOf_4cfef_17 : decode cJ1_indexOf_4cfef 17 = .ok (.arraylength, 1) := by decide +kernel
theorem dJ1_indexOf_4cfef_18 : decode cJ1_indexOf_4cfef 18 = .ok (.invokestatic 38, 3) := by decide +kernel
theorem dJ1_indexOf_4cfef_21 : decode cJ1_indexOf_4cfef 21 = .ok (.istore_n 3, 1) := by decide +kernel
theorem dJ1_indexOf_4cfef_22 : decode cJ1_indexOf_4cfef 22 = .ok (.iload_n 2, 1) := by decide +kernel
theorem dJ1_indexOf_4cfef_23 : decode cJ1_indexOf_4cfef 23 = .ok (.iload_n 3, 1) := by decide +kernel
theorem dJ1_indexOf_4cfef_24 : decode cJ1_indexOf_4cfef 24 = .ok (.if_icmp .lt 5, 3) := by decide +kernel
theorem dJ1_indexOf_4cfef_27 : decode cJ1_indexOf_4cfef 27 = .ok (.iconst (-1), 1) := by decide +kernel
theorem dJ1_indexOf_4cfef_28 : decode cJ1_indexOf_4cfef 28 = .ok (.ireturn, 1) := by decide +kernel
theorem dJ1_indexOf_4cfef_29 : decode cJ1_indexOf_4cfef 29 = .ok (.aload_n 0, 1) := by decide +kernel
theorem dJ1_indexOf_4cfef_30 : decode cJ1_indexOf_4cfef 30 = .ok (.iload_n 1, 1) := by decide +kernel
theorem dJ1_indexOf_4cfef_31 : decode cJ1_indexOf_4cfef 31 = .ok (.iload_n 2, 1) := by decide +kernel
theorem dJ1_indexOf_4cfef_32 : decode cJ1_indexOf_4cfef 32 = .ok (.iload_n 3, 1) := by decide +kernel
theorem dJ1_indexOf_4cfef_33 : decode cJ1_indexOf_4cfef 33 = .ok (.invokestatic 95, 3) := by decide +kernel
theorem dJ1_indexOf_4cfef_36 : decode cJ1_indexOf_4cfef 36 = .ok (.ireturn, 1) := by decide +kernel
theorem dJ1_indexOfChar_4cfef_0 : decode cJ1_indexOfChar_4cfef 0 = .ok (.iload_n 1, 1) := by decide +kernel
theorem dJ1_indexOfChar_4cfef_1 : decode cJ1_indexOfChar_4cfef 1 = .ok (.i2b, 1) := by decide +kernel
theorem dJ1_indexOfChar_4cfef_2 : decode cJ1_indexOfChar_4cfef 2 = .ok (.istore 4, 2) := by decide +kernel
theorem dJ1_indexOfChar_4cfef_4 : decode cJ1_indexOfChar_4cfef 4 = .ok (.iload_n 2, 1) := by decide +kernel
theorem dJ1_indexOfChar_4cfef_5 : decode cJ1_indexOfChar_4cfef 5 = .ok (.istore 5, 2) := by decide +kernel
theorem dJ1_indexOfChar_4cfef_7 : decode cJ1_indexOfChar_4cfef 7 = .ok (.iload 5, 2) := by decide +kernel
theorem dJ1_indexOfChar_4cfef_9 : decode cJ1_indexOfChar_4cfef 9 = .ok (.iload_n 3, 1) := by decide +kernel
theorem dJ1_indexOfChar_4cfef_10 : decode cJ1_indexOfChar_4cfef 10 = .ok (.if_icmp .ge 21, 3) := by decide +kernel
theorem dJ1_indexOfChar_4cfef_13 : decode cJ1_indexOfChar_4cfef 13 = .ok (.aload_n 0, 1) := by decide +kernel
theorem dJ1_indexOfChar_4cfef_14 : decode cJ1_indexOfChar_4cfef 14 = .ok (.iload 5, 2) := by decide +kernel
theorem dJ1_indexOfChar_4cfef_16 : decode cJ1_indexOfChar_4cfef 16 = .ok (.baload, 1) := by decide +kernel
theorem dJ1_indexOfChar_4cfef_17 : decode cJ1_indexOfChar_4cfef 17 = .ok (.iload 4, 2) := by decide +kernel
theorem dJ1_indexOfChar_4cfef_19 : decode cJ1_indexOfChar_4cfef 19 = .ok (.if_icmp .ne 6, 3) := by decide +kernel
theorem dJ1_indexOfChar_4cfef_22 : decode cJ1_indexOfChar_4cfef 22 = .ok (.iload 5, 2) := by decide +kernel
theorem dJ1_indexOfChar_4cfef_24 : decode cJ1_indexOfChar_4cfef 24 = .ok (.ireturn, 1) := by decide +kernel
theorem dJ1_indexOfChar_4cfef_25 : decode cJ1_indexOfChar_4cfef 25 = .ok (.iinc 5 1, 3) := by decide +kernel
theorem dJ1_indexOfChar_4cfef_28 : decode cJ1_indexOfChar_4cfef 28 = .ok (.goto (-21), 3) := by decide +kernel
theorem dJ1_indexOfChar_4cfef_31 : decode cJ1_indexOfChar_4cfef 31 = .ok (.iconst (-1), 1) := by decide +kernel
theorem dJ1_indexOfChar_4cfef_32 : decode cJ1_indexOfChar_4cfef 32 = .ok (.ireturn, 1) := by decide +kernel
theorem dJ7_fill_53178_0 : decode cJ7_fill_53178 0 = .ok (.iconst 0, 1) := by decide +kernel
theorem dJ7_fill_53178_1 : decode cJ7_fill_53178 1 = .ok (.istore_n 2, 1) := by decide +kernel
theorem dJ7_fill_53178_2 : decode cJ7_fill_53178 2 = .ok (.aload_n 0, 1) := by decide +kernel
theorem dJ7_fill_53178_3 : decode cJ7_fill_53178 3 = .ok (.arraylength, 1) := by decide +kernel
theorem dJ7_fill_53178_4 : decode cJ7_fill_53178 4 = .ok (.istore_n 3, 1) := by decide +kernel
theorem dJ7_fill_53178_5 : decode cJ7_fill_53178 5 = .ok (.iload_n 2, 1) := by decide +kernel
theorem dJ7_fill_53178_6 : decode cJ7_fill_53178 6 = .ok (.iload_n 3, 1) := by decide +kernel
theorem dJ7_fill_53178_7 : decode cJ7_fill_53178 7 = .ok (.if_icmp .ge 13, 3) := by decide +kernel
theorem dJ7_fill_53178_10 : decode cJ7_fill_53178 10 = .ok (.aload_n 0, 1) := by decide +kernel
theorem dJ7_fill_53178_11 : decode cJ7_fill_53178 11 = .ok (.iload_n 2, 1) := by decide +kernel
theorem dJ7_fill_53178_12 : decode cJ7_fill_53178 12 = .ok (.iload_n 1, 1) := by decide +kernel
theorem dJ7_fill_53178_13 : decode cJ7_fill_53178 13 = .ok (.iastore, 1) := by decide +kernel
theorem dJ7_fill_53178_14 : decode cJ7_fill_53178 14 = .ok (.iinc 2 1, 3) := by decide +kernel
theorem dJ7_fill_53178_17 : decode cJ7_fill_53178 17 = .ok (.goto (-12), 3) := by decide +kernel
theorem dJ7_fill_53178_20 : decode cJ7_fill_53178 20 = .ok (.return_, 1) := by decide +kernel
theorem dJ3_checkIndex_8e157_0 : decode cJ3_checkIndex_8e157 0 = .ok (.iload_n 0, 1) := by decide +kernel
theorem dJ3_checkIndex_8e157_1 : decode cJ3_checkIndex_8e157 1 = .ok (.ifCond .lt 8, 3) := by decide +kernel
theorem dJ3_checkIndex_8e157_4 : decode cJ3_checkIndex_8e157 4 = .ok (.iload_n 0, 1) := by decide +kernel
theorem dJ3_checkIndex_8e157_5 : decode cJ3_checkIndex_8e157 5 = .ok (.iload_n 1, 1) := by decide +kernel
theorem dJ3_checkIndex_8e157_6 : decode cJ3_checkIndex_8e157 6 = .ok (.if_icmp .lt 10, 3) := by decide +kernel
theorem dJ3_checkIndex_8e157_9 : decode cJ3_checkIndex_8e157 9 = .ok (.aload_n 2, 1) := by decide +kernel
theorem dJ3_checkIndex_8e157_10 : decode cJ3_checkIndex_8e157 10 = .ok (.iload_n 0, 1) := by decide +kernel
theorem dJ3_checkIndex_8e157_11 : decode cJ3_checkIndex_8e157 11 = .ok (.iload_n 1, 1) := by decide +kernel
theorem dJ3_checkIndex_8e157_12 : decode cJ3_checkIndex_8e157 12 = .ok (.invokestatic 95, 3) := by decide +kernel
theorem dJ3_checkIndex_8e157_15 : decode cJ3_checkIndex_8e157 15 = .ok (.athrow, 1) := by decide +kernel
theorem dJ3_checkIndex_8e157_16 : decode cJ3_checkIndex_8e157 16 = .ok (.iload_n 0, 1) := by decide +kernel
theorem dJ3_checkIndex_8e157_17 : decode cJ3_checkIndex_8e157 17 = .ok (.ireturn, 1) := by decide +kernel
theorem dL_cell_0 : decode cL_cell 0 = .ok (.iload_n 1, 1) := by decide +kernel
theorem dL_cell_1 : decode cL_cell 1 = .ok (.aload_n 0, 1) := by decide +kernel
theorem dL_cell_2 : decode cL_cell 2 = .ok (.arraylength, 1) := by decide +kernel
theorem dL_cell_3 : decode cL_cell 3 = .ok (.if_icmp .ge 9, 3) := by decide +kernel
theorem dL_cell_6 : decode cL_cell 6 = .ok (.aload_n 0, 1) := by decide +kernel
theorem dL_cell_7 : decode cL_cell 7 = .ok (.iload_n 1, 1) := by decide +kernel
theorem dL_cell_8 : decode cL_cell 8 = .ok (.iaload, 1) := by decide +kernel
theorem dL_cell_9 : decode cL_cell 9 = .ok (.goto 4, 3) := by decide +kernel
theorem dL_cell_12 : decode cL_cell 12 = .ok (.iconst 0, 1) := by decide +kernel
theorem dL_cell_13 : decode cL_cell 13 = .ok (.ireturn, 1) := by decide +kernel
theorem dL_law_0 : decode cL_law 0 = .ok (.new 7, 3) := by decide +kernel
theorem dL_law_3 : decode cL_law 3 = .ok (.dup, 1) := by decide +kernel
theorem dL_law_4 : decode cL_law 4 = .ok (.aload_n 0, 1) := by decide +kernel
theorem dL_law_5 : decode cL_law 5 = .ok (.iconst 0, 1) := by decide +kernel
theorem dL_law_6 : decode cL_law 6 = .ok (.invokestatic 9, 3) := by decide +kernel
theorem dL_law_9 : decode cL_law 9 = .ok (.invokespecial 15, 3) := by decide +kernel
theorem dL_law_12 : decode cL_law 12 = .ok (.astore_n 1, 1) := by decide +kernel
theorem dL_law_13 : decode cL_law 13 = .ok (.new 18, 3) := by decide +kernel
theorem dL_law_16 : decode cL_law 16 = .ok (.dup, 1) := by decide +kernel
theorem dL_law_17 : decode cL_law 17 = .ok (.aload_n 0, 1) := by decide +kernel
theorem dL_law_18 : decode cL_law 18 = .ok (.iconst 0, 1) := by decide +kernel
theorem dL_law_19 : decode cL_law 19 = .ok (.invokestatic 9, 3) := by decide +kernel
theorem dL_law_22 : decode cL_law 22 = .ok (.invokespecial 20, 3) := by decide +kernel
theorem dL_law_25 : decode cL_law 25 = .ok (.astore_n 2, 1) := by decide +kernel
theorem dL_law_26 : decode cL_law 26 = .ok (.iconst 1, 1) := by decide +kernel
theorem dL_law_27 : decode cL_law 27 = .ok (.istore_n 3, 1) := by decide +kernel
theorem dL_law_28 : decode cL_law 28 = .ok (.iload_n 3, 1) := by decide +kernel
theorem dL_law_29 : decode cL_law 29 = .ok (.aload_n 0, 1) := by decide +kernel
theorem dL_law_30 : decode cL_law 30 = .ok (.arraylength, 1) := by decide +kernel
theorem dL_law_31 : decode cL_law 31 = .ok (.iconst 5, 1) := by decide +kernel
theorem dL_law_32 : decode cL_law 32 = .ok (.isub, 1) := by decide +kernel
theorem dL_law_33 : decode cL_law 33 = .ok (.if_icmp .gt 1064, 3) := by decide +kernel
theorem dL_law_36 : decode cL_law 36 = .ok (.aload_n 0, 1) := by decide +kernel
theorem dL_law_37 : decode cL_law 37 = .ok (.iload_n 3, 1) := by decide +kernel
theorem dL_law_38 : decode cL_law 38 = .ok (.iaload, 1) := by decide +kernel
theorem dL_law_39 : decode cL_law 39 = .ok (.bipush 31, 2) := by decide +kernel
theorem dL_law_41 : decode cL_law 41 = .ok (.iand, 1) := by decide +kernel
theorem dL_law_42 : decode cL_law 42 = .ok (.tableswitch 1049 0 26 #[122, 145, 158, 171, 224, 267, 300, 353, 376, 435, 478, 531, 574, 627, 660, 693, 726, 749, 782, 815, 848, 891, 924, 957, 980, 993, 1026], 122) := by decide +kernel
theorem dL_law_164 : decode cL_law 164 = .ok (.aload_n 1, 1) := by decide +kernel
theorem dL_law_165 : decode cL_law 165 = .ok (.aload_n 0, 1) := by decide +kernel
theorem dL_law_166 : decode cL_law 166 = .ok (.iload_n 3, 1) := by decide +kernel
theorem dL_law_167 : decode cL_law 167 = .ok (.iconst 1, 1) := by decide +kernel
theorem dL_law_168 : decode cL_law 168 = .ok (.iadd, 1) := by decide +kernel
theorem dL_law_169 : decode cL_law 169 = .ok (.iaload, 1) := by decide +kernel
theorem dL_law_170 : decode cL_law 170 = .ok (.invokevirtual 21, 3) := by decide +kernel
theorem dL_law_173 : decode cL_law 173 = .ok (.aload_n 2, 1) := by decide +kernel
theorem dL_law_174 : decode cL_law 174 = .ok (.aload_n 0, 1) := by decide +kernel
theorem dL_law_175 : decode cL_law 175 = .ok (.iload_n 3, 1) := by decide +kernel
theorem dL_law_176 : decode cL_law 176 = .ok (.iconst 1, 1) := by decide +kernel
theorem dL_law_177 : decode cL_law 177 = .ok (.iadd, 1) := by decide +kernel
theorem dL_law_178 : decode cL_law 178 = .ok (.iaload, 1) := by decide +kernel
theorem dL_law_179 : decode cL_law 179 = .ok (.invokevirtual 25, 3) := by decide +kernel
theorem dL_law_182 : decode cL_law 182 = .ok (.if_icmp .eq 909, 3) := by decide +kernel
theorem dL_law_185 : decode cL_law 185 = .ok (.iconst 0, 1) := by decide +kernel
theorem dL_law_186 : decode cL_law 186 = .ok (.ireturn, 1) := by decide +kernel
theorem dL_law_187 : decode cL_law 187 = .ok (.aload_n 1, 1) := by decide +kernel
theorem dL_law_188 : decode cL_law 188 = .ok (.invokevirtual 26, 3) := by decide +kernel
theorem dL_law_191 : decode cL_law 191 = .ok (.aload_n 2, 1) := by decide +kernel
theorem dL_law_192 : decode cL_law 192 = .ok (.invokevirtual 30, 3) := by decide +kernel
theorem dL_law_195 : decode cL_law 195 = .ok (.if_icmp .eq 896, 3) := by decide +kernel
theorem dL_law_198 : decode cL_law 198 = .ok (.iconst 0, 1) := by decide +kernel
theorem dL_law_199 : decode cL_law 199 = .ok (.ireturn, 1) := by decide +kernel
theorem dL_law_200 : decode cL_law 200 = .ok (.aload_n 1, 1) := by decide +kernel
theorem dL_law_201 : decode cL_law 201 = .ok (.invokevirtual 31, 3) := by decide +kernel
theorem dL_law_204 : decode cL_law 204 = .ok (.aload_n 2, 1) := by decide +kernel
theorem dL_law_205 : decode cL_law 205 = .ok (.invokevirtual 34, 3) := by decide +kernel
theorem dL_law_208 : decode cL_law 208 = .ok (.if_icmp .eq 883, 3) := by decide +kernel
theorem dL_law_211 : decode cL_law 211 = .ok (.iconst 0, 1) := by decide +kernel
theorem dL_law_212 : decode cL_law 212 = .ok (.ireturn, 1) := by decide +kernel
theorem dL_law_213 : decode cL_law 213 = .ok (.aload_n 1, 1) := by decide +kernel
theorem dL_law_214 : decode cL_law 214 = .ok (.aload_n 0, 1) := by decide +kernel
theorem dL_law_215 : decode cL_law 215 = .ok (.iload_n 3, 1) := by decide +kernel
theorem dL_law_216 : decode cL_law 216 = .ok (.iconst 1, 1) := by decide +kernel
theorem dL_law_217 : decode cL_law 217 = .ok (.iadd, 1) := by decide +kernel
theorem dL_law_218 : decode cL_law 218 = .ok (.iaload, 1) := by decide +kernel
theorem dL_law_219 : decode cL_law 219 = .ok (.aload_n 0, 1) := by decide +kernel
theorem dL_law_220 : decode cL_law 220 = .ok (.iload_n 3, 1) := by decide +kernel
theorem dL_law_221 : decode cL_law 221 = .ok (.iconst 2, 1) := by decide +kernel
theorem dL_law_222 : decode cL_law 222 = .ok (.iadd, 1) := by decide +kernel
theorem dL_law_223 : decode cL_law 223 = .ok (.iaload, 1) := by decide +kernel
theorem dL_law_224 : decode cL_law 224 = .ok (.aload_n 0, 1) := by decide +kernel
theorem dL_law_225 : decode cL_law 225 = .ok (.iload_n 3, 1) := by decide +kernel
theorem dL_law_226 : decode cL_law 226 = .ok (.iconst 3, 1) := by decide +kernel
theorem dL_law_227 : decode cL_law 227 = .ok (.iadd, 1) := by decide +kernel
theorem dL_law_228 : decode cL_law 228 = .ok (.iaload, 1) := by decide +kernel
theorem dL_law_229 : decode cL_law 229 = .ok (.aload_n 0, 1) := by decide +kernel
theorem dL_law_230 : decode cL_law 230 = .ok (.iload_n 3, 1) := by decide +kernel
theorem dL_law_231 : decode cL_law 231 = .ok (.iconst 4, 1) := by decide +kernel
theorem dL_law_232 : decode cL_law 232 = .ok (.iadd, 1) := by decide +kernel
theorem dL_law_233 : decode cL_law 233 = .ok (.iaload, 1) := by decide +kernel
theorem dL_law_234 : decode cL_law 234 = .ok (.invokevirtual 35, 3) := by decide +kernel
theorem dL_law_237 : decode cL_law 237 = .ok (.aload_n 2, 1) := by decide +kernel
theorem dL_law_238 : decode cL_law 238 = .ok (.aload_n 0, 1) := by decide +kernel
theorem dL_law_239 : decode cL_law 239 = .ok (.iload_n 3, 1) := by decide +kernel
theorem dL_law_240 : decode cL_law 240 = .ok (.iconst 1, 1) := by decide +kernel
theorem dL_law_241 : decode cL_law 241 = .ok (.iadd, 1) := by decide +kernel
theorem dL_law_242 : decode cL_law 242 = .ok (.iaload, 1) := by decide +kernel
theorem dL_law_243 : decode cL_law 243 = .ok (.aload_n 0, 1) := by decide +kernel
theorem dL_law_244 : decode cL_law 244 = .ok (.iload_n 3, 1) := by decide +kernel
theorem dL_law_245 : decode cL_law 245 = .ok (.iconst 2, 1) := by decide +kernel
theorem dL_law_246 : decode cL_law 246 = .ok (.iadd, 1) := by decide +kernel
theorem dL_law_247 : decode cL_law 247 = .ok (.iaload, 1) := by decide +kernel
theorem dL_law_248 : decode cL_law 248 = .ok (.aload_n 0, 1) := by decide +kernel
theorem dL_law_249 : decode cL_law 249 = .ok (.iload_n 3, 1) := by decide +kernel
theorem dL_law_250 : decode cL_law 250 = .ok (.iconst 3, 1) := by decide +kernel
theorem dL_law_251 : decode cL_law 251 = .ok (.iadd, 1) := by decide +kernel
theorem dL_law_252 : decode cL_law 252 = .ok (.iaload, 1) := by decide +kernel
theorem dL_law_253 : decode cL_law 253 = .ok (.aload_n 0, 1) := by decide +kernel
theorem dL_law_254 : decode cL_law 254 = .ok (.iload_n 3, 1) := by decide +kernel
theorem dL_law_255 : decode cL_law 255 = .ok (.iconst 4, 1) := by decide +kernel
theorem dL_law_256 : decode cL_law 256 = .ok (.iadd, 1) := by decide +kernel
theorem dL_law_257 : decode cL_law 257 = .ok (.iaload, 1) := by decide +kernel
theorem dL_law_258 : decode cL_law 258 = .ok (.invokevirtual 39, 3) := by decide +kernel
theorem dL_law_261 : decode cL_law 261 = .ok (.if_icmp .eq 830, 3) := by decide +kernel
theorem dL_law_264 : decode cL_law 264 = .ok (.iconst 0, 1) := by decide +kernel
theorem dL_law_265 : decode cL_law 265 = .ok (.ireturn, 1) := by decide +kernel
theorem dL_law_266 : decode cL_law 266 = .ok (.aload_n 1, 1) := by decide +kernel
theorem dL_law_267 : decode cL_law 267 = .ok (.aload_n 0, 1) := by decide +kernel
theorem dL_law_268 : decode cL_law 268 = .ok (.iload_n 3, 1) := by decide +kernel
theorem dL_law_269 : decode cL_law 269 = .ok (.iconst 1, 1) := by decide +kernel
theorem dL_law_270 : decode cL_law 270 = .ok (.iadd, 1) := by decide +kernel
theorem dL_law_271 : decode cL_law 271 = .ok (.iaload, 1) := by decide +kernel
theorem dL_law_272 : decode cL_law 272 = .ok (.aload_n 0, 1) := by decide +kernel
theorem dL_law_273 : decode cL_law 273 = .ok (.iload_n 3, 1) := by decide +kernel
theorem dL_law_274 : decode cL_law 274 = .ok (.iconst 2, 1) := by decide +kernel
theorem dL_law_275 : decode cL_law 275 = .ok (.iadd, 1) := by decide +kernel
theorem dL_law_276 : decode cL_law 276 = .ok (.iaload, 1) := by decide +kernel
theorem dL_law_277 : decode cL_law 277 = .ok (.aload_n 0, 1) := by decide +kernel
theorem dL_law_278 : decode cL_law 278 = .ok (.iload_n 3, 1) := by decide +kernel
theorem dL_law_279 : decode cL_law 279 = .ok (.iconst 3, 1) := by decide +kernel
theorem dL_law_280 : decode cL_law 280 = .ok (.iadd, 1) := by decide +kernel
theorem dL_law_281 : decode cL_law 281 = .ok (.iaload, 1) := by decide +kernel
theorem dL_law_282 : decode cL_law 282 = .ok (.invokevirtual 40, 3) := by decide +kernel
theorem dL_law_285 : decode cL_law 285 = .ok (.aload_n 2, 1) := by decide +kernel
theorem dL_law_286 : decode cL_law 286 = .ok (.aload_n 0, 1) := by decide +kernel
theorem dL_law_287 : decode cL_law 287 = .ok (.iload_n 3, 1) := by decide +kernel
theorem dL_law_288 : decode cL_law 288 = .ok (.iconst 1, 1) := by decide +kernel
theorem dL_law_289 : decode cL_law 289 = .ok (.iadd, 1) := by decide +kernel
theorem dL_law_290 : decode cL_law 290 = .ok (.iaload, 1) := by decide +kernel
theorem dL_law_291 : decode cL_law 291 = .ok (.aload_n 0, 1) := by decide +kernel
theorem dL_law_292 : decode cL_law 292 = .ok (.iload_n 3, 1) := by decide +kernel
theorem dL_law_293 : decode cL_law 293 = .ok (.iconst 2, 1) := by decide +kernel
theorem dL_law_294 : decode cL_law 294 = .ok (.iadd, 1) := by decide +kernel
theorem dL_law_295 : decode cL_law 295 = .ok (.iaload, 1) := by decide +kernel
theorem dL_law_296 : decode cL_law 296 = .ok (.aload_n 0, 1) := by decide +kernel
theorem dL_law_297 : decode cL_law 297 = .ok (.iload_n 3, 1) := by decide +kernel
theorem dL_law_298 : decode cL_law 298 = .ok (.iconst 3, 1) := by decide +kernel
theorem dL_law_299 : decode cL_law 299 = .ok (.iadd, 1) := by decide +kernel
theorem dL_law_300 : decode cL_law 300 = .ok (.iaload, 1) := by decide +kernel
theorem dL_law_301 : decode cL_law 301 = .ok (.invokevirtual 44, 3) := by decide +kernel
theorem dL_law_304 : decode cL_law 304 = .ok (.if_icmp .eq 787, 3) := by decide +kernel
theorem dL_law_307 : decode cL_law 307 = .ok (.iconst 0, 1) := by decide +kernel
theorem dL_law_308 : decode cL_law 308 = .ok (.ireturn, 1) := by decide +kernel
theorem dL_law_309 : decode cL_law 309 = .ok (.aload_n 1, 1) := by decide +kernel
theorem dL_law_310 : decode cL_law 310 = .ok (.aload_n 0, 1) := by decide +kernel
theorem dL_law_311 : decode cL_law 311 = .ok (.iload_n 3, 1) := by decide +kernel
theorem dL_law_312 : decode cL_law 312 = .ok (.iconst 1, 1) := by decide +kernel
theorem dL_law_313 : decode cL_law 313 = .ok (.iadd, 1) := by decide +kernel
theorem dL_law_314 : decode cL_law 314 = .ok (.iaload, 1) := by decide +kernel
theorem dL_law_315 : decode cL_law 315 = .ok (.aload_n 0, 1) := by decide +kernel
theorem dL_law_316 : decode cL_law 316 = .ok (.iload_n 3, 1) := by decide +kernel
theorem dL_law_317 : decode cL_law 317 = .ok (.iconst 2, 1) := by decide +kernel
theorem dL_law_318 : decode cL_law 318 = .ok (.iadd, 1) := by decide +kernel
theorem dL_law_319 : decode cL_law 319 = .ok (.iaload, 1) := by decide +kernel
theorem dL_law_320 : decode cL_law 320 = .ok (.invokevirtual 45, 3) := by decide +kernel
theorem dL_law_323 : decode cL_law 323 = .ok (.aload_n 2, 1) := by decide +kernel
theorem dL_law_324 : decode cL_law 324 = .ok (.aload_n 0, 1) := by decide +kernel
theorem dL_law_325 : decode cL_law 325 = .ok (.iload_n 3, 1) := by decide +kernel
theorem dL_law_326 : decode cL_law 326 = .ok (.iconst 1, 1) := by decide +kernel
theorem dL_law_327 : decode cL_law 327 = .ok (.iadd, 1) := by decide +kernel
theorem dL_law_328 : decode cL_law 328 = .ok (.iaload, 1) := by decide +kernel
theorem dL_law_329 : decode cL_law 329 = .ok (.aload_n 0, 1) := by decide +kernel
theorem dL_law_330 : decode cL_law 330 = .ok (.iload_n 3, 1) := by decide +kernel
theorem dL_law_331 : decode cL_law 331 = .ok (.iconst 2, 1) := by decide +kernel
theorem dL_law_332 : decode cL_law 332 = .ok (.iadd, 1) := by decide +kernel
theorem dL_law_333 : decode cL_law 333 = .ok (.iaload, 1) := by decide +kernel
theorem dL_law_334 : decode cL_law 334 = .ok (.invokevirtual 49, 3) := by decide +kernel
theorem dL_law_337 : decode cL_law 337 = .ok (.if_icmp .eq 754, 3) := by decide +kernel
theorem dL_law_340 : decode cL_law 340 = .ok (.iconst 0, 1) := by decide +kernel
theorem dL_law_341 : decode cL_law 341 = .ok (.ireturn, 1) := by decide +kernel
theorem dL_law_342 : decode cL_law 342 = .ok (.aload_n 1, 1) := by decide +kernel
theorem dL_law_343 : decode cL_law 343 = .ok (.aload_n 0, 1) := by decide +kernel
theorem dL_law_344 : decode cL_law 344 = .ok (.iload_n 3, 1) := by decide +kernel
theorem dL_law_345 : decode cL_law 345 = .ok (.iconst 1, 1) := by decide +kernel
theorem dL_law_346 : decode cL_law 346 = .ok (.iadd, 1) := by decide +kernel
theorem dL_law_347 : decode cL_law 347 = .ok (.iaload, 1) := by decide +kernel
theorem dL_law_348 : decode cL_law 348 = .ok (.aload_n 0, 1) := by decide +kernel
theorem dL_law_349 : decode cL_law 349 = .ok (.iload_n 3, 1) := by decide +kernel
theorem dL_law_350 : decode cL_law 350 = .ok (.iconst 2, 1) := by decide +kernel
theorem dL_law_351 : decode cL_law 351 = .ok (.iadd, 1) := by decide +kernel
theorem dL_law_352 : decode cL_law 352 = .ok (.iaload, 1) := by decide +kernel
theorem dL_law_353 : decode cL_law 353 = .ok (.aload_n 0, 1) := by decide +kernel
theorem dL_law_354 : decode cL_law 354 = .ok (.iload_n 3, 1) := by decide +kernel
theorem dL_law_355 : decode cL_law 355 = .ok (.iconst 3, 1) := by decide +kernel
theorem dL_law_356 : decode cL_law 356 = .ok (.iadd, 1) := by decide +kernel
theorem dL_law_357 : decode cL_law 357 = .ok (.iaload, 1) := by decide +kernel
theorem dL_law_358 : decode cL_law 358 = .ok (.aload_n 0, 1) := by decide +kernel
theorem dL_law_359 : decode cL_law 359 = .ok (.iload_n 3, 1) := by decide +kernel
theorem dL_law_360 : decode cL_law 360 = .ok (.iconst 4, 1) := by decide +kernel
theorem dL_law_361 : decode cL_law 361 = .ok (.iadd, 1) := by decide +kernel
theorem dL_law_362 : decode cL_law 362 = .ok (.iaload, 1) := by decide +kernel
theorem dL_law_363 : decode cL_law 363 = .ok (.invokevirtual 50, 3) := by decide +kernel
theorem dL_law_366 : decode cL_law 366 = .ok (.aload_n 2, 1) := by decide +kernel
theorem dL_law_367 : decode cL_law 367 = .ok (.aload_n 0, 1) := by decide +kernel
theorem dL_law_368 : decode cL_law 368 = .ok (.iload_n 3, 1) := by decide +kernel
theorem dL_law_369 : decode cL_law 369 = .ok (.iconst 1, 1) := by decide +kernel
theorem dL_law_370 : decode cL_law 370 = .ok (.iadd, 1) := by decide +kernel
theorem dL_law_371 : decode cL_law 371 = .ok (.iaload, 1) := by decide +kernel
theorem dL_law_372 : decode cL_law 372 = .ok (.aload_n 0, 1) := by decide +kernel
theorem dL_law_373 : decode cL_law 373 = .ok (.iload_n 3, 1) := by decide +kernel
theorem dL_law_374 : decode cL_law 374 = .ok (.iconst 2, 1) := by decide +kernel
theorem dL_law_375 : decode cL_law 375 = .ok (.iadd, 1) := by decide +kernel
theorem dL_law_376 : decode cL_law 376 = .ok (.iaload, 1) := by decide +kernel
theorem dL_law_377 : decode cL_law 377 = .ok (.aload_n 0, 1) := by decide +kernel
theorem dL_law_378 : decode cL_law 378 = .ok (.iload_n 3, 1) := by decide +kernel
theorem dL_law_379 : decode cL_law 379 = .ok (.iconst 3, 1) := by decide +kernel
theorem dL_law_380 : decode cL_law 380 = .ok (.iadd, 1) := by decide +kernel
theorem dL_law_381 : decode cL_law 381 = .ok (.iaload, 1) := by decide +kernel
theorem dL_law_382 : decode cL_law 382 = .ok (.aload_n 0, 1) := by decide +kernel
theorem dL_law_383 : decode cL_law 383 = .ok (.iload_n 3, 1) := by decide +kernel
theorem dL_law_384 : decode cL_law 384 = .ok (.iconst 4, 1) := by decide +kernel
theorem dL_law_385 : decode cL_law 385 = .ok (.iadd, 1) := by decide +kernel
theorem dL_law_386 : decode cL_law 386 = .ok (.iaload, 1) := by decide +kernel
theorem dL_law_387 : decode cL_law 387 = .ok (.invokevirtual 53, 3) := by decide +kernel
theorem dL_law_390 : decode cL_law 390 = .ok (.if_icmp .eq 701, 3) := by decide +kernel
theorem dL_law_393 : decode cL_law 393 = .ok (.iconst 0, 1) := by decide +kernel
theorem dL_law_394 : decode cL_law 394 = .ok (.ireturn, 1) := by decide +kernel
theorem dL_law_395 : decode cL_law 395 = .ok (.aload_n 1, 1) := by decide +kernel
theorem dL_law_396 : decode cL_law 396 = .ok (.aload_n 0, 1) := by decide +kernel
theorem dL_law_397 : decode cL_law 397 = .ok (.iload_n 3, 1) := by decide +kernel
theorem dL_law_398 : decode cL_law 398 = .ok (.iconst 1, 1) := by decide +kernel
theorem dL_law_399 : decode cL_law 399 = .ok (.iadd, 1) := by decide +kernel
theorem dL_law_400 : decode cL_law 400 = .ok (.iaload, 1) := by decide +kernel
theorem dL_law_401 : decode cL_law 401 = .ok (.invokevirtual 54, 3) := by decide +kernel
theorem dL_law_404 : decode cL_law 404 = .ok (.aload_n 2, 1) := by decide +kernel
theorem dL_law_405 : decode cL_law 405 = .ok (.aload_n 0, 1) := by decide +kernel
theorem dL_law_406 : decode cL_law 406 = .ok (.iload_n 3, 1) := by decide +kernel
theorem dL_law_407 : decode cL_law 407 = .ok (.iconst 1, 1) := by decide +kernel
theorem dL_law_408 : decode cL_law 408 = .ok (.iadd, 1) := by decide +kernel
theorem dL_law_409 : decode cL_law 409 = .ok (.iaload, 1) := by decide +kernel
theorem dL_law_410 : decode cL_law 410 = .ok (.invokevirtual 57, 3) := by decide +kernel
theorem dL_law_413 : decode cL_law 413 = .ok (.if_icmp .eq 678, 3) := by decide +kernel
theorem dL_law_416 : decode cL_law 416 = .ok (.iconst 0, 1) := by decide +kernel
theorem dL_law_417 : decode cL_law 417 = .ok (.ireturn, 1) := by decide +kernel
theorem dL_law_418 : decode cL_law 418 = .ok (.aload_n 1, 1) := by decide +kernel
theorem dL_law_419 : decode cL_law 419 = .ok (.aload_n 0, 1) := by decide +kernel
theorem dL_law_420 : decode cL_law 420 = .ok (.iload_n 3, 1) := by decide +kernel
theorem dL_law_421 : decode cL_law 421 = .ok (.iconst 1, 1) := by decide +kernel
theorem dL_law_422 : decode cL_law 422 = .ok (.iadd, 1) := by decide +kernel
theorem dL_law_423 : decode cL_law 423 = .ok (.iaload, 1) := by decide +kernel
theorem dL_law_424 : decode cL_law 424 = .ok (.aload_n 0, 1) := by decide +kernel
theorem dL_law_425 : decode cL_law 425 = .ok (.iload_n 3, 1) := by decide +kernel
theorem dL_law_426 : decode cL_law 426 = .ok (.iconst 2, 1) := by decide +kernel
theorem dL_law_427 : decode cL_law 427 = .ok (.iadd, 1) := by decide +kernel
theorem dL_law_428 : decode cL_law 428 = .ok (.iaload, 1) := by decide +kernel
theorem dL_law_429 : decode cL_law 429 = .ok (.aload_n 0, 1) := by decide +kernel
theorem dL_law_430 : decode cL_law 430 = .ok (.iload_n 3, 1) := by decide +kernel
theorem dL_law_431 : decode cL_law 431 = .ok (.iconst 3, 1) := by decide +kernel
theorem dL_law_432 : decode cL_law 432 = .ok (.iadd, 1) := by decide +kernel
theorem dL_law_433 : decode cL_law 433 = .ok (.iaload, 1) := by decide +kernel
theorem dL_law_434 : decode cL_law 434 = .ok (.ifCond .eq 7, 3) := by decide +kernel
theorem dL_law_437 : decode cL_law 437 = .ok (.iconst 1, 1) := by decide +kernel
theorem dL_law_438 : decode cL_law 438 = .ok (.goto 4, 3) := by decide +kernel
theorem dL_law_441 : decode cL_law 441 = .ok (.iconst 0, 1) := by decide +kernel
theorem dL_law_442 : decode cL_law 442 = .ok (.invokevirtual 58, 3) := by decide +kernel
theorem dL_law_445 : decode cL_law 445 = .ok (.aload_n 2, 1) := by decide +kernel
theorem dL_law_446 : decode cL_law 446 = .ok (.aload_n 0, 1) := by decide +kernel
theorem dL_law_447 : decode cL_law 447 = .ok (.iload_n 3, 1) := by decide +kernel
theorem dL_law_448 : decode cL_law 448 = .ok (.iconst 1, 1) := by decide +kernel
theorem dL_law_449 : decode cL_law 449 = .ok (.iadd, 1) := by decide +kernel
theorem dL_law_450 : decode cL_law 450 = .ok (.iaload, 1) := by decide +kernel
theorem dL_law_451 : decode cL_law 451 = .ok (.aload_n 0, 1) := by decide +kernel
theorem dL_law_452 : decode cL_law 452 = .ok (.iload_n 3, 1) := by decide +kernel
theorem dL_law_453 : decode cL_law 453 = .ok (.iconst 2, 1) := by decide +kernel
theorem dL_law_454 : decode cL_law 454 = .ok (.iadd, 1) := by decide +kernel
theorem dL_law_455 : decode cL_law 455 = .ok (.iaload, 1) := by decide +kernel
theorem dL_law_456 : decode cL_law 456 = .ok (.aload_n 0, 1) := by decide +kernel
theorem dL_law_457 : decode cL_law 457 = .ok (.iload_n 3, 1) := by decide +kernel
theorem dL_law_458 : decode cL_law 458 = .ok (.iconst 3, 1) := by decide +kernel
theorem dL_law_459 : decode cL_law 459 = .ok (.iadd, 1) := by decide +kernel
theorem dL_law_460 : decode cL_law 460 = .ok (.iaload, 1) := by decide +kernel
theorem dL_law_461 : decode cL_law 461 = .ok (.ifCond .eq 7, 3) := by decide +kernel
theorem dL_law_464 : decode cL_law 464 = .ok (.iconst 1, 1) := by decide +kernel
theorem dL_law_465 : decode cL_law 465 = .ok (.goto 4, 3) := by decide +kernel
theorem dL_law_468 : decode cL_law 468 = .ok (.iconst 0, 1) := by decide +kernel
theorem dL_law_469 : decode cL_law 469 = .ok (.invokevirtual 62, 3) := by decide +kernel
theorem dL_law_472 : decode cL_law 472 = .ok (.if_icmp .eq 619, 3) := by decide +kernel
theorem dL_law_475 : decode cL_law 475 = .ok (.iconst 0, 1) := by decide +kernel
theorem dL_law_476 : decode cL_law 476 = .ok (.ireturn, 1) := by decide +kernel
theorem dL_law_477 : decode cL_law 477 = .ok (.aload_n 1, 1) := by decide +kernel
theorem dL_law_478 : decode cL_law 478 = .ok (.aload_n 0, 1) := by decide +kernel
theorem dL_law_479 : decode cL_law 479 = .ok (.iload_n 3, 1) := by decide +kernel
theorem dL_law_480 : decode cL_law 480 = .ok (.iconst 1, 1) := by decide +kernel
theorem dL_law_481 : decode cL_law 481 = .ok (.iadd, 1) := by decide +kernel
theorem dL_law_482 : decode cL_law 482 = .ok (.iaload, 1) := by decide +kernel
theorem dL_law_483 : decode cL_law 483 = .ok (.aload_n 0, 1) := by decide +kernel
theorem dL_law_484 : decode cL_law 484 = .ok (.iload_n 3, 1) := by decide +kernel
theorem dL_law_485 : decode cL_law 485 = .ok (.iconst 2, 1) := by decide +kernel
theorem dL_law_486 : decode cL_law 486 = .ok (.iadd, 1) := by decide +kernel
theorem dL_law_487 : decode cL_law 487 = .ok (.iaload, 1) := by decide +kernel
theorem dL_law_488 : decode cL_law 488 = .ok (.aload_n 0, 1) := by decide +kernel
theorem dL_law_489 : decode cL_law 489 = .ok (.iload_n 3, 1) := by decide +kernel
theorem dL_law_490 : decode cL_law 490 = .ok (.iconst 3, 1) := by decide +kernel
theorem dL_law_491 : decode cL_law 491 = .ok (.iadd, 1) := by decide +kernel
theorem dL_law_492 : decode cL_law 492 = .ok (.iaload, 1) := by decide +kernel
theorem dL_law_493 : decode cL_law 493 = .ok (.invokevirtual 63, 3) := by decide +kernel
theorem dL_law_496 : decode cL_law 496 = .ok (.aload_n 2, 1) := by decide +kernel
theorem dL_law_497 : decode cL_law 497 = .ok (.aload_n 0, 1) := by decide +kernel
theorem dL_law_498 : decode cL_law 498 = .ok (.iload_n 3, 1) := by decide +kernel
theorem dL_law_499 : decode cL_law 499 = .ok (.iconst 1, 1) := by decide +kernel
theorem dL_law_500 : decode cL_law 500 = .ok (.iadd, 1) := by decide +kernel
theorem dL_law_501 : decode cL_law 501 = .ok (.iaload, 1) := by decide +kernel
theorem dL_law_502 : decode cL_law 502 = .ok (.aload_n 0, 1) := by decide +kernel
theorem dL_law_503 : decode cL_law 503 = .ok (.iload_n 3, 1) := by decide +kernel
theorem dL_law_504 : decode cL_law 504 = .ok (.iconst 2, 1) := by decide +kernel
theorem dL_law_505 : decode cL_law 505 = .ok (.iadd, 1) := by decide +kernel
theorem dL_law_506 : decode cL_law 506 = .ok (.iaload, 1) := by decide +kernel
theorem dL_law_507 : decode cL_law 507 = .ok (.aload_n 0, 1) := by decide +kernel
theorem dL_law_508 : decode cL_law 508 = .ok (.iload_n 3, 1) := by decide +kernel
theorem dL_law_509 : decode cL_law 509 = .ok (.iconst 3, 1) := by decide +kernel
theorem dL_law_510 : decode cL_law 510 = .ok (.iadd, 1) := by decide +kernel
theorem dL_law_511 : decode cL_law 511 = .ok (.iaload, 1) := by decide +kernel
theorem dL_law_512 : decode cL_law 512 = .ok (.invokevirtual 66, 3) := by decide +kernel
theorem dL_law_515 : decode cL_law 515 = .ok (.if_icmp .eq 576, 3) := by decide +kernel
theorem dL_law_518 : decode cL_law 518 = .ok (.iconst 0, 1) := by decide +kernel
theorem dL_law_519 : decode cL_law 519 = .ok (.ireturn, 1) := by decide +kernel
theorem dL_law_520 : decode cL_law 520 = .ok (.aload_n 1, 1) := by decide +kernel
theorem dL_law_521 : decode cL_law 521 = .ok (.aload_n 0, 1) := by decide +kernel
theorem dL_law_522 : decode cL_law 522 = .ok (.iload_n 3, 1) := by decide +kernel
theorem dL_law_523 : decode cL_law 523 = .ok (.iconst 1, 1) := by decide +kernel
theorem dL_law_524 : decode cL_law 524 = .ok (.iadd, 1) := by decide +kernel
theorem dL_law_525 : decode cL_law 525 = .ok (.iaload, 1) := by decide +kernel
theorem dL_law_526 : decode cL_law 526 = .ok (.aload_n 0, 1) := by decide +kernel
theorem dL_law_527 : decode cL_law 527 = .ok (.iload_n 3, 1) := by decide +kernel
theorem dL_law_528 : decode cL_law 528 = .ok (.iconst 2, 1) := by decide +kernel
theorem dL_law_529 : decode cL_law 529 = .ok (.iadd, 1) := by decide +kernel
theorem dL_law_530 : decode cL_law 530 = .ok (.iaload, 1) := by decide +kernel
theorem dL_law_531 : decode cL_law 531 = .ok (.aload_n 0, 1) := by decide +kernel
theorem dL_law_532 : decode cL_law 532 = .ok (.iload_n 3, 1) := by decide +kernel
theorem dL_law_533 : decode cL_law 533 = .ok (.iconst 3, 1) := by decide +kernel
theorem dL_law_534 : decode cL_law 534 = .ok (.iadd, 1) := by decide +kernel
theorem dL_law_535 : decode cL_law 535 = .ok (.iaload, 1) := by decide +kernel
theorem dL_law_536 : decode cL_law 536 = .ok (.aload_n 0, 1) := by decide +kernel
theorem dL_law_537 : decode cL_law 537 = .ok (.iload_n 3, 1) := by decide +kernel
theorem dL_law_538 : decode cL_law 538 = .ok (.iconst 4, 1) := by decide +kernel
theorem dL_law_539 : decode cL_law 539 = .ok (.iadd, 1) := by decide +kernel
theorem dL_law_540 : decode cL_law 540 = .ok (.iaload, 1) := by decide +kernel
theorem dL_law_541 : decode cL_law 541 = .ok (.invokevirtual 67, 3) := by decide +kernel
theorem dL_law_544 : decode cL_law 544 = .ok (.aload_n 2, 1) := by decide +kernel
theorem dL_law_545 : decode cL_law 545 = .ok (.aload_n 0, 1) := by decide +kernel
theorem dL_law_546 : decode cL_law 546 = .ok (.iload_n 3, 1) := by decide +kernel
theorem dL_law_547 : decode cL_law 547 = .ok (.iconst 1, 1) := by decide +kernel
theorem dL_law_548 : decode cL_law 548 = .ok (.iadd, 1) := by decide +kernel
theorem dL_law_549 : decode cL_law 549 = .ok (.iaload, 1) := by decide +kernel
theorem dL_law_550 : decode cL_law 550 = .ok (.aload_n 0, 1) := by decide +kernel
theorem dL_law_551 : decode cL_law 551 = .ok (.iload_n 3, 1) := by decide +kernel
theorem dL_law_552 : decode cL_law 552 = .ok (.iconst 2, 1) := by decide +kernel
theorem dL_law_553 : decode cL_law 553 = .ok (.iadd, 1) := by decide +kernel
theorem dL_law_554 : decode cL_law 554 = .ok (.iaload, 1) := by decide +kernel
theorem dL_law_555 : decode cL_law 555 = .ok (.aload_n 0, 1) := by decide +kernel
theorem dL_law_556 : decode cL_law 556 = .ok (.iload_n 3, 1) := by decide +kernel
theorem dL_law_557 : decode cL_law 557 = .ok (.iconst 3, 1) := by decide +kernel
theorem dL_law_558 : decode cL_law 558 = .ok (.iadd, 1) := by decide +kernel
theorem dL_law_559 : decode cL_law 559 = .ok (.iaload, 1) := by decide +kernel
theorem dL_law_560 : decode cL_law 560 = .ok (.aload_n 0, 1) := by decide +kernel
theorem dL_law_561 : decode cL_law 561 = .ok (.iload_n 3, 1) := by decide +kernel
theorem dL_law_562 : decode cL_law 562 = .ok (.iconst 4, 1) := by decide +kernel
theorem dL_law_563 : decode cL_law 563 = .ok (.iadd, 1) := by decide +kernel
theorem dL_law_564 : decode cL_law 564 = .ok (.iaload, 1) := by decide +kernel
theorem dL_law_565 : decode cL_law 565 = .ok (.invokevirtual 70, 3) := by decide +kernel
theorem dL_law_568 : decode cL_law 568 = .ok (.if_icmp .eq 523, 3) := by decide +kernel
theorem dL_law_571 : decode cL_law 571 = .ok (.iconst 0, 1) := by decide +kernel
theorem dL_law_572 : decode cL_law 572 = .ok (.ireturn, 1) := by decide +kernel
theorem dL_law_573 : decode cL_law 573 = .ok (.aload_n 1, 1) := by decide +kernel
theorem dL_law_574 : decode cL_law 574 = .ok (.aload_n 0, 1) := by decide +kernel
theorem dL_law_575 : decode cL_law 575 = .ok (.iload_n 3, 1) := by decide +kernel
theorem dL_law_576 : decode cL_law 576 = .ok (.iconst 1, 1) := by decide +kernel
theorem dL_law_577 : decode cL_law 577 = .ok (.iadd, 1) := by decide +kernel
theorem dL_law_578 : decode cL_law 578 = .ok (.iaload, 1) := by decide +kernel
theorem dL_law_579 : decode cL_law 579 = .ok (.aload_n 0, 1) := by decide +kernel
theorem dL_law_580 : decode cL_law 580 = .ok (.iload_n 3, 1) := by decide +kernel
theorem dL_law_581 : decode cL_law 581 = .ok (.iconst 2, 1) := by decide +kernel
theorem dL_law_582 : decode cL_law 582 = .ok (.iadd, 1) := by decide +kernel
theorem dL_law_583 : decode cL_law 583 = .ok (.iaload, 1) := by decide +kernel
theorem dL_law_584 : decode cL_law 584 = .ok (.aload_n 0, 1) := by decide +kernel
theorem dL_law_585 : decode cL_law 585 = .ok (.iload_n 3, 1) := by decide +kernel
theorem dL_law_586 : decode cL_law 586 = .ok (.iconst 3, 1) := by decide +kernel
theorem dL_law_587 : decode cL_law 587 = .ok (.iadd, 1) := by decide +kernel
theorem dL_law_588 : decode cL_law 588 = .ok (.iaload, 1) := by decide +kernel
theorem dL_law_589 : decode cL_law 589 = .ok (.invokevirtual 71, 3) := by decide +kernel
theorem dL_law_592 : decode cL_law 592 = .ok (.aload_n 2, 1) := by decide +kernel
theorem dL_law_593 : decode cL_law 593 = .ok (.aload_n 0, 1) := by decide +kernel
theorem dL_law_594 : decode cL_law 594 = .ok (.iload_n 3, 1) := by decide +kernel
theorem dL_law_595 : decode cL_law 595 = .ok (.iconst 1, 1) := by decide +kernel
theorem dL_law_596 : decode cL_law 596 = .ok (.iadd, 1) := by decide +kernel
theorem dL_law_597 : decode cL_law 597 = .ok (.iaload, 1) := by decide +kernel
theorem dL_law_598 : decode cL_law 598 = .ok (.aload_n 0, 1) := by decide +kernel
theorem dL_law_599 : decode cL_law 599 = .ok (.iload_n 3, 1) := by decide +kernel
theorem dL_law_600 : decode cL_law 600 = .ok (.iconst 2, 1) := by decide +kernel
theorem dL_law_601 : decode cL_law 601 = .ok (.iadd, 1) := by decide +kernel
theorem dL_law_602 : decode cL_law 602 = .ok (.iaload, 1) := by decide +kernel
theorem dL_law_603 : decode cL_law 603 = .ok (.aload_n 0, 1) := by decide +kernel
theorem dL_law_604 : decode cL_law 604 = .ok (.iload_n 3, 1) := by decide +kernel
theorem dL_law_605 : decode cL_law 605 = .ok (.iconst 3, 1) := by decide +kernel
theorem dL_law_606 : decode cL_law 606 = .ok (.iadd, 1) := by decide +kernel
theorem dL_law_607 : decode cL_law 607 = .ok (.iaload, 1) := by decide +kernel
theorem dL_law_608 : decode cL_law 608 = .ok (.invokevirtual 74, 3) := by decide +kernel
theorem dL_law_611 : decode cL_law 611 = .ok (.if_icmp .eq 480, 3) := by decide +kernel
theorem dL_law_614 : decode cL_law 614 = .ok (.iconst 0, 1) := by decide +kernel
theorem dL_law_615 : decode cL_law 615 = .ok (.ireturn, 1) := by decide +kernel
theorem dL_law_616 : decode cL_law 616 = .ok (.aload_n 1, 1) := by decide +kernel
theorem dL_law_617 : decode cL_law 617 = .ok (.aload_n 0, 1) := by decide +kernel
theorem dL_law_618 : decode cL_law 618 = .ok (.iload_n 3, 1) := by decide +kernel
theorem dL_law_619 : decode cL_law 619 = .ok (.iconst 1, 1) := by decide +kernel
theorem dL_law_620 : decode cL_law 620 = .ok (.iadd, 1) := by decide +kernel
theorem dL_law_621 : decode cL_law 621 = .ok (.iaload, 1) := by decide +kernel
theorem dL_law_622 : decode cL_law 622 = .ok (.aload_n 0, 1) := by decide +kernel
theorem dL_law_623 : decode cL_law 623 = .ok (.iload_n 3, 1) := by decide +kernel
theorem dL_law_624 : decode cL_law 624 = .ok (.iconst 2, 1) := by decide +kernel
theorem dL_law_625 : decode cL_law 625 = .ok (.iadd, 1) := by decide +kernel
theorem dL_law_626 : decode cL_law 626 = .ok (.iaload, 1) := by decide +kernel
theorem dL_law_627 : decode cL_law 627 = .ok (.aload_n 0, 1) := by decide +kernel
theorem dL_law_628 : decode cL_law 628 = .ok (.iload_n 3, 1) := by decide +kernel
theorem dL_law_629 : decode cL_law 629 = .ok (.iconst 3, 1) := by decide +kernel
theorem dL_law_630 : decode cL_law 630 = .ok (.iadd, 1) := by decide +kernel
theorem dL_law_631 : decode cL_law 631 = .ok (.iaload, 1) := by decide +kernel
theorem dL_law_632 : decode cL_law 632 = .ok (.aload_n 0, 1) := by decide +kernel
theorem dL_law_633 : decode cL_law 633 = .ok (.iload_n 3, 1) := by decide +kernel
theorem dL_law_634 : decode cL_law 634 = .ok (.iconst 4, 1) := by decide +kernel
theorem dL_law_635 : decode cL_law 635 = .ok (.iadd, 1) := by decide +kernel
theorem dL_law_636 : decode cL_law 636 = .ok (.iaload, 1) := by decide +kernel
theorem dL_law_637 : decode cL_law 637 = .ok (.invokevirtual 75, 3) := by decide +kernel
theorem dL_law_640 : decode cL_law 640 = .ok (.aload_n 2, 1) := by decide +kernel
theorem dL_law_641 : decode cL_law 641 = .ok (.aload_n 0, 1) := by decide +kernel
theorem dL_law_642 : decode cL_law 642 = .ok (.iload_n 3, 1) := by decide +kernel
theorem dL_law_643 : decode cL_law 643 = .ok (.iconst 1, 1) := by decide +kernel
theorem dL_law_644 : decode cL_law 644 = .ok (.iadd, 1) := by decide +kernel
theorem dL_law_645 : decode cL_law 645 = .ok (.iaload, 1) := by decide +kernel
theorem dL_law_646 : decode cL_law 646 = .ok (.aload_n 0, 1) := by decide +kernel
theorem dL_law_647 : decode cL_law 647 = .ok (.iload_n 3, 1) := by decide +kernel
theorem dL_law_648 : decode cL_law 648 = .ok (.iconst 2, 1) := by decide +kernel
theorem dL_law_649 : decode cL_law 649 = .ok (.iadd, 1) := by decide +kernel
theorem dL_law_650 : decode cL_law 650 = .ok (.iaload, 1) := by decide +kernel
theorem dL_law_651 : decode cL_law 651 = .ok (.aload_n 0, 1) := by decide +kernel
theorem dL_law_652 : decode cL_law 652 = .ok (.iload_n 3, 1) := by decide +kernel
theorem dL_law_653 : decode cL_law 653 = .ok (.iconst 3, 1) := by decide +kernel
theorem dL_law_654 : decode cL_law 654 = .ok (.iadd, 1) := by decide +kernel
theorem dL_law_655 : decode cL_law 655 = .ok (.iaload, 1) := by decide +kernel
theorem dL_law_656 : decode cL_law 656 = .ok (.aload_n 0, 1) := by decide +kernel
theorem dL_law_657 : decode cL_law 657 = .ok (.iload_n 3, 1) := by decide +kernel
theorem dL_law_658 : decode cL_law 658 = .ok (.iconst 4, 1) := by decide +kernel
theorem dL_law_659 : decode cL_law 659 = .ok (.iadd, 1) := by decide +kernel
theorem dL_law_660 : decode cL_law 660 = .ok (.iaload, 1) := by decide +kernel
theorem dL_law_661 : decode cL_law 661 = .ok (.invokevirtual 78, 3) := by decide +kernel
theorem dL_law_664 : decode cL_law 664 = .ok (.if_icmp .eq 427, 3) := by decide +kernel
theorem dL_law_667 : decode cL_law 667 = .ok (.iconst 0, 1) := by decide +kernel
theorem dL_law_668 : decode cL_law 668 = .ok (.ireturn, 1) := by decide +kernel
theorem dL_law_669 : decode cL_law 669 = .ok (.aload_n 1, 1) := by decide +kernel
theorem dL_law_670 : decode cL_law 670 = .ok (.aload_n 0, 1) := by decide +kernel
theorem dL_law_671 : decode cL_law 671 = .ok (.iload_n 3, 1) := by decide +kernel
theorem dL_law_672 : decode cL_law 672 = .ok (.iconst 1, 1) := by decide +kernel
theorem dL_law_673 : decode cL_law 673 = .ok (.iadd, 1) := by decide +kernel
theorem dL_law_674 : decode cL_law 674 = .ok (.iaload, 1) := by decide +kernel
theorem dL_law_675 : decode cL_law 675 = .ok (.aload_n 0, 1) := by decide +kernel
theorem dL_law_676 : decode cL_law 676 = .ok (.iload_n 3, 1) := by decide +kernel
theorem dL_law_677 : decode cL_law 677 = .ok (.iconst 2, 1) := by decide +kernel
theorem dL_law_678 : decode cL_law 678 = .ok (.iadd, 1) := by decide +kernel
theorem dL_law_679 : decode cL_law 679 = .ok (.iaload, 1) := by decide +kernel
theorem dL_law_680 : decode cL_law 680 = .ok (.invokevirtual 79, 3) := by decide +kernel
theorem dL_law_683 : decode cL_law 683 = .ok (.aload_n 2, 1) := by decide +kernel
theorem dL_law_684 : decode cL_law 684 = .ok (.aload_n 0, 1) := by decide +kernel
theorem dL_law_685 : decode cL_law 685 = .ok (.iload_n 3, 1) := by decide +kernel
theorem dL_law_686 : decode cL_law 686 = .ok (.iconst 1, 1) := by decide +kernel
theorem dL_law_687 : decode cL_law 687 = .ok (.iadd, 1) := by decide +kernel
theorem dL_law_688 : decode cL_law 688 = .ok (.iaload, 1) := by decide +kernel
theorem dL_law_689 : decode cL_law 689 = .ok (.aload_n 0, 1) := by decide +kernel
theorem dL_law_690 : decode cL_law 690 = .ok (.iload_n 3, 1) := by decide +kernel
theorem dL_law_691 : decode cL_law 691 = .ok (.iconst 2, 1) := by decide +kernel
theorem dL_law_692 : decode cL_law 692 = .ok (.iadd, 1) := by decide +kernel
theorem dL_law_693 : decode cL_law 693 = .ok (.iaload, 1) := by decide +kernel
theorem dL_law_694 : decode cL_law 694 = .ok (.invokevirtual 82, 3) := by decide +kernel
theorem dL_law_697 : decode cL_law 697 = .ok (.if_icmp .eq 394, 3) := by decide +kernel
theorem dL_law_700 : decode cL_law 700 = .ok (.iconst 0, 1) := by decide +kernel
theorem dL_law_701 : decode cL_law 701 = .ok (.ireturn, 1) := by decide +kernel
theorem dL_law_702 : decode cL_law 702 = .ok (.aload_n 1, 1) := by decide +kernel
theorem dL_law_703 : decode cL_law 703 = .ok (.aload_n 0, 1) := by decide +kernel
theorem dL_law_704 : decode cL_law 704 = .ok (.iload_n 3, 1) := by decide +kernel
theorem dL_law_705 : decode cL_law 705 = .ok (.iconst 1, 1) := by decide +kernel
theorem dL_law_706 : decode cL_law 706 = .ok (.iadd, 1) := by decide +kernel
theorem dL_law_707 : decode cL_law 707 = .ok (.iaload, 1) := by decide +kernel
theorem dL_law_708 : decode cL_law 708 = .ok (.aload_n 0, 1) := by decide +kernel
theorem dL_law_709 : decode cL_law 709 = .ok (.iload_n 3, 1) := by decide +kernel
theorem dL_law_710 : decode cL_law 710 = .ok (.iconst 2, 1) := by decide +kernel
theorem dL_law_711 : decode cL_law 711 = .ok (.iadd, 1) := by decide +kernel
theorem dL_law_712 : decode cL_law 712 = .ok (.iaload, 1) := by decide +kernel
theorem dL_law_713 : decode cL_law 713 = .ok (.invokevirtual 83, 3) := by decide +kernel
theorem dL_law_716 : decode cL_law 716 = .ok (.aload_n 2, 1) := by decide +kernel
theorem dL_law_717 : decode cL_law 717 = .ok (.aload_n 0, 1) := by decide +kernel
theorem dL_law_718 : decode cL_law 718 = .ok (.iload_n 3, 1) := by decide +kernel
theorem dL_law_719 : decode cL_law 719 = .ok (.iconst 1, 1) := by decide +kernel
theorem dL_law_720 : decode cL_law 720 = .ok (.iadd, 1) := by decide +kernel
theorem dL_law_721 : decode cL_law 721 = .ok (.iaload, 1) := by decide +kernel
theorem dL_law_722 : decode cL_law 722 = .ok (.aload_n 0, 1) := by decide +kernel
theorem dL_law_723 : decode cL_law 723 = .ok (.iload_n 3, 1) := by decide +kernel
theorem dL_law_724 : decode cL_law 724 = .ok (.iconst 2, 1) := by decide +kernel
theorem dL_law_725 : decode cL_law 725 = .ok (.iadd, 1) := by decide +kernel
theorem dL_law_726 : decode cL_law 726 = .ok (.iaload, 1) := by decide +kernel
theorem dL_law_727 : decode cL_law 727 = .ok (.invokevirtual 86, 3) := by decide +kernel
theorem dL_law_730 : decode cL_law 730 = .ok (.if_icmp .eq 361, 3) := by decide +kernel
theorem dL_law_733 : decode cL_law 733 = .ok (.iconst 0, 1) := by decide +kernel
theorem dL_law_734 : decode cL_law 734 = .ok (.ireturn, 1) := by decide +kernel
theorem dL_law_735 : decode cL_law 735 = .ok (.aload_n 1, 1) := by decide +kernel
theorem dL_law_736 : decode cL_law 736 = .ok (.aload_n 0, 1) := by decide +kernel
theorem dL_law_737 : decode cL_law 737 = .ok (.iload_n 3, 1) := by decide +kernel
theorem dL_law_738 : decode cL_law 738 = .ok (.iconst 1, 1) := by decide +kernel
theorem dL_law_739 : decode cL_law 739 = .ok (.iadd, 1) := by decide +kernel
theorem dL_law_740 : decode cL_law 740 = .ok (.iaload, 1) := by decide +kernel
theorem dL_law_741 : decode cL_law 741 = .ok (.aload_n 0, 1) := by decide +kernel
theorem dL_law_742 : decode cL_law 742 = .ok (.iload_n 3, 1) := by decide +kernel
theorem dL_law_743 : decode cL_law 743 = .ok (.iconst 2, 1) := by decide +kernel
theorem dL_law_744 : decode cL_law 744 = .ok (.iadd, 1) := by decide +kernel
theorem dL_law_745 : decode cL_law 745 = .ok (.iaload, 1) := by decide +kernel
