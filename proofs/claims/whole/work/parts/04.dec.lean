theorem dX10_meta_22 : decode cX10_meta 22 = .ok (.goto 17, 3) := by decide +kernel
theorem dX10_meta_25 : decode cX10_meta 25 = .ok (.aload_n 0, 1) := by decide +kernel
theorem dX10_meta_26 : decode cX10_meta 26 = .ok (.getfield 41, 3) := by decide +kernel
theorem dX10_meta_29 : decode cX10_meta 29 = .ok (.iload_n 1, 1) := by decide +kernel
theorem dX10_meta_30 : decode cX10_meta 30 = .ok (.baload, 1) := by decide +kernel
theorem dX10_meta_31 : decode cX10_meta 31 = .ok (.ifCond .eq 7, 3) := by decide +kernel
theorem dX10_meta_34 : decode cX10_meta 34 = .ok (.iconst 2, 1) := by decide +kernel
theorem dX10_meta_35 : decode cX10_meta 35 = .ok (.goto 4, 3) := by decide +kernel
theorem dX10_meta_38 : decode cX10_meta 38 = .ok (.iconst 0, 1) := by decide +kernel
theorem dX10_meta_39 : decode cX10_meta 39 = .ok (.ireturn, 1) := by decide +kernel
theorem dX10_meta_40 : decode cX10_meta 40 = .ok (.iload_n 1, 1) := by decide +kernel
theorem dX10_meta_41 : decode cX10_meta 41 = .ok (.bipush 101, 2) := by decide +kernel
theorem dX10_meta_43 : decode cX10_meta 43 = .ok (.bipush 100, 2) := by decide +kernel
theorem dX10_meta_45 : decode cX10_meta 45 = .ok (.aload_n 0, 1) := by decide +kernel
theorem dX10_meta_46 : decode cX10_meta 46 = .ok (.getfield 110, 3) := by decide +kernel
theorem dX10_meta_49 : decode cX10_meta 49 = .ok (.iadd, 1) := by decide +kernel
theorem dX10_meta_50 : decode cX10_meta 50 = .ok (.invokestatic 102, 3) := by decide +kernel
theorem dX10_meta_53 : decode cX10_meta 53 = .ok (.ifCond .eq 7, 3) := by decide +kernel
theorem dX10_meta_56 : decode cX10_meta 56 = .ok (.iconst 3, 1) := by decide +kernel
theorem dX10_meta_57 : decode cX10_meta 57 = .ok (.goto 48, 3) := by decide +kernel
theorem dX10_meta_60 : decode cX10_meta 60 = .ok (.iload_n 1, 1) := by decide +kernel
theorem dX10_meta_61 : decode cX10_meta 61 = .ok (.sipush 201, 3) := by decide +kernel
theorem dX10_meta_64 : decode cX10_meta 64 = .ok (.sipush 200, 3) := by decide +kernel
theorem dX10_meta_67 : decode cX10_meta 67 = .ok (.aload_n 0, 1) := by decide +kernel
theorem dX10_meta_68 : decode cX10_meta 68 = .ok (.getfield 113, 3) := by decide +kernel
theorem dX10_meta_71 : decode cX10_meta 71 = .ok (.iadd, 1) := by decide +kernel
theorem dX10_meta_72 : decode cX10_meta 72 = .ok (.invokestatic 102, 3) := by decide +kernel
theorem dX10_meta_75 : decode cX10_meta 75 = .ok (.ifCond .eq 7, 3) := by decide +kernel
theorem dX10_meta_78 : decode cX10_meta 78 = .ok (.iconst 4, 1) := by decide +kernel
theorem dX10_meta_79 : decode cX10_meta 79 = .ok (.goto 26, 3) := by decide +kernel
theorem dX10_meta_82 : decode cX10_meta 82 = .ok (.iload_n 1, 1) := by decide +kernel
theorem dX10_meta_83 : decode cX10_meta 83 = .ok (.sipush 301, 3) := by decide +kernel
theorem dX10_meta_86 : decode cX10_meta 86 = .ok (.sipush 300, 3) := by decide +kernel
theorem dX10_meta_89 : decode cX10_meta 89 = .ok (.aload_n 0, 1) := by decide +kernel
theorem dX10_meta_90 : decode cX10_meta 90 = .ok (.getfield 116, 3) := by decide +kernel
theorem dX10_meta_93 : decode cX10_meta 93 = .ok (.iadd, 1) := by decide +kernel
theorem dX10_meta_94 : decode cX10_meta 94 = .ok (.invokestatic 102, 3) := by decide +kernel
theorem dX10_meta_97 : decode cX10_meta 97 = .ok (.ifCond .eq 7, 3) := by decide +kernel
theorem dX10_meta_100 : decode cX10_meta 100 = .ok (.iconst 5, 1) := by decide +kernel
theorem dX10_meta_101 : decode cX10_meta 101 = .ok (.goto 4, 3) := by decide +kernel
theorem dX10_meta_104 : decode cX10_meta 104 = .ok (.iconst 0, 1) := by decide +kernel
theorem dX10_meta_105 : decode cX10_meta 105 = .ok (.ireturn, 1) := by decide +kernel
theorem dX10_joinLine_0 : decode cX10_joinLine 0 = .ok (.iconst 0, 1) := by decide +kernel
theorem dX10_joinLine_1 : decode cX10_joinLine 1 = .ok (.istore_n 3, 1) := by decide +kernel
theorem dX10_joinLine_2 : decode cX10_joinLine 2 = .ok (.iload_n 2, 1) := by decide +kernel
theorem dX10_joinLine_3 : decode cX10_joinLine 3 = .ok (.ifCond .eq 35, 3) := by decide +kernel
theorem dX10_joinLine_6 : decode cX10_joinLine 6 = .ok (.iload_n 3, 1) := by decide +kernel
theorem dX10_joinLine_7 : decode cX10_joinLine 7 = .ok (.aload_n 0, 1) := by decide +kernel
theorem dX10_joinLine_8 : decode cX10_joinLine 8 = .ok (.getfield 47, 3) := by decide +kernel
theorem dX10_joinLine_11 : decode cX10_joinLine 11 = .ok (.iload_n 2, 1) := by decide +kernel
theorem dX10_joinLine_12 : decode cX10_joinLine 12 = .ok (.iaload, 1) := by decide +kernel
theorem dX10_joinLine_13 : decode cX10_joinLine 13 = .ok (.if_icmp .ge 25, 3) := by decide +kernel
theorem dX10_joinLine_16 : decode cX10_joinLine 16 = .ok (.aload_n 0, 1) := by decide +kernel
theorem dX10_joinLine_17 : decode cX10_joinLine 17 = .ok (.iload_n 1, 1) := by decide +kernel
theorem dX10_joinLine_18 : decode cX10_joinLine 18 = .ok (.aload_n 0, 1) := by decide +kernel
theorem dX10_joinLine_19 : decode cX10_joinLine 19 = .ok (.getfield 50, 3) := by decide +kernel
theorem dX10_joinLine_22 : decode cX10_joinLine 22 = .ok (.bipush 41, 2) := by decide +kernel
theorem dX10_joinLine_24 : decode cX10_joinLine 24 = .ok (.iload_n 2, 1) := by decide +kernel
theorem dX10_joinLine_25 : decode cX10_joinLine 25 = .ok (.imul, 1) := by decide +kernel
theorem dX10_joinLine_26 : decode cX10_joinLine 26 = .ok (.iload_n 3, 1) := by decide +kernel
theorem dX10_joinLine_27 : decode cX10_joinLine 27 = .ok (.iadd, 1) := by decide +kernel
theorem dX10_joinLine_28 : decode cX10_joinLine 28 = .ok (.iaload, 1) := by decide +kernel
theorem dX10_joinLine_29 : decode cX10_joinLine 29 = .ok (.invokevirtual 122, 3) := by decide +kernel
theorem dX10_joinLine_32 : decode cX10_joinLine 32 = .ok (.iinc 3 1, 3) := by decide +kernel
theorem dX10_joinLine_35 : decode cX10_joinLine 35 = .ok (.goto (-33), 3) := by decide +kernel
theorem dX10_joinLine_38 : decode cX10_joinLine 38 = .ok (.return_, 1) := by decide +kernel
theorem dX10_addToLine_0 : decode cX10_addToLine 0 = .ok (.iconst 0, 1) := by decide +kernel
theorem dX10_addToLine_1 : decode cX10_addToLine 1 = .ok (.istore_n 3, 1) := by decide +kernel
theorem dX10_addToLine_2 : decode cX10_addToLine 2 = .ok (.iload_n 3, 1) := by decide +kernel
theorem dX10_addToLine_3 : decode cX10_addToLine 3 = .ok (.aload_n 0, 1) := by decide +kernel
theorem dX10_addToLine_4 : decode cX10_addToLine 4 = .ok (.getfield 47, 3) := by decide +kernel
theorem dX10_addToLine_7 : decode cX10_addToLine 7 = .ok (.iload_n 1, 1) := by decide +kernel
theorem dX10_addToLine_8 : decode cX10_addToLine 8 = .ok (.iaload, 1) := by decide +kernel
theorem dX10_addToLine_9 : decode cX10_addToLine 9 = .ok (.if_icmp .ge 25, 3) := by decide +kernel
theorem dX10_addToLine_12 : decode cX10_addToLine 12 = .ok (.aload_n 0, 1) := by decide +kernel
theorem dX10_addToLine_13 : decode cX10_addToLine 13 = .ok (.getfield 50, 3) := by decide +kernel
theorem dX10_addToLine_16 : decode cX10_addToLine 16 = .ok (.bipush 41, 2) := by decide +kernel
theorem dX10_addToLine_18 : decode cX10_addToLine 18 = .ok (.iload_n 1, 1) := by decide +kernel
theorem dX10_addToLine_19 : decode cX10_addToLine 19 = .ok (.imul, 1) := by decide +kernel
theorem dX10_addToLine_20 : decode cX10_addToLine 20 = .ok (.iload_n 3, 1) := by decide +kernel
theorem dX10_addToLine_21 : decode cX10_addToLine 21 = .ok (.iadd, 1) := by decide +kernel
theorem dX10_addToLine_22 : decode cX10_addToLine 22 = .ok (.iaload, 1) := by decide +kernel
theorem dX10_addToLine_23 : decode cX10_addToLine 23 = .ok (.iload_n 2, 1) := by decide +kernel
theorem dX10_addToLine_24 : decode cX10_addToLine 24 = .ok (.if_icmp .ne 4, 3) := by decide +kernel
theorem dX10_addToLine_27 : decode cX10_addToLine 27 = .ok (.return_, 1) := by decide +kernel
theorem dX10_addToLine_28 : decode cX10_addToLine 28 = .ok (.iinc 3 1, 3) := by decide +kernel
theorem dX10_addToLine_31 : decode cX10_addToLine 31 = .ok (.goto (-29), 3) := by decide +kernel
theorem dX10_addToLine_34 : decode cX10_addToLine 34 = .ok (.aload_n 0, 1) := by decide +kernel
theorem dX10_addToLine_35 : decode cX10_addToLine 35 = .ok (.getfield 50, 3) := by decide +kernel
theorem dX10_addToLine_38 : decode cX10_addToLine 38 = .ok (.bipush 41, 2) := by decide +kernel
theorem dX10_addToLine_40 : decode cX10_addToLine 40 = .ok (.iload_n 1, 1) := by decide +kernel
theorem dX10_addToLine_41 : decode cX10_addToLine 41 = .ok (.imul, 1) := by decide +kernel
theorem dX10_addToLine_42 : decode cX10_addToLine 42 = .ok (.aload_n 0, 1) := by decide +kernel
theorem dX10_addToLine_43 : decode cX10_addToLine 43 = .ok (.getfield 47, 3) := by decide +kernel
theorem dX10_addToLine_46 : decode cX10_addToLine 46 = .ok (.iload_n 1, 1) := by decide +kernel
theorem dX10_addToLine_47 : decode cX10_addToLine 47 = .ok (.iaload, 1) := by decide +kernel
theorem dX10_addToLine_48 : decode cX10_addToLine 48 = .ok (.iadd, 1) := by decide +kernel
theorem dX10_addToLine_49 : decode cX10_addToLine 49 = .ok (.iload_n 2, 1) := by decide +kernel
theorem dX10_addToLine_50 : decode cX10_addToLine 50 = .ok (.iastore, 1) := by decide +kernel
theorem dX10_addToLine_51 : decode cX10_addToLine 51 = .ok (.aload_n 0, 1) := by decide +kernel
theorem dX10_addToLine_52 : decode cX10_addToLine 52 = .ok (.getfield 47, 3) := by decide +kernel
theorem dX10_addToLine_55 : decode cX10_addToLine 55 = .ok (.iload_n 1, 1) := by decide +kernel
theorem dX10_addToLine_56 : decode cX10_addToLine 56 = .ok (.dup2, 1) := by decide +kernel
theorem dX10_addToLine_57 : decode cX10_addToLine 57 = .ok (.iaload, 1) := by decide +kernel
theorem dX10_addToLine_58 : decode cX10_addToLine 58 = .ok (.iconst 1, 1) := by decide +kernel
theorem dX10_addToLine_59 : decode cX10_addToLine 59 = .ok (.iadd, 1) := by decide +kernel
theorem dX10_addToLine_60 : decode cX10_addToLine 60 = .ok (.iastore, 1) := by decide +kernel
theorem dX10_addToLine_61 : decode cX10_addToLine 61 = .ok (.return_, 1) := by decide +kernel
theorem dX10_newThing_0 : decode cX10_newThing 0 = .ok (.aload_n 0, 1) := by decide +kernel
theorem dX10_newThing_1 : decode cX10_newThing 1 = .ok (.dup, 1) := by decide +kernel
theorem dX10_newThing_2 : decode cX10_newThing 2 = .ok (.getfield 119, 3) := by decide +kernel
theorem dX10_newThing_5 : decode cX10_newThing 5 = .ok (.iconst 1, 1) := by decide +kernel
theorem dX10_newThing_6 : decode cX10_newThing 6 = .ok (.iadd, 1) := by decide +kernel
theorem dX10_newThing_7 : decode cX10_newThing 7 = .ok (.putfield 119, 3) := by decide +kernel
theorem dX10_newThing_10 : decode cX10_newThing 10 = .ok (.aload_n 0, 1) := by decide +kernel
theorem dX10_newThing_11 : decode cX10_newThing 11 = .ok (.getfield 37, 3) := by decide +kernel
theorem dX10_newThing_14 : decode cX10_newThing 14 = .ok (.aload_n 0, 1) := by decide +kernel
theorem dX10_newThing_15 : decode cX10_newThing 15 = .ok (.getfield 119, 3) := by decide +kernel
theorem dX10_newThing_18 : decode cX10_newThing 18 = .ok (.iload_n 1, 1) := by decide +kernel
theorem dX10_newThing_19 : decode cX10_newThing 19 = .ok (.bastore, 1) := by decide +kernel
theorem dX10_newThing_20 : decode cX10_newThing 20 = .ok (.aload_n 0, 1) := by decide +kernel
theorem dX10_newThing_21 : decode cX10_newThing 21 = .ok (.getfield 119, 3) := by decide +kernel
theorem dX10_newThing_24 : decode cX10_newThing 24 = .ok (.ireturn, 1) := by decide +kernel
theorem dX10_group_0 : decode cX10_group 0 = .ok (.iload_n 1, 1) := by decide +kernel
theorem dX10_group_1 : decode cX10_group 1 = .ok (.ifCond .eq 11, 3) := by decide +kernel
theorem dX10_group_4 : decode cX10_group 4 = .ok (.aload_n 0, 1) := by decide +kernel
theorem dX10_group_5 : decode cX10_group 5 = .ok (.iload_n 1, 1) := by decide +kernel
theorem dX10_group_6 : decode cX10_group 6 = .ok (.invokevirtual 126, 3) := by decide +kernel
theorem dX10_group_9 : decode cX10_group 9 = .ok (.ifCond .eq 15, 3) := by decide +kernel
theorem dX10_group_12 : decode cX10_group 12 = .ok (.iload_n 2, 1) := by decide +kernel
theorem dX10_group_13 : decode cX10_group 13 = .ok (.ifCond .eq 14, 3) := by decide +kernel
theorem dX10_group_16 : decode cX10_group 16 = .ok (.aload_n 0, 1) := by decide +kernel
theorem dX10_group_17 : decode cX10_group 17 = .ok (.iload_n 2, 1) := by decide +kernel
theorem dX10_group_18 : decode cX10_group 18 = .ok (.invokevirtual 126, 3) := by decide +kernel
theorem dX10_group_21 : decode cX10_group 21 = .ok (.ifCond .ne 6, 3) := by decide +kernel
theorem dX10_group_24 : decode cX10_group 24 = .ok (.bipush (-2), 2) := by decide +kernel
theorem dX10_group_26 : decode cX10_group 26 = .ok (.ireturn, 1) := by decide +kernel
theorem dX10_group_27 : decode cX10_group 27 = .ok (.iload_n 3, 1) := by decide +kernel
theorem dX10_group_28 : decode cX10_group 28 = .ok (.iconst 0, 1) := by decide +kernel
theorem dX10_group_29 : decode cX10_group 29 = .ok (.bipush 6, 2) := by decide +kernel
theorem dX10_group_31 : decode cX10_group 31 = .ok (.invokestatic 102, 3) := by decide +kernel
theorem dX10_group_34 : decode cX10_group 34 = .ok (.ifCond .ne 6, 3) := by decide +kernel
theorem dX10_group_37 : decode cX10_group 37 = .ok (.bipush (-3), 2) := by decide +kernel
theorem dX10_group_39 : decode cX10_group 39 = .ok (.ireturn, 1) := by decide +kernel
theorem dX10_group_40 : decode cX10_group 40 = .ok (.aload_n 0, 1) := by decide +kernel
theorem dX10_group_41 : decode cX10_group 41 = .ok (.getfield 119, 3) := by decide +kernel
theorem dX10_group_44 : decode cX10_group 44 = .ok (.iconst 1, 1) := by decide +kernel
theorem dX10_group_45 : decode cX10_group 45 = .ok (.iadd, 1) := by decide +kernel
theorem dX10_group_46 : decode cX10_group 46 = .ok (.iload_n 3, 1) := by decide +kernel
theorem dX10_group_47 : decode cX10_group 47 = .ok (.iadd, 1) := by decide +kernel
theorem dX10_group_48 : decode cX10_group 48 = .ok (.bipush 40, 2) := by decide +kernel
theorem dX10_group_50 : decode cX10_group 50 = .ok (.if_icmp .le 6, 3) := by decide +kernel
theorem dX10_group_53 : decode cX10_group 53 = .ok (.bipush (-4), 2) := by decide +kernel
theorem dX10_group_55 : decode cX10_group 55 = .ok (.ireturn, 1) := by decide +kernel
theorem dX10_group_56 : decode cX10_group 56 = .ok (.aload_n 0, 1) := by decide +kernel
theorem dX10_group_57 : decode cX10_group 57 = .ok (.iconst 1, 1) := by decide +kernel
theorem dX10_group_58 : decode cX10_group 58 = .ok (.invokevirtual 130, 3) := by decide +kernel
theorem dX10_group_61 : decode cX10_group 61 = .ok (.istore 4, 2) := by decide +kernel
theorem dX10_group_63 : decode cX10_group 63 = .ok (.aload_n 0, 1) := by decide +kernel
theorem dX10_group_64 : decode cX10_group 64 = .ok (.iload 4, 2) := by decide +kernel
theorem dX10_group_66 : decode cX10_group 66 = .ok (.iload 4, 2) := by decide +kernel
theorem dX10_group_68 : decode cX10_group 68 = .ok (.invokevirtual 122, 3) := by decide +kernel
theorem dX10_group_71 : decode cX10_group 71 = .ok (.aload_n 0, 1) := by decide +kernel
theorem dX10_group_72 : decode cX10_group 72 = .ok (.iload 4, 2) := by decide +kernel
theorem dX10_group_74 : decode cX10_group 74 = .ok (.iload_n 1, 1) := by decide +kernel
theorem dX10_group_75 : decode cX10_group 75 = .ok (.invokevirtual 134, 3) := by decide +kernel
theorem dX10_group_78 : decode cX10_group 78 = .ok (.aload_n 0, 1) := by decide +kernel
theorem dX10_group_79 : decode cX10_group 79 = .ok (.iload 4, 2) := by decide +kernel
theorem dX10_group_81 : decode cX10_group 81 = .ok (.iload_n 2, 1) := by decide +kernel
theorem dX10_group_82 : decode cX10_group 82 = .ok (.invokevirtual 134, 3) := by decide +kernel
theorem dX10_group_85 : decode cX10_group 85 = .ok (.aload_n 0, 1) := by decide +kernel
theorem dX10_group_86 : decode cX10_group 86 = .ok (.getfield 44, 3) := by decide +kernel
theorem dX10_group_89 : decode cX10_group 89 = .ok (.iload 4, 2) := by decide +kernel
theorem dX10_group_91 : decode cX10_group 91 = .ok (.iload_n 3, 1) := by decide +kernel
theorem dX10_group_92 : decode cX10_group 92 = .ok (.iastore, 1) := by decide +kernel
theorem dX10_group_93 : decode cX10_group 93 = .ok (.iconst 0, 1) := by decide +kernel
theorem dX10_group_94 : decode cX10_group 94 = .ok (.istore 5, 2) := by decide +kernel
theorem dX10_group_96 : decode cX10_group 96 = .ok (.iload 5, 2) := by decide +kernel
theorem dX10_group_98 : decode cX10_group 98 = .ok (.iload_n 3, 1) := by decide +kernel
theorem dX10_group_99 : decode cX10_group 99 = .ok (.if_icmp .ge 30, 3) := by decide +kernel
theorem dX10_group_102 : decode cX10_group 102 = .ok (.aload_n 0, 1) := by decide +kernel
theorem dX10_group_103 : decode cX10_group 103 = .ok (.iconst 0, 1) := by decide +kernel
theorem dX10_group_104 : decode cX10_group 104 = .ok (.invokevirtual 130, 3) := by decide +kernel
theorem dX10_group_107 : decode cX10_group 107 = .ok (.istore 6, 2) := by decide +kernel
theorem dX10_group_109 : decode cX10_group 109 = .ok (.aload_n 0, 1) := by decide +kernel
theorem dX10_group_110 : decode cX10_group 110 = .ok (.iload 6, 2) := by decide +kernel
theorem dX10_group_112 : decode cX10_group 112 = .ok (.iload 4, 2) := by decide +kernel
theorem dX10_group_114 : decode cX10_group 114 = .ok (.invokevirtual 134, 3) := by decide +kernel
theorem dX10_group_117 : decode cX10_group 117 = .ok (.aload_n 0, 1) := by decide +kernel
theorem dX10_group_118 : decode cX10_group 118 = .ok (.iload 6, 2) := by decide +kernel
theorem dX10_group_120 : decode cX10_group 120 = .ok (.invokevirtual 137, 3) := by decide +kernel
theorem dX10_group_123 : decode cX10_group 123 = .ok (.iinc 5 1, 3) := by decide +kernel
theorem dX10_group_126 : decode cX10_group 126 = .ok (.goto (-30), 3) := by decide +kernel
theorem dX10_group_129 : decode cX10_group 129 = .ok (.iload 4, 2) := by decide +kernel
theorem dX10_group_131 : decode cX10_group 131 = .ok (.ireturn, 1) := by decide +kernel
theorem dX10_object_0 : decode cX10_object 0 = .ok (.iload_n 1, 1) := by decide +kernel
theorem dX10_object_1 : decode cX10_object 1 = .ok (.ifCond .eq 11, 3) := by decide +kernel
theorem dX10_object_4 : decode cX10_object 4 = .ok (.aload_n 0, 1) := by decide +kernel
theorem dX10_object_5 : decode cX10_object 5 = .ok (.iload_n 1, 1) := by decide +kernel
theorem dX10_object_6 : decode cX10_object 6 = .ok (.invokevirtual 126, 3) := by decide +kernel
theorem dX10_object_9 : decode cX10_object 9 = .ok (.ifCond .eq 15, 3) := by decide +kernel
theorem dX10_object_12 : decode cX10_object 12 = .ok (.iload_n 2, 1) := by decide +kernel
theorem dX10_object_13 : decode cX10_object 13 = .ok (.ifCond .eq 14, 3) := by decide +kernel
theorem dX10_object_16 : decode cX10_object 16 = .ok (.aload_n 0, 1) := by decide +kernel
theorem dX10_object_17 : decode cX10_object 17 = .ok (.iload_n 2, 1) := by decide +kernel
theorem dX10_object_18 : decode cX10_object 18 = .ok (.invokevirtual 126, 3) := by decide +kernel
theorem dX10_object_21 : decode cX10_object 21 = .ok (.ifCond .ne 6, 3) := by decide +kernel
theorem dX10_object_24 : decode cX10_object 24 = .ok (.bipush (-2), 2) := by decide +kernel
theorem dX10_object_26 : decode cX10_object 26 = .ok (.ireturn, 1) := by decide +kernel
theorem dX10_object_27 : decode cX10_object 27 = .ok (.aload_n 0, 1) := by decide +kernel
theorem dX10_object_28 : decode cX10_object 28 = .ok (.getfield 119, 3) := by decide +kernel
theorem dX10_object_31 : decode cX10_object 31 = .ok (.bipush 40, 2) := by decide +kernel
theorem dX10_object_33 : decode cX10_object 33 = .ok (.if_icmp .ne 6, 3) := by decide +kernel
theorem dX10_object_36 : decode cX10_object 36 = .ok (.bipush (-4), 2) := by decide +kernel
theorem dX10_object_38 : decode cX10_object 38 = .ok (.ireturn, 1) := by decide +kernel
theorem dX10_object_39 : decode cX10_object 39 = .ok (.aload_n 0, 1) := by decide +kernel
theorem dX10_object_40 : decode cX10_object 40 = .ok (.iconst 0, 1) := by decide +kernel
theorem dX10_object_41 : decode cX10_object 41 = .ok (.invokevirtual 130, 3) := by decide +kernel
theorem dX10_object_44 : decode cX10_object 44 = .ok (.istore_n 3, 1) := by decide +kernel
theorem dX10_object_45 : decode cX10_object 45 = .ok (.aload_n 0, 1) := by decide +kernel
theorem dX10_object_46 : decode cX10_object 46 = .ok (.getfield 41, 3) := by decide +kernel
theorem dX10_object_49 : decode cX10_object 49 = .ok (.iload_n 3, 1) := by decide +kernel
theorem dX10_object_50 : decode cX10_object 50 = .ok (.iconst 1, 1) := by decide +kernel
theorem dX10_object_51 : decode cX10_object 51 = .ok (.bastore, 1) := by decide +kernel
theorem dX10_object_52 : decode cX10_object 52 = .ok (.aload_n 0, 1) := by decide +kernel
theorem dX10_object_53 : decode cX10_object 53 = .ok (.iload_n 3, 1) := by decide +kernel
theorem dX10_object_54 : decode cX10_object 54 = .ok (.iload_n 1, 1) := by decide +kernel
theorem dX10_object_55 : decode cX10_object 55 = .ok (.invokevirtual 134, 3) := by decide +kernel
theorem dX10_object_58 : decode cX10_object 58 = .ok (.aload_n 0, 1) := by decide +kernel
theorem dX10_object_59 : decode cX10_object 59 = .ok (.iload_n 3, 1) := by decide +kernel
theorem dX10_object_60 : decode cX10_object 60 = .ok (.iload_n 2, 1) := by decide +kernel
theorem dX10_object_61 : decode cX10_object 61 = .ok (.invokevirtual 134, 3) := by decide +kernel
theorem dX10_object_64 : decode cX10_object 64 = .ok (.aload_n 0, 1) := by decide +kernel
theorem dX10_object_65 : decode cX10_object 65 = .ok (.iload_n 3, 1) := by decide +kernel
theorem dX10_object_66 : decode cX10_object 66 = .ok (.invokevirtual 137, 3) := by decide +kernel
theorem dX10_object_69 : decode cX10_object 69 = .ok (.iload_n 3, 1) := by decide +kernel
theorem dX10_object_70 : decode cX10_object 70 = .ok (.ireturn, 1) := by decide +kernel
theorem dX10_rowsAnew_0 : decode cX10_rowsAnew 0 = .ok (.iconst 0, 1) := by decide +kernel
theorem dX10_rowsAnew_1 : decode cX10_rowsAnew 1 = .ok (.istore_n 2, 1) := by decide +kernel
theorem dX10_rowsAnew_2 : decode cX10_rowsAnew 2 = .ok (.iload_n 2, 1) := by decide +kernel
theorem dX10_rowsAnew_3 : decode cX10_rowsAnew 3 = .ok (.bipush 12, 2) := by decide +kernel
theorem dX10_rowsAnew_5 : decode cX10_rowsAnew 5 = .ok (.if_icmp .ge 143, 3) := by decide +kernel
theorem dX10_rowsAnew_8 : decode cX10_rowsAnew 8 = .ok (.bipush 12, 2) := by decide +kernel
theorem dX10_rowsAnew_10 : decode cX10_rowsAnew 10 = .ok (.iload_n 1, 1) := by decide +kernel
theorem dX10_rowsAnew_11 : decode cX10_rowsAnew 11 = .ok (.imul, 1) := by decide +kernel
theorem dX10_rowsAnew_12 : decode cX10_rowsAnew 12 = .ok (.iload_n 2, 1) := by decide +kernel
theorem dX10_rowsAnew_13 : decode cX10_rowsAnew 13 = .ok (.iadd, 1) := by decide +kernel
theorem dX10_rowsAnew_14 : decode cX10_rowsAnew 14 = .ok (.istore_n 3, 1) := by decide +kernel
theorem dX10_rowsAnew_15 : decode cX10_rowsAnew 15 = .ok (.aload_n 0, 1) := by decide +kernel
theorem dX10_rowsAnew_16 : decode cX10_rowsAnew 16 = .ok (.getfield 53, 3) := by decide +kernel
theorem dX10_rowsAnew_19 : decode cX10_rowsAnew 19 = .ok (.iload_n 3, 1) := by decide +kernel
theorem dX10_rowsAnew_20 : decode cX10_rowsAnew 20 = .ok (.iconst 0, 1) := by decide +kernel
theorem dX10_rowsAnew_21 : decode cX10_rowsAnew 21 = .ok (.iastore, 1) := by decide +kernel
theorem dX10_rowsAnew_22 : decode cX10_rowsAnew 22 = .ok (.iconst 0, 1) := by decide +kernel
theorem dX10_rowsAnew_23 : decode cX10_rowsAnew 23 = .ok (.istore 4, 2) := by decide +kernel
theorem dX10_rowsAnew_25 : decode cX10_rowsAnew 25 = .ok (.iload 4, 2) := by decide +kernel
theorem dX10_rowsAnew_27 : decode cX10_rowsAnew 27 = .ok (.aload_n 0, 1) := by decide +kernel
theorem dX10_rowsAnew_28 : decode cX10_rowsAnew 28 = .ok (.getfield 47, 3) := by decide +kernel
theorem dX10_rowsAnew_31 : decode cX10_rowsAnew 31 = .ok (.iload_n 1, 1) := by decide +kernel
theorem dX10_rowsAnew_32 : decode cX10_rowsAnew 32 = .ok (.iaload, 1) := by decide +kernel
theorem dX10_rowsAnew_33 : decode cX10_rowsAnew 33 = .ok (.if_icmp .ge 109, 3) := by decide +kernel
theorem dX10_rowsAnew_36 : decode cX10_rowsAnew 36 = .ok (.bipush 12, 2) := by decide +kernel
theorem dX10_rowsAnew_38 : decode cX10_rowsAnew 38 = .ok (.aload_n 0, 1) := by decide +kernel
theorem dX10_rowsAnew_39 : decode cX10_rowsAnew 39 = .ok (.getfield 50, 3) := by decide +kernel
theorem dX10_rowsAnew_42 : decode cX10_rowsAnew 42 = .ok (.bipush 41, 2) := by decide +kernel
theorem dX10_rowsAnew_44 : decode cX10_rowsAnew 44 = .ok (.iload_n 1, 1) := by decide +kernel
theorem dX10_rowsAnew_45 : decode cX10_rowsAnew 45 = .ok (.imul, 1) := by decide +kernel
theorem dX10_rowsAnew_46 : decode cX10_rowsAnew 46 = .ok (.iload 4, 2) := by decide +kernel
theorem dX10_rowsAnew_48 : decode cX10_rowsAnew 48 = .ok (.iadd, 1) := by decide +kernel
theorem dX10_rowsAnew_49 : decode cX10_rowsAnew 49 = .ok (.iaload, 1) := by decide +kernel
theorem dX10_rowsAnew_50 : decode cX10_rowsAnew 50 = .ok (.imul, 1) := by decide +kernel
theorem dX10_rowsAnew_51 : decode cX10_rowsAnew 51 = .ok (.iload_n 2, 1) := by decide +kernel
theorem dX10_rowsAnew_52 : decode cX10_rowsAnew 52 = .ok (.iadd, 1) := by decide +kernel
theorem dX10_rowsAnew_53 : decode cX10_rowsAnew 53 = .ok (.istore 5, 2) := by decide +kernel
theorem dX10_rowsAnew_55 : decode cX10_rowsAnew 55 = .ok (.iload_n 2, 1) := by decide +kernel
theorem dX10_rowsAnew_56 : decode cX10_rowsAnew 56 = .ok (.ifCond .eq 12, 3) := by decide +kernel
theorem dX10_rowsAnew_59 : decode cX10_rowsAnew 59 = .ok (.aload_n 0, 1) := by decide +kernel
theorem dX10_rowsAnew_60 : decode cX10_rowsAnew 60 = .ok (.getfield 53, 3) := by decide +kernel
theorem dX10_rowsAnew_63 : decode cX10_rowsAnew 63 = .ok (.iload_n 3, 1) := by decide +kernel
theorem dX10_rowsAnew_64 : decode cX10_rowsAnew 64 = .ok (.iaload, 1) := by decide +kernel
theorem dX10_rowsAnew_65 : decode cX10_rowsAnew 65 = .ok (.ifCond .ne 71, 3) := by decide +kernel
theorem dX10_rowsAnew_68 : decode cX10_rowsAnew 68 = .ok (.iconst 0, 1) := by decide +kernel
theorem dX10_rowsAnew_69 : decode cX10_rowsAnew 69 = .ok (.istore 6, 2) := by decide +kernel
theorem dX10_rowsAnew_71 : decode cX10_rowsAnew 71 = .ok (.iload 6, 2) := by decide +kernel
theorem dX10_rowsAnew_73 : decode cX10_rowsAnew 73 = .ok (.aload_n 0, 1) := by decide +kernel
theorem dX10_rowsAnew_74 : decode cX10_rowsAnew 74 = .ok (.getfield 53, 3) := by decide +kernel
theorem dX10_rowsAnew_77 : decode cX10_rowsAnew 77 = .ok (.iload 5, 2) := by decide +kernel
theorem dX10_rowsAnew_79 : decode cX10_rowsAnew 79 = .ok (.iaload, 1) := by decide +kernel
theorem dX10_rowsAnew_80 : decode cX10_rowsAnew 80 = .ok (.if_icmp .ge 56, 3) := by decide +kernel
theorem dX10_rowsAnew_83 : decode cX10_rowsAnew 83 = .ok (.aload_n 0, 1) := by decide +kernel
theorem dX10_rowsAnew_84 : decode cX10_rowsAnew 84 = .ok (.getfield 53, 3) := by decide +kernel
theorem dX10_rowsAnew_87 : decode cX10_rowsAnew 87 = .ok (.iload_n 3, 1) := by decide +kernel
theorem dX10_rowsAnew_88 : decode cX10_rowsAnew 88 = .ok (.iaload, 1) := by decide +kernel
theorem dX10_rowsAnew_89 : decode cX10_rowsAnew 89 = .ok (.iconst 4, 1) := by decide +kernel
theorem dX10_rowsAnew_90 : decode cX10_rowsAnew 90 = .ok (.if_icmp .ge 46, 3) := by decide +kernel
theorem dX10_rowsAnew_93 : decode cX10_rowsAnew 93 = .ok (.aload_n 0, 1) := by decide +kernel
theorem dX10_rowsAnew_94 : decode cX10_rowsAnew 94 = .ok (.getfield 56, 3) := by decide +kernel
theorem dX10_rowsAnew_97 : decode cX10_rowsAnew 97 = .ok (.iconst 4, 1) := by decide +kernel
theorem dX10_rowsAnew_98 : decode cX10_rowsAnew 98 = .ok (.iload_n 3, 1) := by decide +kernel
theorem dX10_rowsAnew_99 : decode cX10_rowsAnew 99 = .ok (.imul, 1) := by decide +kernel
theorem dX10_rowsAnew_100 : decode cX10_rowsAnew 100 = .ok (.aload_n 0, 1) := by decide +kernel
theorem dX10_rowsAnew_101 : decode cX10_rowsAnew 101 = .ok (.getfield 53, 3) := by decide +kernel
theorem dX10_rowsAnew_104 : decode cX10_rowsAnew 104 = .ok (.iload_n 3, 1) := by decide +kernel
theorem dX10_rowsAnew_105 : decode cX10_rowsAnew 105 = .ok (.iaload, 1) := by decide +kernel
theorem dX10_rowsAnew_106 : decode cX10_rowsAnew 106 = .ok (.iadd, 1) := by decide +kernel
theorem dX10_rowsAnew_107 : decode cX10_rowsAnew 107 = .ok (.aload_n 0, 1) := by decide +kernel
theorem dX10_rowsAnew_108 : decode cX10_rowsAnew 108 = .ok (.getfield 56, 3) := by decide +kernel
theorem dX10_rowsAnew_111 : decode cX10_rowsAnew 111 = .ok (.iconst 4, 1) := by decide +kernel
theorem dX10_rowsAnew_112 : decode cX10_rowsAnew 112 = .ok (.iload 5, 2) := by decide +kernel
theorem dX10_rowsAnew_114 : decode cX10_rowsAnew 114 = .ok (.imul, 1) := by decide +kernel
theorem dX10_rowsAnew_115 : decode cX10_rowsAnew 115 = .ok (.iload 6, 2) := by decide +kernel
theorem dX10_rowsAnew_117 : decode cX10_rowsAnew 117 = .ok (.iadd, 1) := by decide +kernel
theorem dX10_rowsAnew_118 : decode cX10_rowsAnew 118 = .ok (.iaload, 1) := by decide +kernel
theorem dX10_rowsAnew_119 : decode cX10_rowsAnew 119 = .ok (.iastore, 1) := by decide +kernel
theorem dX10_rowsAnew_120 : decode cX10_rowsAnew 120 = .ok (.aload_n 0, 1) := by decide +kernel
theorem dX10_rowsAnew_121 : decode cX10_rowsAnew 121 = .ok (.getfield 53, 3) := by decide +kernel
theorem dX10_rowsAnew_124 : decode cX10_rowsAnew 124 = .ok (.iload_n 3, 1) := by decide +kernel
theorem dX10_rowsAnew_125 : decode cX10_rowsAnew 125 = .ok (.dup2, 1) := by decide +kernel
theorem dX10_rowsAnew_126 : decode cX10_rowsAnew 126 = .ok (.iaload, 1) := by decide +kernel
theorem dX10_rowsAnew_127 : decode cX10_rowsAnew 127 = .ok (.iconst 1, 1) := by decide +kernel
theorem dX10_rowsAnew_128 : decode cX10_rowsAnew 128 = .ok (.iadd, 1) := by decide +kernel
theorem dX10_rowsAnew_129 : decode cX10_rowsAnew 129 = .ok (.iastore, 1) := by decide +kernel
theorem dX10_rowsAnew_130 : decode cX10_rowsAnew 130 = .ok (.iinc 6 1, 3) := by decide +kernel
theorem dX10_rowsAnew_133 : decode cX10_rowsAnew 133 = .ok (.goto (-62), 3) := by decide +kernel
theorem dX10_rowsAnew_136 : decode cX10_rowsAnew 136 = .ok (.iinc 4 1, 3) := by decide +kernel
theorem dX10_rowsAnew_139 : decode cX10_rowsAnew 139 = .ok (.goto (-114), 3) := by decide +kernel
theorem dX10_rowsAnew_142 : decode cX10_rowsAnew 142 = .ok (.iinc 2 1, 3) := by decide +kernel
theorem dX10_rowsAnew_145 : decode cX10_rowsAnew 145 = .ok (.goto (-143), 3) := by decide +kernel
theorem dX10_rowsAnew_148 : decode cX10_rowsAnew 148 = .ok (.return_, 1) := by decide +kernel
theorem dX10_value_0 : decode cX10_value 0 = .ok (.iload_n 1, 1) := by decide +kernel
theorem dX10_value_1 : decode cX10_value 1 = .ok (.iconst 1, 1) := by decide +kernel
theorem dX10_value_2 : decode cX10_value 2 = .ok (.aload_n 0, 1) := by decide +kernel
theorem dX10_value_3 : decode cX10_value 3 = .ok (.getfield 119, 3) := by decide +kernel
theorem dX10_value_6 : decode cX10_value 6 = .ok (.invokestatic 102, 3) := by decide +kernel
theorem dX10_value_9 : decode cX10_value 9 = .ok (.ifCond .ne 6, 3) := by decide +kernel
theorem dX10_value_12 : decode cX10_value 12 = .ok (.bipush (-2), 2) := by decide +kernel
theorem dX10_value_14 : decode cX10_value 14 = .ok (.ireturn, 1) := by decide +kernel
theorem dX10_value_15 : decode cX10_value 15 = .ok (.iload_n 2, 1) := by decide +kernel
theorem dX10_value_16 : decode cX10_value 16 = .ok (.iconst 0, 1) := by decide +kernel
theorem dX10_value_17 : decode cX10_value 17 = .ok (.bipush 11, 2) := by decide +kernel
theorem dX10_value_19 : decode cX10_value 19 = .ok (.invokestatic 102, 3) := by decide +kernel
theorem dX10_value_22 : decode cX10_value 22 = .ok (.ifCond .eq 27, 3) := by decide +kernel
theorem dX10_value_25 : decode cX10_value 25 = .ok (.iload_n 3, 1) := by decide +kernel
theorem dX10_value_26 : decode cX10_value 26 = .ok (.iconst 0, 1) := by decide +kernel
theorem dX10_value_27 : decode cX10_value 27 = .ok (.iconst 3, 1) := by decide +kernel
theorem dX10_value_28 : decode cX10_value 28 = .ok (.invokestatic 102, 3) := by decide +kernel
theorem dX10_value_31 : decode cX10_value 31 = .ok (.ifCond .eq 18, 3) := by decide +kernel
theorem dX10_value_34 : decode cX10_value 34 = .ok (.iload_n 3, 1) := by decide +kernel
theorem dX10_value_35 : decode cX10_value 35 = .ok (.aload_n 0, 1) := by decide +kernel
theorem dX10_value_36 : decode cX10_value 36 = .ok (.getfield 53, 3) := by decide +kernel
theorem dX10_value_39 : decode cX10_value 39 = .ok (.bipush 12, 2) := by decide +kernel
theorem dX10_value_41 : decode cX10_value 41 = .ok (.iload_n 1, 1) := by decide +kernel
theorem dX10_value_42 : decode cX10_value 42 = .ok (.imul, 1) := by decide +kernel
theorem dX10_value_43 : decode cX10_value 43 = .ok (.iload_n 2, 1) := by decide +kernel
theorem dX10_value_44 : decode cX10_value 44 = .ok (.iadd, 1) := by decide +kernel
theorem dX10_value_45 : decode cX10_value 45 = .ok (.iaload, 1) := by decide +kernel
theorem dX10_value_46 : decode cX10_value 46 = .ok (.if_icmp .le 6, 3) := by decide +kernel
theorem dX10_value_49 : decode cX10_value 49 = .ok (.bipush (-3), 2) := by decide +kernel
theorem dX10_value_51 : decode cX10_value 51 = .ok (.ireturn, 1) := by decide +kernel
theorem dX10_value_52 : decode cX10_value 52 = .ok (.bipush 12, 2) := by decide +kernel
theorem dX10_value_54 : decode cX10_value 54 = .ok (.iload_n 1, 1) := by decide +kernel
theorem dX10_value_55 : decode cX10_value 55 = .ok (.imul, 1) := by decide +kernel
theorem dX10_value_56 : decode cX10_value 56 = .ok (.iload_n 2, 1) := by decide +kernel
theorem dX10_value_57 : decode cX10_value 57 = .ok (.iadd, 1) := by decide +kernel
theorem dX10_value_58 : decode cX10_value 58 = .ok (.istore 5, 2) := by decide +kernel
theorem dX10_value_60 : decode cX10_value 60 = .ok (.aload_n 0, 1) := by decide +kernel
theorem dX10_value_61 : decode cX10_value 61 = .ok (.getfield 56, 3) := by decide +kernel
theorem dX10_value_64 : decode cX10_value 64 = .ok (.iconst 4, 1) := by decide +kernel
theorem dX10_value_65 : decode cX10_value 65 = .ok (.iload 5, 2) := by decide +kernel
theorem dX10_value_67 : decode cX10_value 67 = .ok (.imul, 1) := by decide +kernel
theorem dX10_value_68 : decode cX10_value 68 = .ok (.iload_n 3, 1) := by decide +kernel
theorem dX10_value_69 : decode cX10_value 69 = .ok (.iadd, 1) := by decide +kernel
theorem dX10_value_70 : decode cX10_value 70 = .ok (.iload 4, 2) := by decide +kernel
theorem dX10_value_72 : decode cX10_value 72 = .ok (.iastore, 1) := by decide +kernel
theorem dX10_value_73 : decode cX10_value 73 = .ok (.aload_n 0, 1) := by decide +kernel
theorem dX10_value_74 : decode cX10_value 74 = .ok (.getfield 53, 3) := by decide +kernel
theorem dX10_value_77 : decode cX10_value 77 = .ok (.iload 5, 2) := by decide +kernel
theorem dX10_value_79 : decode cX10_value 79 = .ok (.iload_n 3, 1) := by decide +kernel
theorem dX10_value_80 : decode cX10_value 80 = .ok (.aload_n 0, 1) := by decide +kernel
theorem dX10_value_81 : decode cX10_value 81 = .ok (.getfield 53, 3) := by decide +kernel
theorem dX10_value_84 : decode cX10_value 84 = .ok (.iload 5, 2) := by decide +kernel
theorem dX10_value_86 : decode cX10_value 86 = .ok (.iaload, 1) := by decide +kernel
theorem dX10_value_87 : decode cX10_value 87 = .ok (.if_icmp .ne 9, 3) := by decide +kernel
theorem dX10_value_90 : decode cX10_value 90 = .ok (.iload_n 3, 1) := by decide +kernel
theorem dX10_value_91 : decode cX10_value 91 = .ok (.iconst 1, 1) := by decide +kernel
theorem dX10_value_92 : decode cX10_value 92 = .ok (.iadd, 1) := by decide +kernel
theorem dX10_value_93 : decode cX10_value 93 = .ok (.goto 10, 3) := by decide +kernel
theorem dX10_value_96 : decode cX10_value 96 = .ok (.aload_n 0, 1) := by decide +kernel
theorem dX10_value_97 : decode cX10_value 97 = .ok (.getfield 53, 3) := by decide +kernel
theorem dX10_value_100 : decode cX10_value 100 = .ok (.iload 5, 2) := by decide +kernel
theorem dX10_value_102 : decode cX10_value 102 = .ok (.iaload, 1) := by decide +kernel
theorem dX10_value_103 : decode cX10_value 103 = .ok (.iastore, 1) := by decide +kernel
theorem dX10_value_104 : decode cX10_value 104 = .ok (.aload_n 0, 1) := by decide +kernel
theorem dX10_value_105 : decode cX10_value 105 = .ok (.getfield 53, 3) := by decide +kernel
theorem dX10_value_108 : decode cX10_value 108 = .ok (.iload 5, 2) := by decide +kernel
theorem dX10_value_110 : decode cX10_value 110 = .ok (.iaload, 1) := by decide +kernel
theorem dX10_value_111 : decode cX10_value 111 = .ok (.ireturn, 1) := by decide +kernel
theorem dX10_called_0 : decode cX10_called 0 = .ok (.iload_n 1, 1) := by decide +kernel
theorem dX10_called_1 : decode cX10_called 1 = .ok (.iconst 1, 1) := by decide +kernel
theorem dX10_called_2 : decode cX10_called 2 = .ok (.aload_n 0, 1) := by decide +kernel
theorem dX10_called_3 : decode cX10_called 3 = .ok (.getfield 119, 3) := by decide +kernel
theorem dX10_called_6 : decode cX10_called 6 = .ok (.invokestatic 102, 3) := by decide +kernel
theorem dX10_called_9 : decode cX10_called 9 = .ok (.ifCond .eq 16, 3) := by decide +kernel
theorem dX10_called_12 : decode cX10_called 12 = .ok (.iload_n 2, 1) := by decide +kernel
theorem dX10_called_13 : decode cX10_called 13 = .ok (.ifCond .eq 15, 3) := by decide +kernel
theorem dX10_called_16 : decode cX10_called 16 = .ok (.aload_n 0, 1) := by decide +kernel
theorem dX10_called_17 : decode cX10_called 17 = .ok (.iload_n 2, 1) := by decide +kernel
theorem dX10_called_18 : decode cX10_called 18 = .ok (.invokevirtual 141, 3) := by decide +kernel
theorem dX10_called_21 : decode cX10_called 21 = .ok (.iconst 3, 1) := by decide +kernel
theorem dX10_called_22 : decode cX10_called 22 = .ok (.if_icmp .eq 6, 3) := by decide +kernel
theorem dX10_called_25 : decode cX10_called 25 = .ok (.bipush (-2), 2) := by decide +kernel
theorem dX10_called_27 : decode cX10_called 27 = .ok (.ireturn, 1) := by decide +kernel
theorem dX10_called_28 : decode cX10_called 28 = .ok (.aload_n 0, 1) := by decide +kernel
theorem dX10_called_29 : decode cX10_called 29 = .ok (.getfield 59, 3) := by decide +kernel
theorem dX10_called_32 : decode cX10_called 32 = .ok (.iload_n 1, 1) := by decide +kernel
theorem dX10_called_33 : decode cX10_called 33 = .ok (.iload_n 2, 1) := by decide +kernel
theorem dX10_called_34 : decode cX10_called 34 = .ok (.iastore, 1) := by decide +kernel
theorem dX10_called_35 : decode cX10_called 35 = .ok (.aload_n 0, 1) := by decide +kernel
theorem dX10_called_36 : decode cX10_called 36 = .ok (.getfield 62, 3) := by decide +kernel
theorem dX10_called_39 : decode cX10_called 39 = .ok (.iload_n 1, 1) := by decide +kernel
theorem dX10_called_40 : decode cX10_called 40 = .ok (.iload_n 3, 1) := by decide +kernel
theorem dX10_called_41 : decode cX10_called 41 = .ok (.bastore, 1) := by decide +kernel
theorem dX10_called_42 : decode cX10_called 42 = .ok (.iconst 1, 1) := by decide +kernel
theorem dX10_called_43 : decode cX10_called 43 = .ok (.ireturn, 1) := by decide +kernel
theorem dX10_fails_0 : decode cX10_fails 0 = .ok (.aload_n 0, 1) := by decide +kernel
theorem dX10_fails_1 : decode cX10_fails 1 = .ok (.getfield 98, 3) := by decide +kernel
theorem dX10_fails_4 : decode cX10_fails 4 = .ok (.ifCond .eq 62, 3) := by decide +kernel
theorem dX10_fails_7 : decode cX10_fails 7 = .ok (.aload_n 0, 1) := by decide +kernel
theorem dX10_fails_8 : decode cX10_fails 8 = .ok (.getfield 145, 3) := by decide +kernel
theorem dX10_fails_11 : decode cX10_fails 11 = .ok (.bipush 30, 2) := by decide +kernel
theorem dX10_fails_13 : decode cX10_fails 13 = .ok (.if_icmp .ge 53, 3) := by decide +kernel
theorem dX10_fails_16 : decode cX10_fails 16 = .ok (.aload_n 0, 1) := by decide +kernel
theorem dX10_fails_17 : decode cX10_fails 17 = .ok (.getfield 74, 3) := by decide +kernel
theorem dX10_fails_20 : decode cX10_fails 20 = .ok (.iconst 3, 1) := by decide +kernel
theorem dX10_fails_21 : decode cX10_fails 21 = .ok (.aload_n 0, 1) := by decide +kernel
theorem dX10_fails_22 : decode cX10_fails 22 = .ok (.getfield 145, 3) := by decide +kernel
theorem dX10_fails_25 : decode cX10_fails 25 = .ok (.imul, 1) := by decide +kernel
theorem dX10_fails_26 : decode cX10_fails 26 = .ok (.iload_n 1, 1) := by decide +kernel
theorem dX10_fails_27 : decode cX10_fails 27 = .ok (.iastore, 1) := by decide +kernel
theorem dX10_fails_28 : decode cX10_fails 28 = .ok (.aload_n 0, 1) := by decide +kernel
theorem dX10_fails_29 : decode cX10_fails 29 = .ok (.getfield 74, 3) := by decide +kernel
theorem dX10_fails_32 : decode cX10_fails 32 = .ok (.iconst 3, 1) := by decide +kernel
theorem dX10_fails_33 : decode cX10_fails 33 = .ok (.aload_n 0, 1) := by decide +kernel
theorem dX10_fails_34 : decode cX10_fails 34 = .ok (.getfield 145, 3) := by decide +kernel
theorem dX10_fails_37 : decode cX10_fails 37 = .ok (.imul, 1) := by decide +kernel
theorem dX10_fails_38 : decode cX10_fails 38 = .ok (.iconst 1, 1) := by decide +kernel
theorem dX10_fails_39 : decode cX10_fails 39 = .ok (.iadd, 1) := by decide +kernel
theorem dX10_fails_40 : decode cX10_fails 40 = .ok (.iload_n 2, 1) := by decide +kernel
theorem dX10_fails_41 : decode cX10_fails 41 = .ok (.iastore, 1) := by decide +kernel
theorem dX10_fails_42 : decode cX10_fails 42 = .ok (.aload_n 0, 1) := by decide +kernel
theorem dX10_fails_43 : decode cX10_fails 43 = .ok (.getfield 74, 3) := by decide +kernel
theorem dX10_fails_46 : decode cX10_fails 46 = .ok (.iconst 3, 1) := by decide +kernel
theorem dX10_fails_47 : decode cX10_fails 47 = .ok (.aload_n 0, 1) := by decide +kernel
theorem dX10_fails_48 : decode cX10_fails 48 = .ok (.getfield 145, 3) := by decide +kernel
theorem dX10_fails_51 : decode cX10_fails 51 = .ok (.imul, 1) := by decide +kernel
theorem dX10_fails_52 : decode cX10_fails 52 = .ok (.iconst 2, 1) := by decide +kernel
theorem dX10_fails_53 : decode cX10_fails 53 = .ok (.iadd, 1) := by decide +kernel
theorem dX10_fails_54 : decode cX10_fails 54 = .ok (.iload_n 3, 1) := by decide +kernel
theorem dX10_fails_55 : decode cX10_fails 55 = .ok (.iastore, 1) := by decide +kernel
theorem dX10_fails_56 : decode cX10_fails 56 = .ok (.aload_n 0, 1) := by decide +kernel
theorem dX10_fails_57 : decode cX10_fails 57 = .ok (.dup, 1) := by decide +kernel
theorem dX10_fails_58 : decode cX10_fails 58 = .ok (.getfield 145, 3) := by decide +kernel
theorem dX10_fails_61 : decode cX10_fails 61 = .ok (.iconst 1, 1) := by decide +kernel
theorem dX10_fails_62 : decode cX10_fails 62 = .ok (.iadd, 1) := by decide +kernel
theorem dX10_fails_63 : decode cX10_fails 63 = .ok (.putfield 145, 3) := by decide +kernel
theorem dX10_fails_66 : decode cX10_fails 66 = .ok (.iconst 0, 1) := by decide +kernel
theorem dX10_fails_67 : decode cX10_fails 67 = .ok (.ireturn, 1) := by decide +kernel
theorem dX10_say_0 : decode cX10_say 0 = .ok (.aload_n 0, 1) := by decide +kernel
theorem dX10_say_1 : decode cX10_say 1 = .ok (.getfield 148, 3) := by decide +kernel
theorem dX10_say_4 : decode cX10_say 4 = .ok (.sipush 400, 3) := by decide +kernel
theorem dX10_say_7 : decode cX10_say 7 = .ok (.if_icmp .ge 23, 3) := by decide +kernel
theorem dX10_say_10 : decode cX10_say 10 = .ok (.aload_n 0, 1) := by decide +kernel
theorem dX10_say_11 : decode cX10_say 11 = .ok (.getfield 77, 3) := by decide +kernel
theorem dX10_say_14 : decode cX10_say 14 = .ok (.aload_n 0, 1) := by decide +kernel
theorem dX10_say_15 : decode cX10_say 15 = .ok (.getfield 148, 3) := by decide +kernel
theorem dX10_say_18 : decode cX10_say 18 = .ok (.iload_n 1, 1) := by decide +kernel
theorem dX10_say_19 : decode cX10_say 19 = .ok (.iastore, 1) := by decide +kernel
theorem dX10_say_20 : decode cX10_say 20 = .ok (.aload_n 0, 1) := by decide +kernel
theorem dX10_say_21 : decode cX10_say 21 = .ok (.dup, 1) := by decide +kernel
theorem dX10_say_22 : decode cX10_say 22 = .ok (.getfield 148, 3) := by decide +kernel
theorem dX10_say_25 : decode cX10_say 25 = .ok (.iconst 1, 1) := by decide +kernel
theorem dX10_say_26 : decode cX10_say 26 = .ok (.iadd, 1) := by decide +kernel
theorem dX10_say_27 : decode cX10_say 27 = .ok (.putfield 148, 3) := by decide +kernel
theorem dX10_say_30 : decode cX10_say 30 = .ok (.return_, 1) := by decide +kernel
theorem dX10_sayText_0 : decode cX10_sayText 0 = .ok (.iload_n 1, 1) := by decide +kernel
theorem dX10_sayText_1 : decode cX10_sayText 1 = .ok (.bipush 101, 2) := by decide +kernel
theorem dX10_sayText_3 : decode cX10_sayText 3 = .ok (.isub, 1) := by decide +kernel
theorem dX10_sayText_4 : decode cX10_sayText 4 = .ok (.istore_n 2, 1) := by decide +kernel
theorem dX10_sayText_5 : decode cX10_sayText 5 = .ok (.iconst 0, 1) := by decide +kernel
theorem dX10_sayText_6 : decode cX10_sayText 6 = .ok (.istore_n 3, 1) := by decide +kernel
theorem dX10_sayText_7 : decode cX10_sayText 7 = .ok (.iload_n 3, 1) := by decide +kernel
theorem dX10_sayText_8 : decode cX10_sayText 8 = .ok (.aload_n 0, 1) := by decide +kernel
theorem dX10_sayText_9 : decode cX10_sayText 9 = .ok (.getfield 13, 3) := by decide +kernel
theorem dX10_sayText_12 : decode cX10_sayText 12 = .ok (.iload_n 2, 1) := by decide +kernel
theorem dX10_sayText_13 : decode cX10_sayText 13 = .ok (.iaload, 1) := by decide +kernel
theorem dX10_sayText_14 : decode cX10_sayText 14 = .ok (.if_icmp .ge 24, 3) := by decide +kernel
theorem dX10_sayText_17 : decode cX10_sayText 17 = .ok (.aload_n 0, 1) := by decide +kernel
theorem dX10_sayText_18 : decode cX10_sayText 18 = .ok (.aload_n 0, 1) := by decide +kernel
theorem dX10_sayText_19 : decode cX10_sayText 19 = .ok (.getfield 16, 3) := by decide +kernel
theorem dX10_sayText_22 : decode cX10_sayText 22 = .ok (.bipush 20, 2) := by decide +kernel
theorem dX10_sayText_24 : decode cX10_sayText 24 = .ok (.iload_n 2, 1) := by decide +kernel
theorem dX10_sayText_25 : decode cX10_sayText 25 = .ok (.imul, 1) := by decide +kernel
theorem dX10_sayText_26 : decode cX10_sayText 26 = .ok (.iload_n 3, 1) := by decide +kernel
theorem dX10_sayText_27 : decode cX10_sayText 27 = .ok (.iadd, 1) := by decide +kernel
theorem dX10_sayText_28 : decode cX10_sayText 28 = .ok (.iaload, 1) := by decide +kernel
theorem dX10_sayText_29 : decode cX10_sayText 29 = .ok (.invokevirtual 151, 3) := by decide +kernel
theorem dX10_sayText_32 : decode cX10_sayText 32 = .ok (.iinc 3 1, 3) := by decide +kernel
theorem dX10_sayText_35 : decode cX10_sayText 35 = .ok (.goto (-28), 3) := by decide +kernel
theorem dX10_sayText_38 : decode cX10_sayText 38 = .ok (.return_, 1) := by decide +kernel
theorem dX10_sayNumber_0 : decode cX10_sayNumber 0 = .ok (.aload_n 0, 1) := by decide +kernel
theorem dX10_sayNumber_1 : decode cX10_sayNumber 1 = .ok (.bipush 40, 2) := by decide +kernel
theorem dX10_sayNumber_3 : decode cX10_sayNumber 3 = .ok (.invokevirtual 151, 3) := by decide +kernel
theorem dX10_sayNumber_6 : decode cX10_sayNumber 6 = .ok (.iload_n 1, 1) := by decide +kernel
theorem dX10_sayNumber_7 : decode cX10_sayNumber 7 = .ok (.bipush 9, 2) := by decide +kernel
theorem dX10_sayNumber_9 : decode cX10_sayNumber 9 = .ok (.if_icmp .le 14, 3) := by decide +kernel
theorem dX10_sayNumber_12 : decode cX10_sayNumber 12 = .ok (.aload_n 0, 1) := by decide +kernel
theorem dX10_sayNumber_13 : decode cX10_sayNumber 13 = .ok (.bipush 48, 2) := by decide +kernel
theorem dX10_sayNumber_15 : decode cX10_sayNumber 15 = .ok (.iload_n 1, 1) := by decide +kernel
theorem dX10_sayNumber_16 : decode cX10_sayNumber 16 = .ok (.bipush 10, 2) := by decide +kernel
theorem dX10_sayNumber_18 : decode cX10_sayNumber 18 = .ok (.idiv, 1) := by decide +kernel
theorem dX10_sayNumber_19 : decode cX10_sayNumber 19 = .ok (.iadd, 1) := by decide +kernel
theorem dX10_sayNumber_20 : decode cX10_sayNumber 20 = .ok (.invokevirtual 151, 3) := by decide +kernel
theorem dX10_sayNumber_23 : decode cX10_sayNumber 23 = .ok (.aload_n 0, 1) := by decide +kernel
theorem dX10_sayNumber_24 : decode cX10_sayNumber 24 = .ok (.bipush 48, 2) := by decide +kernel
theorem dX10_sayNumber_26 : decode cX10_sayNumber 26 = .ok (.iload_n 1, 1) := by decide +kernel
theorem dX10_sayNumber_27 : decode cX10_sayNumber 27 = .ok (.bipush 10, 2) := by decide +kernel
theorem dX10_sayNumber_29 : decode cX10_sayNumber 29 = .ok (.irem, 1) := by decide +kernel
theorem dX10_sayNumber_30 : decode cX10_sayNumber 30 = .ok (.iadd, 1) := by decide +kernel
theorem dX10_sayNumber_31 : decode cX10_sayNumber 31 = .ok (.invokevirtual 151, 3) := by decide +kernel
theorem dX10_sayNumber_34 : decode cX10_sayNumber 34 = .ok (.aload_n 0, 1) := by decide +kernel
theorem dX10_sayNumber_35 : decode cX10_sayNumber 35 = .ok (.bipush 41, 2) := by decide +kernel
theorem dX10_sayNumber_37 : decode cX10_sayNumber 37 = .ok (.invokevirtual 151, 3) := by decide +kernel
theorem dX10_sayNumber_40 : decode cX10_sayNumber 40 = .ok (.return_, 1) := by decide +kernel
theorem dX10_isVowel_0 : decode cX10_isVowel 0 = .ok (.iload_n 0, 1) := by decide +kernel
theorem dX10_isVowel_1 : decode cX10_isVowel 1 = .ok (.bipush 97, 2) := by decide +kernel
theorem dX10_isVowel_3 : decode cX10_isVowel 3 = .ok (.if_icmp .eq 57, 3) := by decide +kernel
theorem dX10_isVowel_6 : decode cX10_isVowel 6 = .ok (.iload_n 0, 1) := by decide +kernel
theorem dX10_isVowel_7 : decode cX10_isVowel 7 = .ok (.bipush 101, 2) := by decide +kernel
theorem dX10_isVowel_9 : decode cX10_isVowel 9 = .ok (.if_icmp .eq 51, 3) := by decide +kernel
theorem dX10_isVowel_12 : decode cX10_isVowel 12 = .ok (.iload_n 0, 1) := by decide +kernel
theorem dX10_isVowel_13 : decode cX10_isVowel 13 = .ok (.bipush 105, 2) := by decide +kernel
theorem dX10_isVowel_15 : decode cX10_isVowel 15 = .ok (.if_icmp .eq 45, 3) := by decide +kernel
theorem dX10_isVowel_18 : decode cX10_isVowel 18 = .ok (.iload_n 0, 1) := by decide +kernel
theorem dX10_isVowel_19 : decode cX10_isVowel 19 = .ok (.bipush 111, 2) := by decide +kernel
theorem dX10_isVowel_21 : decode cX10_isVowel 21 = .ok (.if_icmp .eq 39, 3) := by decide +kernel
theorem dX10_isVowel_24 : decode cX10_isVowel 24 = .ok (.iload_n 0, 1) := by decide +kernel
theorem dX10_isVowel_25 : decode cX10_isVowel 25 = .ok (.bipush 117, 2) := by decide +kernel
theorem dX10_isVowel_27 : decode cX10_isVowel 27 = .ok (.if_icmp .eq 33, 3) := by decide +kernel
theorem dX10_isVowel_30 : decode cX10_isVowel 30 = .ok (.iload_n 0, 1) := by decide +kernel
theorem dX10_isVowel_31 : decode cX10_isVowel 31 = .ok (.bipush 65, 2) := by decide +kernel
theorem dX10_isVowel_33 : decode cX10_isVowel 33 = .ok (.if_icmp .eq 27, 3) := by decide +kernel
theorem dX10_isVowel_36 : decode cX10_isVowel 36 = .ok (.iload_n 0, 1) := by decide +kernel
theorem dX10_isVowel_37 : decode cX10_isVowel 37 = .ok (.bipush 69, 2) := by decide +kernel
theorem dX10_isVowel_39 : decode cX10_isVowel 39 = .ok (.if_icmp .eq 21, 3) := by decide +kernel
theorem dX10_isVowel_42 : decode cX10_isVowel 42 = .ok (.iload_n 0, 1) := by decide +kernel
theorem dX10_isVowel_43 : decode cX10_isVowel 43 = .ok (.bipush 73, 2) := by decide +kernel
theorem dX10_isVowel_45 : decode cX10_isVowel 45 = .ok (.if_icmp .eq 15, 3) := by decide +kernel
theorem dX10_isVowel_48 : decode cX10_isVowel 48 = .ok (.iload_n 0, 1) := by decide +kernel
theorem dX10_isVowel_49 : decode cX10_isVowel 49 = .ok (.bipush 79, 2) := by decide +kernel
theorem dX10_isVowel_51 : decode cX10_isVowel 51 = .ok (.if_icmp .eq 9, 3) := by decide +kernel
theorem dX10_isVowel_54 : decode cX10_isVowel 54 = .ok (.iload_n 0, 1) := by decide +kernel
theorem dX10_isVowel_55 : decode cX10_isVowel 55 = .ok (.bipush 85, 2) := by decide +kernel
theorem dX10_isVowel_57 : decode cX10_isVowel 57 = .ok (.if_icmp .ne 7, 3) := by decide +kernel
theorem dX10_isVowel_60 : decode cX10_isVowel 60 = .ok (.iconst 1, 1) := by decide +kernel
theorem dX10_isVowel_61 : decode cX10_isVowel 61 = .ok (.goto 4, 3) := by decide +kernel
theorem dX10_isVowel_64 : decode cX10_isVowel 64 = .ok (.iconst 0, 1) := by decide +kernel
theorem dX10_isVowel_65 : decode cX10_isVowel 65 = .ok (.ireturn, 1) := by decide +kernel
theorem dX10_sayArticle_0 : decode cX10_sayArticle 0 = .ok (.iload_n 2, 1) := by decide +kernel
theorem dX10_sayArticle_1 : decode cX10_sayArticle 1 = .ok (.iconst 2, 1) := by decide +kernel
theorem dX10_sayArticle_2 : decode cX10_sayArticle 2 = .ok (.if_icmp .ne 53, 3) := by decide +kernel
theorem dX10_sayArticle_5 : decode cX10_sayArticle 5 = .ok (.iload_n 1, 1) := by decide +kernel
theorem dX10_sayArticle_6 : decode cX10_sayArticle 6 = .ok (.bipush 101, 2) := by decide +kernel
theorem dX10_sayArticle_8 : decode cX10_sayArticle 8 = .ok (.isub, 1) := by decide +kernel
theorem dX10_sayArticle_9 : decode cX10_sayArticle 9 = .ok (.istore_n 3, 1) := by decide +kernel
theorem dX10_sayArticle_10 : decode cX10_sayArticle 10 = .ok (.aload_n 0, 1) := by decide +kernel
theorem dX10_sayArticle_11 : decode cX10_sayArticle 11 = .ok (.bipush 97, 2) := by decide +kernel
theorem dX10_sayArticle_13 : decode cX10_sayArticle 13 = .ok (.invokevirtual 151, 3) := by decide +kernel
theorem dX10_sayArticle_16 : decode cX10_sayArticle 16 = .ok (.aload_n 0, 1) := by decide +kernel
theorem dX10_sayArticle_17 : decode cX10_sayArticle 17 = .ok (.getfield 13, 3) := by decide +kernel
theorem dX10_sayArticle_20 : decode cX10_sayArticle 20 = .ok (.iload_n 3, 1) := by decide +kernel
theorem dX10_sayArticle_21 : decode cX10_sayArticle 21 = .ok (.iaload, 1) := by decide +kernel
theorem dX10_sayArticle_22 : decode cX10_sayArticle 22 = .ok (.ifCond .le 24, 3) := by decide +kernel
theorem dX10_sayArticle_25 : decode cX10_sayArticle 25 = .ok (.aload_n 0, 1) := by decide +kernel
theorem dX10_sayArticle_26 : decode cX10_sayArticle 26 = .ok (.getfield 16, 3) := by decide +kernel
theorem dX10_sayArticle_29 : decode cX10_sayArticle 29 = .ok (.bipush 20, 2) := by decide +kernel
theorem dX10_sayArticle_31 : decode cX10_sayArticle 31 = .ok (.iload_n 3, 1) := by decide +kernel
theorem dX10_sayArticle_32 : decode cX10_sayArticle 32 = .ok (.imul, 1) := by decide +kernel
theorem dX10_sayArticle_33 : decode cX10_sayArticle 33 = .ok (.iaload, 1) := by decide +kernel
theorem dX10_sayArticle_34 : decode cX10_sayArticle 34 = .ok (.invokestatic 154, 3) := by decide +kernel
theorem dX10_sayArticle_37 : decode cX10_sayArticle 37 = .ok (.ifCond .eq 9, 3) := by decide +kernel
theorem dX10_sayArticle_40 : decode cX10_sayArticle 40 = .ok (.aload_n 0, 1) := by decide +kernel
theorem dX10_sayArticle_41 : decode cX10_sayArticle 41 = .ok (.bipush 110, 2) := by decide +kernel
theorem dX10_sayArticle_43 : decode cX10_sayArticle 43 = .ok (.invokevirtual 151, 3) := by decide +kernel
theorem dX10_sayArticle_46 : decode cX10_sayArticle 46 = .ok (.aload_n 0, 1) := by decide +kernel
theorem dX10_sayArticle_47 : decode cX10_sayArticle 47 = .ok (.bipush 32, 2) := by decide +kernel
theorem dX10_sayArticle_49 : decode cX10_sayArticle 49 = .ok (.invokevirtual 151, 3) := by decide +kernel
theorem dX10_sayArticle_52 : decode cX10_sayArticle 52 = .ok (.goto 47, 3) := by decide +kernel
theorem dX10_sayArticle_55 : decode cX10_sayArticle 55 = .ok (.iload_n 2, 1) := by decide +kernel
theorem dX10_sayArticle_56 : decode cX10_sayArticle 56 = .ok (.iconst 1, 1) := by decide +kernel
theorem dX10_sayArticle_57 : decode cX10_sayArticle 57 = .ok (.if_icmp .eq 8, 3) := by decide +kernel
theorem dX10_sayArticle_60 : decode cX10_sayArticle 60 = .ok (.iload_n 2, 1) := by decide +kernel
theorem dX10_sayArticle_61 : decode cX10_sayArticle 61 = .ok (.iconst 3, 1) := by decide +kernel
theorem dX10_sayArticle_62 : decode cX10_sayArticle 62 = .ok (.if_icmp .ne 37, 3) := by decide +kernel
theorem dX10_sayArticle_65 : decode cX10_sayArticle 65 = .ok (.aload_n 0, 1) := by decide +kernel
theorem dX10_sayArticle_66 : decode cX10_sayArticle 66 = .ok (.iload_n 2, 1) := by decide +kernel
theorem dX10_sayArticle_67 : decode cX10_sayArticle 67 = .ok (.iconst 1, 1) := by decide +kernel
theorem dX10_sayArticle_68 : decode cX10_sayArticle 68 = .ok (.if_icmp .ne 8, 3) := by decide +kernel
theorem dX10_sayArticle_71 : decode cX10_sayArticle 71 = .ok (.bipush 116, 2) := by decide +kernel
theorem dX10_sayArticle_73 : decode cX10_sayArticle 73 = .ok (.goto 5, 3) := by decide +kernel
theorem dX10_sayArticle_76 : decode cX10_sayArticle 76 = .ok (.bipush 84, 2) := by decide +kernel
theorem dX10_sayArticle_78 : decode cX10_sayArticle 78 = .ok (.invokevirtual 151, 3) := by decide +kernel
theorem dX10_sayArticle_81 : decode cX10_sayArticle 81 = .ok (.aload_n 0, 1) := by decide +kernel
theorem dX10_sayArticle_82 : decode cX10_sayArticle 82 = .ok (.bipush 104, 2) := by decide +kernel
theorem dX10_sayArticle_84 : decode cX10_sayArticle 84 = .ok (.invokevirtual 151, 3) := by decide +kernel
theorem dX10_sayArticle_87 : decode cX10_sayArticle 87 = .ok (.aload_n 0, 1) := by decide +kernel
theorem dX10_sayArticle_88 : decode cX10_sayArticle 88 = .ok (.bipush 101, 2) := by decide +kernel
theorem dX10_sayArticle_90 : decode cX10_sayArticle 90 = .ok (.invokevirtual 151, 3) := by decide +kernel
theorem dX10_sayArticle_93 : decode cX10_sayArticle 93 = .ok (.aload_n 0, 1) := by decide +kernel
theorem dX10_sayArticle_94 : decode cX10_sayArticle 94 = .ok (.bipush 32, 2) := by decide +kernel
theorem dX10_sayArticle_96 : decode cX10_sayArticle 96 = .ok (.invokevirtual 151, 3) := by decide +kernel
theorem dX10_sayArticle_99 : decode cX10_sayArticle 99 = .ok (.return_, 1) := by decide +kernel
theorem dX10_name_0 : decode cX10_name 0 = .ok (.aload_n 0, 1) := by decide +kernel
theorem dX10_name_1 : decode cX10_name 1 = .ok (.iload_n 1, 1) := by decide +kernel
theorem dX10_name_2 : decode cX10_name 2 = .ok (.invokevirtual 141, 3) := by decide +kernel
theorem dX10_name_5 : decode cX10_name 5 = .ok (.istore_n 3, 1) := by decide +kernel
theorem dX10_name_6 : decode cX10_name 6 = .ok (.iload_n 1, 1) := by decide +kernel
theorem dX10_name_7 : decode cX10_name 7 = .ok (.ifCond .ne 48, 3) := by decide +kernel
theorem dX10_name_10 : decode cX10_name 10 = .ok (.aload_n 0, 1) := by decide +kernel
theorem dX10_name_11 : decode cX10_name 11 = .ok (.bipush 110, 2) := by decide +kernel
theorem dX10_name_13 : decode cX10_name 13 = .ok (.invokevirtual 151, 3) := by decide +kernel
theorem dX10_name_16 : decode cX10_name 16 = .ok (.aload_n 0, 1) := by decide +kernel
theorem dX10_name_17 : decode cX10_name 17 = .ok (.bipush 111, 2) := by decide +kernel
theorem dX10_name_19 : decode cX10_name 19 = .ok (.invokevirtual 151, 3) := by decide +kernel
theorem dX10_name_22 : decode cX10_name 22 = .ok (.aload_n 0, 1) := by decide +kernel
theorem dX10_name_23 : decode cX10_name 23 = .ok (.bipush 116, 2) := by decide +kernel
theorem dX10_name_25 : decode cX10_name 25 = .ok (.invokevirtual 151, 3) := by decide +kernel
theorem dX10_name_28 : decode cX10_name 28 = .ok (.aload_n 0, 1) := by decide +kernel
theorem dX10_name_29 : decode cX10_name 29 = .ok (.bipush 104, 2) := by decide +kernel
theorem dX10_name_31 : decode cX10_name 31 = .ok (.invokevirtual 151, 3) := by decide +kernel
theorem dX10_name_34 : decode cX10_name 34 = .ok (.aload_n 0, 1) := by decide +kernel
theorem dX10_name_35 : decode cX10_name 35 = .ok (.bipush 105, 2) := by decide +kernel
theorem dX10_name_37 : decode cX10_name 37 = .ok (.invokevirtual 151, 3) := by decide +kernel
theorem dX10_name_40 : decode cX10_name 40 = .ok (.aload_n 0, 1) := by decide +kernel
theorem dX10_name_41 : decode cX10_name 41 = .ok (.bipush 110, 2) := by decide +kernel
theorem dX10_name_43 : decode cX10_name 43 = .ok (.invokevirtual 151, 3) := by decide +kernel
theorem dX10_name_46 : decode cX10_name 46 = .ok (.aload_n 0, 1) := by decide +kernel
theorem dX10_name_47 : decode cX10_name 47 = .ok (.bipush 103, 2) := by decide +kernel
theorem dX10_name_49 : decode cX10_name 49 = .ok (.invokevirtual 151, 3) := by decide +kernel
theorem dX10_name_52 : decode cX10_name 52 = .ok (.goto 145, 3) := by decide +kernel
theorem dX10_name_55 : decode cX10_name 55 = .ok (.iload_n 3, 1) := by decide +kernel
theorem dX10_name_56 : decode cX10_name 56 = .ok (.iconst 1, 1) := by decide +kernel
theorem dX10_name_57 : decode cX10_name 57 = .ok (.if_icmp .eq 47, 3) := by decide +kernel
theorem dX10_name_60 : decode cX10_name 60 = .ok (.iload_n 3, 1) := by decide +kernel
theorem dX10_name_61 : decode cX10_name 61 = .ok (.iconst 2, 1) := by decide +kernel
theorem dX10_name_62 : decode cX10_name 62 = .ok (.if_icmp .eq 42, 3) := by decide +kernel
theorem dX10_name_65 : decode cX10_name 65 = .ok (.aload_n 0, 1) := by decide +kernel
theorem dX10_name_66 : decode cX10_name 66 = .ok (.bipush 40, 2) := by decide +kernel
theorem dX10_name_68 : decode cX10_name 68 = .ok (.invokevirtual 151, 3) := by decide +kernel
theorem dX10_name_71 : decode cX10_name 71 = .ok (.aload_n 0, 1) := by decide +kernel
theorem dX10_name_72 : decode cX10_name 72 = .ok (.bipush 110, 2) := by decide +kernel
theorem dX10_name_74 : decode cX10_name 74 = .ok (.invokevirtual 151, 3) := by decide +kernel
theorem dX10_name_77 : decode cX10_name 77 = .ok (.aload_n 0, 1) := by decide +kernel
theorem dX10_name_78 : decode cX10_name 78 = .ok (.bipush 111, 2) := by decide +kernel
theorem dX10_name_80 : decode cX10_name 80 = .ok (.invokevirtual 151, 3) := by decide +kernel
theorem dX10_name_83 : decode cX10_name 83 = .ok (.aload_n 0, 1) := by decide +kernel
theorem dX10_name_84 : decode cX10_name 84 = .ok (.bipush 110, 2) := by decide +kernel
theorem dX10_name_86 : decode cX10_name 86 = .ok (.invokevirtual 151, 3) := by decide +kernel
theorem dX10_name_89 : decode cX10_name 89 = .ok (.aload_n 0, 1) := by decide +kernel
theorem dX10_name_90 : decode cX10_name 90 = .ok (.bipush 101, 2) := by decide +kernel
theorem dX10_name_92 : decode cX10_name 92 = .ok (.invokevirtual 151, 3) := by decide +kernel
theorem dX10_name_95 : decode cX10_name 95 = .ok (.aload_n 0, 1) := by decide +kernel
theorem dX10_name_96 : decode cX10_name 96 = .ok (.bipush 41, 2) := by decide +kernel
theorem dX10_name_98 : decode cX10_name 98 = .ok (.invokevirtual 151, 3) := by decide +kernel
theorem dX10_name_101 : decode cX10_name 101 = .ok (.goto 96, 3) := by decide +kernel
theorem dX10_name_104 : decode cX10_name 104 = .ok (.iload_n 3, 1) := by decide +kernel
theorem dX10_name_105 : decode cX10_name 105 = .ok (.iconst 1, 1) := by decide +kernel
theorem dX10_name_106 : decode cX10_name 106 = .ok (.if_icmp .ne 39, 3) := by decide +kernel
theorem dX10_name_109 : decode cX10_name 109 = .ok (.aload_n 0, 1) := by decide +kernel
theorem dX10_name_110 : decode cX10_name 110 = .ok (.bipush 99, 2) := by decide +kernel
theorem dX10_name_112 : decode cX10_name 112 = .ok (.invokevirtual 151, 3) := by decide +kernel
theorem dX10_name_115 : decode cX10_name 115 = .ok (.aload_n 0, 1) := by decide +kernel
theorem dX10_name_116 : decode cX10_name 116 = .ok (.bipush 108, 2) := by decide +kernel
theorem dX10_name_118 : decode cX10_name 118 = .ok (.invokevirtual 151, 3) := by decide +kernel
theorem dX10_name_121 : decode cX10_name 121 = .ok (.aload_n 0, 1) := by decide +kernel
theorem dX10_name_122 : decode cX10_name 122 = .ok (.bipush 97, 2) := by decide +kernel
theorem dX10_name_124 : decode cX10_name 124 = .ok (.invokevirtual 151, 3) := by decide +kernel
theorem dX10_name_127 : decode cX10_name 127 = .ok (.aload_n 0, 1) := by decide +kernel
theorem dX10_name_128 : decode cX10_name 128 = .ok (.bipush 115, 2) := by decide +kernel
theorem dX10_name_130 : decode cX10_name 130 = .ok (.invokevirtual 151, 3) := by decide +kernel
theorem dX10_name_133 : decode cX10_name 133 = .ok (.aload_n 0, 1) := by decide +kernel
theorem dX10_name_134 : decode cX10_name 134 = .ok (.bipush 115, 2) := by decide +kernel
theorem dX10_name_136 : decode cX10_name 136 = .ok (.invokevirtual 151, 3) := by decide +kernel
theorem dX10_name_139 : decode cX10_name 139 = .ok (.aload_n 0, 1) := by decide +kernel
theorem dX10_name_140 : decode cX10_name 140 = .ok (.bipush 32, 2) := by decide +kernel
theorem dX10_name_142 : decode cX10_name 142 = .ok (.invokevirtual 151, 3) := by decide +kernel
theorem dX10_name_145 : decode cX10_name 145 = .ok (.aload_n 0, 1) := by decide +kernel
theorem dX10_name_146 : decode cX10_name 146 = .ok (.getfield 59, 3) := by decide +kernel
theorem dX10_name_149 : decode cX10_name 149 = .ok (.iload_n 1, 1) := by decide +kernel
theorem dX10_name_150 : decode cX10_name 150 = .ok (.iaload, 1) := by decide +kernel
theorem dX10_name_151 : decode cX10_name 151 = .ok (.ifCond .ne 11, 3) := by decide +kernel
theorem dX10_name_154 : decode cX10_name 154 = .ok (.aload_n 0, 1) := by decide +kernel
theorem dX10_name_155 : decode cX10_name 155 = .ok (.iload_n 1, 1) := by decide +kernel
theorem dX10_name_156 : decode cX10_name 156 = .ok (.invokevirtual 157, 3) := by decide +kernel
theorem dX10_name_159 : decode cX10_name 159 = .ok (.goto 38, 3) := by decide +kernel
theorem dX10_name_162 : decode cX10_name 162 = .ok (.iload_n 3, 1) := by decide +kernel
theorem dX10_name_163 : decode cX10_name 163 = .ok (.iconst 2, 1) := by decide +kernel
theorem dX10_name_164 : decode cX10_name 164 = .ok (.if_icmp .ne 23, 3) := by decide +kernel
theorem dX10_name_167 : decode cX10_name 167 = .ok (.aload_n 0, 1) := by decide +kernel
theorem dX10_name_168 : decode cX10_name 168 = .ok (.getfield 62, 3) := by decide +kernel
theorem dX10_name_171 : decode cX10_name 171 = .ok (.iload_n 1, 1) := by decide +kernel
theorem dX10_name_172 : decode cX10_name 172 = .ok (.baload, 1) := by decide +kernel
theorem dX10_name_173 : decode cX10_name 173 = .ok (.ifCond .ne 14, 3) := by decide +kernel
theorem dX10_name_176 : decode cX10_name 176 = .ok (.aload_n 0, 1) := by decide +kernel
theorem dX10_name_177 : decode cX10_name 177 = .ok (.aload_n 0, 1) := by decide +kernel
theorem dX10_name_178 : decode cX10_name 178 = .ok (.getfield 59, 3) := by decide +kernel
theorem dX10_name_181 : decode cX10_name 181 = .ok (.iload_n 1, 1) := by decide +kernel
theorem dX10_name_182 : decode cX10_name 182 = .ok (.iaload, 1) := by decide +kernel
theorem dX10_name_183 : decode cX10_name 183 = .ok (.iload_n 2, 1) := by decide +kernel
theorem dX10_name_184 : decode cX10_name 184 = .ok (.invokevirtual 160, 3) := by decide +kernel
theorem dX10_name_187 : decode cX10_name 187 = .ok (.aload_n 0, 1) := by decide +kernel
theorem dX10_name_188 : decode cX10_name 188 = .ok (.aload_n 0, 1) := by decide +kernel
theorem dX10_name_189 : decode cX10_name 189 = .ok (.getfield 59, 3) := by decide +kernel
theorem dX10_name_192 : decode cX10_name 192 = .ok (.iload_n 1, 1) := by decide +kernel
theorem dX10_name_193 : decode cX10_name 193 = .ok (.iaload, 1) := by decide +kernel
theorem dX10_name_194 : decode cX10_name 194 = .ok (.invokevirtual 163, 3) := by decide +kernel
theorem dX10_name_197 : decode cX10_name 197 = .ok (.aload_n 0, 1) := by decide +kernel
theorem dX10_name_198 : decode cX10_name 198 = .ok (.getfield 148, 3) := by decide +kernel
theorem dX10_name_201 : decode cX10_name 201 = .ok (.ireturn, 1) := by decide +kernel
theorem dX10_rowAt_0 : decode cX10_rowAt 0 = .ok (.iload_n 2, 1) := by decide +kernel
theorem dX10_rowAt_1 : decode cX10_rowAt 1 = .ok (.iconst 0, 1) := by decide +kernel
theorem dX10_rowAt_2 : decode cX10_rowAt 2 = .ok (.bipush 11, 2) := by decide +kernel
theorem dX10_rowAt_4 : decode cX10_rowAt 4 = .ok (.invokestatic 102, 3) := by decide +kernel
theorem dX10_rowAt_7 : decode cX10_rowAt 7 = .ok (.ifCond .eq 17, 3) := by decide +kernel
theorem dX10_rowAt_10 : decode cX10_rowAt 10 = .ok (.aload_n 0, 1) := by decide +kernel
theorem dX10_rowAt_11 : decode cX10_rowAt 11 = .ok (.getfield 53, 3) := by decide +kernel
theorem dX10_rowAt_14 : decode cX10_rowAt 14 = .ok (.bipush 12, 2) := by decide +kernel
theorem dX10_rowAt_16 : decode cX10_rowAt 16 = .ok (.iload_n 1, 1) := by decide +kernel
theorem dX10_rowAt_17 : decode cX10_rowAt 17 = .ok (.imul, 1) := by decide +kernel
theorem dX10_rowAt_18 : decode cX10_rowAt 18 = .ok (.iload_n 2, 1) := by decide +kernel
theorem dX10_rowAt_19 : decode cX10_rowAt 19 = .ok (.iadd, 1) := by decide +kernel
theorem dX10_rowAt_20 : decode cX10_rowAt 20 = .ok (.iaload, 1) := by decide +kernel
theorem dX10_rowAt_21 : decode cX10_rowAt 21 = .ok (.goto 4, 3) := by decide +kernel
theorem dX10_rowAt_24 : decode cX10_rowAt 24 = .ok (.iconst 0, 1) := by decide +kernel
theorem dX10_rowAt_25 : decode cX10_rowAt 25 = .ok (.ireturn, 1) := by decide +kernel
theorem dX10_wrong_0 : decode cX10_wrong 0 = .ok (.aload_n 0, 1) := by decide +kernel
theorem dX10_wrong_1 : decode cX10_wrong 1 = .ok (.iload_n 1, 1) := by decide +kernel
theorem dX10_wrong_2 : decode cX10_wrong 2 = .ok (.invokevirtual 141, 3) := by decide +kernel
theorem dX10_wrong_5 : decode cX10_wrong 5 = .ok (.istore 4, 2) := by decide +kernel
theorem dX10_wrong_7 : decode cX10_wrong 7 = .ok (.iload 4, 2) := by decide +kernel
theorem dX10_wrong_9 : decode cX10_wrong 9 = .ok (.iconst 1, 1) := by decide +kernel
theorem dX10_wrong_10 : decode cX10_wrong 10 = .ok (.if_icmp .eq 13, 3) := by decide +kernel
theorem dX10_wrong_13 : decode cX10_wrong 13 = .ok (.iload 4, 2) := by decide +kernel
theorem dX10_wrong_15 : decode cX10_wrong 15 = .ok (.iconst 2, 1) := by decide +kernel
theorem dX10_wrong_16 : decode cX10_wrong 16 = .ok (.if_icmp .eq 7, 3) := by decide +kernel
theorem dX10_wrong_19 : decode cX10_wrong 19 = .ok (.iconst 1, 1) := by decide +kernel
theorem dX10_wrong_20 : decode cX10_wrong 20 = .ok (.goto 37, 3) := by decide +kernel
theorem dX10_wrong_23 : decode cX10_wrong 23 = .ok (.aload_n 0, 1) := by decide +kernel
theorem dX10_wrong_24 : decode cX10_wrong 24 = .ok (.iload_n 1, 1) := by decide +kernel
theorem dX10_wrong_25 : decode cX10_wrong 25 = .ok (.iload_n 2, 1) := by decide +kernel
theorem dX10_wrong_26 : decode cX10_wrong 26 = .ok (.invokevirtual 166, 3) := by decide +kernel
theorem dX10_wrong_29 : decode cX10_wrong 29 = .ok (.ifCond .ne 7, 3) := by decide +kernel
theorem dX10_wrong_32 : decode cX10_wrong 32 = .ok (.iconst 3, 1) := by decide +kernel
theorem dX10_wrong_33 : decode cX10_wrong 33 = .ok (.goto 24, 3) := by decide +kernel
theorem dX10_wrong_36 : decode cX10_wrong 36 = .ok (.iload_n 3, 1) := by decide +kernel
theorem dX10_wrong_37 : decode cX10_wrong 37 = .ok (.iconst 0, 1) := by decide +kernel
theorem dX10_wrong_38 : decode cX10_wrong 38 = .ok (.aload_n 0, 1) := by decide +kernel
theorem dX10_wrong_39 : decode cX10_wrong 39 = .ok (.iload_n 1, 1) := by decide +kernel
theorem dX10_wrong_40 : decode cX10_wrong 40 = .ok (.iload_n 2, 1) := by decide +kernel
theorem dX10_wrong_41 : decode cX10_wrong 41 = .ok (.invokevirtual 166, 3) := by decide +kernel
theorem dX10_wrong_44 : decode cX10_wrong 44 = .ok (.iconst 1, 1) := by decide +kernel
theorem dX10_wrong_45 : decode cX10_wrong 45 = .ok (.isub, 1) := by decide +kernel
theorem dX10_wrong_46 : decode cX10_wrong 46 = .ok (.invokestatic 102, 3) := by decide +kernel
theorem dX10_wrong_49 : decode cX10_wrong 49 = .ok (.ifCond .ne 7, 3) := by decide +kernel
theorem dX10_wrong_52 : decode cX10_wrong 52 = .ok (.iconst 5, 1) := by decide +kernel
theorem dX10_wrong_53 : decode cX10_wrong 53 = .ok (.goto 4, 3) := by decide +kernel
theorem dX10_wrong_56 : decode cX10_wrong 56 = .ok (.iconst 0, 1) := by decide +kernel
theorem dX10_wrong_57 : decode cX10_wrong 57 = .ok (.ireturn, 1) := by decide +kernel
theorem dX10_read_0 : decode cX10_read 0 = .ok (.aload_n 0, 1) := by decide +kernel
theorem dX10_read_1 : decode cX10_read 1 = .ok (.iload_n 1, 1) := by decide +kernel
theorem dX10_read_2 : decode cX10_read 2 = .ok (.iload_n 2, 1) := by decide +kernel
theorem dX10_read_3 : decode cX10_read 3 = .ok (.iload_n 3, 1) := by decide +kernel
theorem dX10_read_4 : decode cX10_read 4 = .ok (.invokevirtual 170, 3) := by decide +kernel
theorem dX10_read_7 : decode cX10_read 7 = .ok (.istore 4, 2) := by decide +kernel
theorem dX10_read_9 : decode cX10_read 9 = .ok (.iload 4, 2) := by decide +kernel
theorem dX10_read_11 : decode cX10_read 11 = .ok (.ifCond .le 14, 3) := by decide +kernel
theorem dX10_read_14 : decode cX10_read 14 = .ok (.aload_n 0, 1) := by decide +kernel
theorem dX10_read_15 : decode cX10_read 15 = .ok (.iload 4, 2) := by decide +kernel
theorem dX10_read_17 : decode cX10_read 17 = .ok (.iload_n 1, 1) := by decide +kernel
theorem dX10_read_18 : decode cX10_read 18 = .ok (.iload_n 2, 1) := by decide +kernel
theorem dX10_read_19 : decode cX10_read 19 = .ok (.invokevirtual 174, 3) := by decide +kernel
theorem dX10_read_22 : decode cX10_read 22 = .ok (.goto 18, 3) := by decide +kernel
theorem dX10_read_25 : decode cX10_read 25 = .ok (.aload_n 0, 1) := by decide +kernel
theorem dX10_read_26 : decode cX10_read 26 = .ok (.getfield 56, 3) := by decide +kernel
theorem dX10_read_29 : decode cX10_read 29 = .ok (.iconst 4, 1) := by decide +kernel
theorem dX10_read_30 : decode cX10_read 30 = .ok (.bipush 12, 2) := by decide +kernel
theorem dX10_read_32 : decode cX10_read 32 = .ok (.iload_n 1, 1) := by decide +kernel
theorem dX10_read_33 : decode cX10_read 33 = .ok (.imul, 1) := by decide +kernel
theorem dX10_read_34 : decode cX10_read 34 = .ok (.iload_n 2, 1) := by decide +kernel
theorem dX10_read_35 : decode cX10_read 35 = .ok (.iadd, 1) := by decide +kernel
theorem dX10_read_36 : decode cX10_read 36 = .ok (.imul, 1) := by decide +kernel
theorem dX10_read_37 : decode cX10_read 37 = .ok (.iload_n 3, 1) := by decide +kernel
theorem dX10_read_38 : decode cX10_read 38 = .ok (.iadd, 1) := by decide +kernel
theorem dX10_read_39 : decode cX10_read 39 = .ok (.iaload, 1) := by decide +kernel
theorem dX10_read_40 : decode cX10_read 40 = .ok (.ireturn, 1) := by decide +kernel
theorem dX10_write_0 : decode cX10_write 0 = .ok (.aload_n 0, 1) := by decide +kernel
theorem dX10_write_1 : decode cX10_write 1 = .ok (.iload_n 1, 1) := by decide +kernel
theorem dX10_write_2 : decode cX10_write 2 = .ok (.iload_n 2, 1) := by decide +kernel
theorem dX10_write_3 : decode cX10_write 3 = .ok (.iload_n 3, 1) := by decide +kernel
theorem dX10_write_4 : decode cX10_write 4 = .ok (.invokevirtual 170, 3) := by decide +kernel
theorem dX10_write_7 : decode cX10_write 7 = .ok (.istore 5, 2) := by decide +kernel
theorem dX10_write_9 : decode cX10_write 9 = .ok (.iload 5, 2) := by decide +kernel
theorem dX10_write_11 : decode cX10_write 11 = .ok (.ifCond .le 12, 3) := by decide +kernel
theorem dX10_write_14 : decode cX10_write 14 = .ok (.aload_n 0, 1) := by decide +kernel
theorem dX10_write_15 : decode cX10_write 15 = .ok (.iload 5, 2) := by decide +kernel
theorem dX10_write_17 : decode cX10_write 17 = .ok (.iload_n 1, 1) := by decide +kernel
theorem dX10_write_18 : decode cX10_write 18 = .ok (.iload_n 2, 1) := by decide +kernel
theorem dX10_write_19 : decode cX10_write 19 = .ok (.invokevirtual 174, 3) := by decide +kernel
theorem dX10_write_22 : decode cX10_write 22 = .ok (.ireturn, 1) := by decide +kernel
theorem dX10_write_23 : decode cX10_write 23 = .ok (.aload_n 0, 1) := by decide +kernel
theorem dX10_write_24 : decode cX10_write 24 = .ok (.getfield 56, 3) := by decide +kernel
theorem dX10_write_27 : decode cX10_write 27 = .ok (.iconst 4, 1) := by decide +kernel
theorem dX10_write_28 : decode cX10_write 28 = .ok (.bipush 12, 2) := by decide +kernel
theorem dX10_write_30 : decode cX10_write 30 = .ok (.iload_n 1, 1) := by decide +kernel
theorem dX10_write_31 : decode cX10_write 31 = .ok (.imul, 1) := by decide +kernel
theorem dX10_write_32 : decode cX10_write 32 = .ok (.iload_n 2, 1) := by decide +kernel
theorem dX10_write_33 : decode cX10_write 33 = .ok (.iadd, 1) := by decide +kernel
theorem dX10_write_34 : decode cX10_write 34 = .ok (.imul, 1) := by decide +kernel
theorem dX10_write_35 : decode cX10_write 35 = .ok (.iload_n 3, 1) := by decide +kernel
theorem dX10_write_36 : decode cX10_write 36 = .ok (.iadd, 1) := by decide +kernel
theorem dX10_write_37 : decode cX10_write 37 = .ok (.iload 4, 2) := by decide +kernel
theorem dX10_write_39 : decode cX10_write 39 = .ok (.iastore, 1) := by decide +kernel
theorem dX10_write_40 : decode cX10_write 40 = .ok (.iload 4, 2) := by decide +kernel
theorem dX10_write_42 : decode cX10_write 42 = .ok (.ireturn, 1) := by decide +kernel
theorem dX10_leave_0 : decode cX10_leave 0 = .ok (.aload_n 0, 1) := by decide +kernel
theorem dX10_leave_1 : decode cX10_leave 1 = .ok (.getfield 65, 3) := by decide +kernel
theorem dX10_leave_4 : decode cX10_leave 4 = .ok (.iload_n 1, 1) := by decide +kernel
theorem dX10_leave_5 : decode cX10_leave 5 = .ok (.iaload, 1) := by decide +kernel
theorem dX10_leave_6 : decode cX10_leave 6 = .ok (.istore_n 2, 1) := by decide +kernel
theorem dX10_leave_7 : decode cX10_leave 7 = .ok (.iload_n 2, 1) := by decide +kernel
theorem dX10_leave_8 : decode cX10_leave 8 = .ok (.ifCond .ne 4, 3) := by decide +kernel
theorem dX10_leave_11 : decode cX10_leave 11 = .ok (.return_, 1) := by decide +kernel
theorem dX10_leave_12 : decode cX10_leave 12 = .ok (.aload_n 0, 1) := by decide +kernel
theorem dX10_leave_13 : decode cX10_leave 13 = .ok (.getfield 68, 3) := by decide +kernel
theorem dX10_leave_16 : decode cX10_leave 16 = .ok (.iload_n 2, 1) := by decide +kernel
theorem dX10_leave_17 : decode cX10_leave 17 = .ok (.iaload, 1) := by decide +kernel
theorem dX10_leave_18 : decode cX10_leave 18 = .ok (.iload_n 1, 1) := by decide +kernel
theorem dX10_leave_19 : decode cX10_leave 19 = .ok (.if_icmp .ne 18, 3) := by decide +kernel
theorem dX10_leave_22 : decode cX10_leave 22 = .ok (.aload_n 0, 1) := by decide +kernel
theorem dX10_leave_23 : decode cX10_leave 23 = .ok (.getfield 68, 3) := by decide +kernel
theorem dX10_leave_26 : decode cX10_leave 26 = .ok (.iload_n 2, 1) := by decide +kernel
theorem dX10_leave_27 : decode cX10_leave 27 = .ok (.aload_n 0, 1) := by decide +kernel
theorem dX10_leave_28 : decode cX10_leave 28 = .ok (.getfield 71, 3) := by decide +kernel
theorem dX10_leave_31 : decode cX10_leave 31 = .ok (.iload_n 1, 1) := by decide +kernel
theorem dX10_leave_32 : decode cX10_leave 32 = .ok (.iaload, 1) := by decide +kernel
theorem dX10_leave_33 : decode cX10_leave 33 = .ok (.iastore, 1) := by decide +kernel
theorem dX10_leave_34 : decode cX10_leave 34 = .ok (.goto 42, 3) := by decide +kernel
theorem dX10_leave_37 : decode cX10_leave 37 = .ok (.aload_n 0, 1) := by decide +kernel
theorem dX10_leave_38 : decode cX10_leave 38 = .ok (.getfield 68, 3) := by decide +kernel
theorem dX10_leave_41 : decode cX10_leave 41 = .ok (.iload_n 2, 1) := by decide +kernel
theorem dX10_leave_42 : decode cX10_leave 42 = .ok (.iaload, 1) := by decide +kernel
theorem dX10_leave_43 : decode cX10_leave 43 = .ok (.istore_n 3, 1) := by decide +kernel
theorem dX10_leave_44 : decode cX10_leave 44 = .ok (.aload_n 0, 1) := by decide +kernel
theorem dX10_leave_45 : decode cX10_leave 45 = .ok (.getfield 71, 3) := by decide +kernel
theorem dX10_leave_48 : decode cX10_leave 48 = .ok (.iload_n 3, 1) := by decide +kernel
theorem dX10_leave_49 : decode cX10_leave 49 = .ok (.iaload, 1) := by decide +kernel
theorem dX10_leave_50 : decode cX10_leave 50 = .ok (.iload_n 1, 1) := by decide +kernel
theorem dX10_leave_51 : decode cX10_leave 51 = .ok (.if_icmp .eq 13, 3) := by decide +kernel
theorem dX10_leave_54 : decode cX10_leave 54 = .ok (.aload_n 0, 1) := by decide +kernel
theorem dX10_leave_55 : decode cX10_leave 55 = .ok (.getfield 71, 3) := by decide +kernel
theorem dX10_leave_58 : decode cX10_leave 58 = .ok (.iload_n 3, 1) := by decide +kernel
theorem dX10_leave_59 : decode cX10_leave 59 = .ok (.iaload, 1) := by decide +kernel
theorem dX10_leave_60 : decode cX10_leave 60 = .ok (.istore_n 3, 1) := by decide +kernel
theorem dX10_leave_61 : decode cX10_leave 61 = .ok (.goto (-17), 3) := by decide +kernel
theorem dX10_leave_64 : decode cX10_leave 64 = .ok (.aload_n 0, 1) := by decide +kernel
theorem dX10_leave_65 : decode cX10_leave 65 = .ok (.getfield 71, 3) := by decide +kernel
theorem dX10_leave_68 : decode cX10_leave 68 = .ok (.iload_n 3, 1) := by decide +kernel
theorem dX10_leave_69 : decode cX10_leave 69 = .ok (.aload_n 0, 1) := by decide +kernel
theorem dX10_leave_70 : decode cX10_leave 70 = .ok (.getfield 71, 3) := by decide +kernel
theorem dX10_leave_73 : decode cX10_leave 73 = .ok (.iload_n 1, 1) := by decide +kernel
theorem dX10_leave_74 : decode cX10_leave 74 = .ok (.iaload, 1) := by decide +kernel
theorem dX10_leave_75 : decode cX10_leave 75 = .ok (.iastore, 1) := by decide +kernel
theorem dX10_leave_76 : decode cX10_leave 76 = .ok (.aload_n 0, 1) := by decide +kernel
theorem dX10_leave_77 : decode cX10_leave 77 = .ok (.getfield 65, 3) := by decide +kernel
theorem dX10_leave_80 : decode cX10_leave 80 = .ok (.iload_n 1, 1) := by decide +kernel
theorem dX10_leave_81 : decode cX10_leave 81 = .ok (.iconst 0, 1) := by decide +kernel
theorem dX10_leave_82 : decode cX10_leave 82 = .ok (.iastore, 1) := by decide +kernel
theorem dX10_leave_83 : decode cX10_leave 83 = .ok (.aload_n 0, 1) := by decide +kernel
theorem dX10_leave_84 : decode cX10_leave 84 = .ok (.getfield 71, 3) := by decide +kernel
theorem dX10_leave_87 : decode cX10_leave 87 = .ok (.iload_n 1, 1) := by decide +kernel
theorem dX10_leave_88 : decode cX10_leave 88 = .ok (.iconst 0, 1) := by decide +kernel
theorem dX10_leave_89 : decode cX10_leave 89 = .ok (.iastore, 1) := by decide +kernel
theorem dX10_leave_90 : decode cX10_leave 90 = .ok (.return_, 1) := by decide +kernel
theorem dX10_move_0 : decode cX10_move 0 = .ok (.aload_n 0, 1) := by decide +kernel
theorem dX10_move_1 : decode cX10_move 1 = .ok (.iload_n 1, 1) := by decide +kernel
theorem dX10_move_2 : decode cX10_move 2 = .ok (.invokevirtual 141, 3) := by decide +kernel
theorem dX10_move_5 : decode cX10_move 5 = .ok (.iconst 2, 1) := by decide +kernel
theorem dX10_move_6 : decode cX10_move 6 = .ok (.if_icmp .ne 16, 3) := by decide +kernel
theorem dX10_move_9 : decode cX10_move 9 = .ok (.iload_n 2, 1) := by decide +kernel
theorem dX10_move_10 : decode cX10_move 10 = .ok (.ifCond .eq 21, 3) := by decide +kernel
theorem dX10_move_13 : decode cX10_move 13 = .ok (.aload_n 0, 1) := by decide +kernel
theorem dX10_move_14 : decode cX10_move 14 = .ok (.iload_n 2, 1) := by decide +kernel
theorem dX10_move_15 : decode cX10_move 15 = .ok (.invokevirtual 141, 3) := by decide +kernel
theorem dX10_move_18 : decode cX10_move 18 = .ok (.iconst 2, 1) := by decide +kernel
theorem dX10_move_19 : decode cX10_move 19 = .ok (.if_icmp .eq 12, 3) := by decide +kernel
theorem dX10_move_22 : decode cX10_move 22 = .ok (.aload_n 0, 1) := by decide +kernel
theorem dX10_move_23 : decode cX10_move 23 = .ok (.bipush 6, 2) := by decide +kernel
theorem dX10_move_25 : decode cX10_move 25 = .ok (.iload_n 1, 1) := by decide +kernel
theorem dX10_move_26 : decode cX10_move 26 = .ok (.iload_n 2, 1) := by decide +kernel
theorem dX10_move_27 : decode cX10_move 27 = .ok (.invokevirtual 174, 3) := by decide +kernel
theorem dX10_move_30 : decode cX10_move 30 = .ok (.ireturn, 1) := by decide +kernel
theorem dX10_move_31 : decode cX10_move 31 = .ok (.iload_n 2, 1) := by decide +kernel
theorem dX10_move_32 : decode cX10_move 32 = .ok (.istore_n 3, 1) := by decide +kernel
theorem dX10_move_33 : decode cX10_move 33 = .ok (.iload_n 3, 1) := by decide +kernel
theorem dX10_move_34 : decode cX10_move 34 = .ok (.ifCond .eq 27, 3) := by decide +kernel
theorem dX10_move_37 : decode cX10_move 37 = .ok (.iload_n 3, 1) := by decide +kernel
theorem dX10_move_38 : decode cX10_move 38 = .ok (.iload_n 1, 1) := by decide +kernel
theorem dX10_move_39 : decode cX10_move 39 = .ok (.if_icmp .ne 12, 3) := by decide +kernel
theorem dX10_move_42 : decode cX10_move 42 = .ok (.aload_n 0, 1) := by decide +kernel
theorem dX10_move_43 : decode cX10_move 43 = .ok (.bipush 7, 2) := by decide +kernel
theorem dX10_move_45 : decode cX10_move 45 = .ok (.iload_n 1, 1) := by decide +kernel
theorem dX10_move_46 : decode cX10_move 46 = .ok (.iload_n 2, 1) := by decide +kernel
theorem dX10_move_47 : decode cX10_move 47 = .ok (.invokevirtual 174, 3) := by decide +kernel
theorem dX10_move_50 : decode cX10_move 50 = .ok (.ireturn, 1) := by decide +kernel
theorem dX10_move_51 : decode cX10_move 51 = .ok (.aload_n 0, 1) := by decide +kernel
theorem dX10_move_52 : decode cX10_move 52 = .ok (.getfield 65, 3) := by decide +kernel
theorem dX10_move_55 : decode cX10_move 55 = .ok (.iload_n 3, 1) := by decide +kernel
theorem dX10_move_56 : decode cX10_move 56 = .ok (.iaload, 1) := by decide +kernel
theorem dX10_move_57 : decode cX10_move 57 = .ok (.istore_n 3, 1) := by decide +kernel
theorem dX10_move_58 : decode cX10_move 58 = .ok (.goto (-25), 3) := by decide +kernel
theorem dX10_move_61 : decode cX10_move 61 = .ok (.aload_n 0, 1) := by decide +kernel
theorem dX10_move_62 : decode cX10_move 62 = .ok (.iload_n 1, 1) := by decide +kernel
theorem dX10_move_63 : decode cX10_move 63 = .ok (.invokevirtual 177, 3) := by decide +kernel
theorem dX10_move_66 : decode cX10_move 66 = .ok (.iload_n 2, 1) := by decide +kernel
theorem dX10_move_67 : decode cX10_move 67 = .ok (.ifCond .eq 29, 3) := by decide +kernel
theorem dX10_move_70 : decode cX10_move 70 = .ok (.aload_n 0, 1) := by decide +kernel
theorem dX10_move_71 : decode cX10_move 71 = .ok (.getfield 65, 3) := by decide +kernel
theorem dX10_move_74 : decode cX10_move 74 = .ok (.iload_n 1, 1) := by decide +kernel
theorem dX10_move_75 : decode cX10_move 75 = .ok (.iload_n 2, 1) := by decide +kernel
theorem dX10_move_76 : decode cX10_move 76 = .ok (.iastore, 1) := by decide +kernel
theorem dX10_move_77 : decode cX10_move 77 = .ok (.aload_n 0, 1) := by decide +kernel
theorem dX10_move_78 : decode cX10_move 78 = .ok (.getfield 71, 3) := by decide +kernel
theorem dX10_move_81 : decode cX10_move 81 = .ok (.iload_n 1, 1) := by decide +kernel
theorem dX10_move_82 : decode cX10_move 82 = .ok (.aload_n 0, 1) := by decide +kernel
theorem dX10_move_83 : decode cX10_move 83 = .ok (.getfield 68, 3) := by decide +kernel
theorem dX10_move_86 : decode cX10_move 86 = .ok (.iload_n 2, 1) := by decide +kernel
theorem dX10_move_87 : decode cX10_move 87 = .ok (.iaload, 1) := by decide +kernel
theorem dX10_move_88 : decode cX10_move 88 = .ok (.iastore, 1) := by decide +kernel
theorem dX10_move_89 : decode cX10_move 89 = .ok (.aload_n 0, 1) := by decide +kernel
theorem dX10_move_90 : decode cX10_move 90 = .ok (.getfield 68, 3) := by decide +kernel
theorem dX10_move_93 : decode cX10_move 93 = .ok (.iload_n 2, 1) := by decide +kernel
theorem dX10_move_94 : decode cX10_move 94 = .ok (.iload_n 1, 1) := by decide +kernel
theorem dX10_move_95 : decode cX10_move 95 = .ok (.iastore, 1) := by decide +kernel
theorem dX10_move_96 : decode cX10_move 96 = .ok (.iconst 1, 1) := by decide +kernel
theorem dX10_move_97 : decode cX10_move 97 = .ok (.ireturn, 1) := by decide +kernel
theorem dX10_tree_0 : decode cX10_tree 0 = .ok (.aload_n 0, 1) := by decide +kernel
theorem dX10_tree_1 : decode cX10_tree 1 = .ok (.iload_n 1, 1) := by decide +kernel
theorem dX10_tree_2 : decode cX10_tree 2 = .ok (.invokevirtual 141, 3) := by decide +kernel
theorem dX10_tree_5 : decode cX10_tree 5 = .ok (.iconst 2, 1) := by decide +kernel
theorem dX10_tree_6 : decode cX10_tree 6 = .ok (.if_icmp .eq 12, 3) := by decide +kernel
theorem dX10_tree_9 : decode cX10_tree 9 = .ok (.aload_n 0, 1) := by decide +kernel
theorem dX10_tree_10 : decode cX10_tree 10 = .ok (.bipush 6, 2) := by decide +kernel
theorem dX10_tree_12 : decode cX10_tree 12 = .ok (.iload_n 1, 1) := by decide +kernel
theorem dX10_tree_13 : decode cX10_tree 13 = .ok (.iconst 0, 1) := by decide +kernel
theorem dX10_tree_14 : decode cX10_tree 14 = .ok (.invokevirtual 174, 3) := by decide +kernel
theorem dX10_tree_17 : decode cX10_tree 17 = .ok (.ireturn, 1) := by decide +kernel
theorem dX10_tree_18 : decode cX10_tree 18 = .ok (.iload_n 2, 1) := by decide +kernel
theorem dX10_tree_19 : decode cX10_tree 19 = .ok (.iconst 0, 1) := by decide +kernel
theorem dX10_tree_20 : decode cX10_tree 20 = .ok (.iconst 2, 1) := by decide +kernel
theorem dX10_tree_21 : decode cX10_tree 21 = .ok (.invokestatic 102, 3) := by decide +kernel
theorem dX10_tree_24 : decode cX10_tree 24 = .ok (.ifCond .eq 37, 3) := by decide +kernel
theorem dX10_tree_27 : decode cX10_tree 27 = .ok (.iload_n 2, 1) := by decide +kernel
theorem dX10_tree_28 : decode cX10_tree 28 = .ok (.ifCond .ne 12, 3) := by decide +kernel
theorem dX10_tree_31 : decode cX10_tree 31 = .ok (.aload_n 0, 1) := by decide +kernel
theorem dX10_tree_32 : decode cX10_tree 32 = .ok (.getfield 65, 3) := by decide +kernel
theorem dX10_tree_35 : decode cX10_tree 35 = .ok (.iload_n 1, 1) := by decide +kernel
theorem dX10_tree_36 : decode cX10_tree 36 = .ok (.iaload, 1) := by decide +kernel
theorem dX10_tree_37 : decode cX10_tree 37 = .ok (.goto 23, 3) := by decide +kernel
theorem dX10_tree_40 : decode cX10_tree 40 = .ok (.iload_n 2, 1) := by decide +kernel
theorem dX10_tree_41 : decode cX10_tree 41 = .ok (.iconst 1, 1) := by decide +kernel
theorem dX10_tree_42 : decode cX10_tree 42 = .ok (.if_icmp .ne 12, 3) := by decide +kernel
theorem dX10_tree_45 : decode cX10_tree 45 = .ok (.aload_n 0, 1) := by decide +kernel
theorem dX10_tree_46 : decode cX10_tree 46 = .ok (.getfield 68, 3) := by decide +kernel
theorem dX10_tree_49 : decode cX10_tree 49 = .ok (.iload_n 1, 1) := by decide +kernel
theorem dX10_tree_50 : decode cX10_tree 50 = .ok (.iaload, 1) := by decide +kernel
theorem dX10_tree_51 : decode cX10_tree 51 = .ok (.goto 9, 3) := by decide +kernel
theorem dX10_tree_54 : decode cX10_tree 54 = .ok (.aload_n 0, 1) := by decide +kernel
theorem dX10_tree_55 : decode cX10_tree 55 = .ok (.getfield 71, 3) := by decide +kernel
theorem dX10_tree_58 : decode cX10_tree 58 = .ok (.iload_n 1, 1) := by decide +kernel
theorem dX10_tree_59 : decode cX10_tree 59 = .ok (.iaload, 1) := by decide +kernel
theorem dX10_tree_60 : decode cX10_tree 60 = .ok (.ireturn, 1) := by decide +kernel
theorem dX10_tree_61 : decode cX10_tree 61 = .ok (.iconst 0, 1) := by decide +kernel
theorem dX10_tree_62 : decode cX10_tree 62 = .ok (.istore_n 3, 1) := by decide +kernel
theorem dX10_tree_63 : decode cX10_tree 63 = .ok (.aload_n 0, 1) := by decide +kernel
theorem dX10_tree_64 : decode cX10_tree 64 = .ok (.getfield 68, 3) := by decide +kernel
theorem dX10_tree_67 : decode cX10_tree 67 = .ok (.iload_n 1, 1) := by decide +kernel
theorem dX10_tree_68 : decode cX10_tree 68 = .ok (.iaload, 1) := by decide +kernel
theorem dX10_tree_69 : decode cX10_tree 69 = .ok (.istore 4, 2) := by decide +kernel
theorem dX10_tree_71 : decode cX10_tree 71 = .ok (.iload 4, 2) := by decide +kernel
theorem dX10_tree_73 : decode cX10_tree 73 = .ok (.ifCond .eq 18, 3) := by decide +kernel
theorem dX10_tree_76 : decode cX10_tree 76 = .ok (.iinc 3 1, 3) := by decide +kernel
theorem dX10_tree_79 : decode cX10_tree 79 = .ok (.aload_n 0, 1) := by decide +kernel
theorem dX10_tree_80 : decode cX10_tree 80 = .ok (.getfield 71, 3) := by decide +kernel
theorem dX10_tree_83 : decode cX10_tree 83 = .ok (.iload 4, 2) := by decide +kernel
theorem dX10_tree_85 : decode cX10_tree 85 = .ok (.iaload, 1) := by decide +kernel
theorem dX10_tree_86 : decode cX10_tree 86 = .ok (.istore 4, 2) := by decide +kernel
theorem dX10_tree_88 : decode cX10_tree 88 = .ok (.goto (-17), 3) := by decide +kernel
theorem dX10_tree_91 : decode cX10_tree 91 = .ok (.iload_n 3, 1) := by decide +kernel
theorem dX10_tree_92 : decode cX10_tree 92 = .ok (.ireturn, 1) := by decide +kernel
theorem dX10_isOf_0 : decode cX10_isOf 0 = .ok (.iconst 0, 1) := by decide +kernel
theorem dX10_isOf_1 : decode cX10_isOf 1 = .ok (.istore_n 3, 1) := by decide +kernel
theorem dX10_isOf_2 : decode cX10_isOf 2 = .ok (.iconst 0, 1) := by decide +kernel
theorem dX10_isOf_3 : decode cX10_isOf 3 = .ok (.istore 4, 2) := by decide +kernel
theorem dX10_isOf_5 : decode cX10_isOf 5 = .ok (.aload_n 0, 1) := by decide +kernel
theorem dX10_isOf_6 : decode cX10_isOf 6 = .ok (.iload_n 1, 1) := by decide +kernel
theorem dX10_isOf_7 : decode cX10_isOf 7 = .ok (.invokevirtual 141, 3) := by decide +kernel
theorem dX10_isOf_10 : decode cX10_isOf 10 = .ok (.iconst 2, 1) := by decide +kernel
theorem dX10_isOf_11 : decode cX10_isOf 11 = .ok (.if_icmp .ne 46, 3) := by decide +kernel
theorem dX10_isOf_14 : decode cX10_isOf 14 = .ok (.iload 4, 2) := by decide +kernel
theorem dX10_isOf_16 : decode cX10_isOf 16 = .ok (.aload_n 0, 1) := by decide +kernel
theorem dX10_isOf_17 : decode cX10_isOf 17 = .ok (.getfield 47, 3) := by decide +kernel
theorem dX10_isOf_20 : decode cX10_isOf 20 = .ok (.iload_n 1, 1) := by decide +kernel
theorem dX10_isOf_21 : decode cX10_isOf 21 = .ok (.iaload, 1) := by decide +kernel
theorem dX10_isOf_22 : decode cX10_isOf 22 = .ok (.if_icmp .ge 35, 3) := by decide +kernel
theorem dX10_isOf_25 : decode cX10_isOf 25 = .ok (.iload_n 3, 1) := by decide +kernel
theorem dX10_isOf_26 : decode cX10_isOf 26 = .ok (.ifCond .ne 19, 3) := by decide +kernel
theorem dX10_isOf_29 : decode cX10_isOf 29 = .ok (.aload_n 0, 1) := by decide +kernel
theorem dX10_isOf_30 : decode cX10_isOf 30 = .ok (.getfield 50, 3) := by decide +kernel
theorem dX10_isOf_33 : decode cX10_isOf 33 = .ok (.bipush 41, 2) := by decide +kernel
theorem dX10_isOf_35 : decode cX10_isOf 35 = .ok (.iload_n 1, 1) := by decide +kernel
theorem dX10_isOf_36 : decode cX10_isOf 36 = .ok (.imul, 1) := by decide +kernel
theorem dX10_isOf_37 : decode cX10_isOf 37 = .ok (.iload 4, 2) := by decide +kernel
theorem dX10_isOf_39 : decode cX10_isOf 39 = .ok (.iadd, 1) := by decide +kernel
theorem dX10_isOf_40 : decode cX10_isOf 40 = .ok (.iaload, 1) := by decide +kernel
theorem dX10_isOf_41 : decode cX10_isOf 41 = .ok (.iload_n 2, 1) := by decide +kernel
theorem dX10_isOf_42 : decode cX10_isOf 42 = .ok (.if_icmp .ne 7, 3) := by decide +kernel
theorem dX10_isOf_45 : decode cX10_isOf 45 = .ok (.iconst 1, 1) := by decide +kernel
theorem dX10_isOf_46 : decode cX10_isOf 46 = .ok (.goto 4, 3) := by decide +kernel
theorem dX10_isOf_49 : decode cX10_isOf 49 = .ok (.iconst 0, 1) := by decide +kernel
theorem dX10_isOf_50 : decode cX10_isOf 50 = .ok (.istore_n 3, 1) := by decide +kernel
theorem dX10_isOf_51 : decode cX10_isOf 51 = .ok (.iinc 4 1, 3) := by decide +kernel
theorem dX10_isOf_54 : decode cX10_isOf 54 = .ok (.goto (-49), 3) := by decide +kernel
theorem dX10_isOf_57 : decode cX10_isOf 57 = .ok (.iload_n 3, 1) := by decide +kernel
theorem dX10_isOf_58 : decode cX10_isOf 58 = .ok (.ifCond .eq 7, 3) := by decide +kernel
theorem dX10_isOf_61 : decode cX10_isOf 61 = .ok (.iconst 1, 1) := by decide +kernel
theorem dX10_isOf_62 : decode cX10_isOf 62 = .ok (.goto 4, 3) := by decide +kernel
theorem dX10_isOf_65 : decode cX10_isOf 65 = .ok (.iconst 0, 1) := by decide +kernel
theorem dX10_isOf_66 : decode cX10_isOf 66 = .ok (.ireturn, 1) := by decide +kernel
theorem dX10_provides_0 : decode cX10_provides 0 = .ok (.aload_n 0, 1) := by decide +kernel
theorem dX10_provides_1 : decode cX10_provides 1 = .ok (.iload_n 1, 1) := by decide +kernel
theorem dX10_provides_2 : decode cX10_provides 2 = .ok (.invokevirtual 141, 3) := by decide +kernel
theorem dX10_provides_5 : decode cX10_provides 5 = .ok (.istore_n 3, 1) := by decide +kernel
theorem dX10_provides_6 : decode cX10_provides 6 = .ok (.iload_n 3, 1) := by decide +kernel
theorem dX10_provides_7 : decode cX10_provides 7 = .ok (.iconst 1, 1) := by decide +kernel
theorem dX10_provides_8 : decode cX10_provides 8 = .ok (.if_icmp .eq 8, 3) := by decide +kernel
theorem dX10_provides_11 : decode cX10_provides 11 = .ok (.iload_n 3, 1) := by decide +kernel
theorem dX10_provides_12 : decode cX10_provides 12 = .ok (.iconst 2, 1) := by decide +kernel
theorem dX10_provides_13 : decode cX10_provides 13 = .ok (.if_icmp .ne 12, 3) := by decide +kernel
theorem dX10_provides_16 : decode cX10_provides 16 = .ok (.aload_n 0, 1) := by decide +kernel
theorem dX10_provides_17 : decode cX10_provides 17 = .ok (.iload_n 1, 1) := by decide +kernel
theorem dX10_provides_18 : decode cX10_provides 18 = .ok (.iload_n 2, 1) := by decide +kernel
theorem dX10_provides_19 : decode cX10_provides 19 = .ok (.invokevirtual 166, 3) := by decide +kernel
theorem dX10_provides_22 : decode cX10_provides 22 = .ok (.goto 4, 3) := by decide +kernel
theorem dX10_provides_25 : decode cX10_provides 25 = .ok (.iconst 0, 1) := by decide +kernel
theorem dX10_provides_26 : decode cX10_provides 26 = .ok (.ireturn, 1) := by decide +kernel
theorem dX10_answers_0 : decode cX10_answers 0 = .ok (.aload_n 0, 1) := by decide +kernel
theorem dX10_answers_1 : decode cX10_answers 1 = .ok (.iconst 1, 1) := by decide +kernel
theorem dX10_answers_2 : decode cX10_answers 2 = .ok (.putfield 180, 3) := by decide +kernel
theorem dX10_answers_5 : decode cX10_answers 5 = .ok (.aload_n 0, 1) := by decide +kernel
theorem dX10_answers_6 : decode cX10_answers 6 = .ok (.iload_n 1, 1) := by decide +kernel
theorem dX10_answers_7 : decode cX10_answers 7 = .ok (.putfield 183, 3) := by decide +kernel
theorem dX10_answers_10 : decode cX10_answers 10 = .ok (.return_, 1) := by decide +kernel
theorem dX10_pile_0 : decode cX10_pile 0 = .ok (.aload_n 0, 1) := by decide +kernel
theorem dX10_pile_1 : decode cX10_pile 1 = .ok (.getfield 80, 3) := by decide +kernel
theorem dX10_pile_4 : decode cX10_pile 4 = .ok (.aload_n 0, 1) := by decide +kernel
theorem dX10_pile_5 : decode cX10_pile 5 = .ok (.getfield 186, 3) := by decide +kernel
theorem dX10_pile_8 : decode cX10_pile 8 = .ok (.iload_n 1, 1) := by decide +kernel
theorem dX10_pile_9 : decode cX10_pile 9 = .ok (.iastore, 1) := by decide +kernel
theorem dX10_pile_10 : decode cX10_pile 10 = .ok (.aload_n 0, 1) := by decide +kernel
theorem dX10_pile_11 : decode cX10_pile 11 = .ok (.getfield 89, 3) := by decide +kernel
theorem dX10_pile_14 : decode cX10_pile 14 = .ok (.aload_n 0, 1) := by decide +kernel
theorem dX10_pile_15 : decode cX10_pile 15 = .ok (.getfield 186, 3) := by decide +kernel
theorem dX10_pile_18 : decode cX10_pile 18 = .ok (.iload_n 2, 1) := by decide +kernel
theorem dX10_pile_19 : decode cX10_pile 19 = .ok (.iastore, 1) := by decide +kernel
theorem dX10_pile_20 : decode cX10_pile 20 = .ok (.aload_n 0, 1) := by decide +kernel
theorem dX10_pile_21 : decode cX10_pile 21 = .ok (.dup, 1) := by decide +kernel
theorem dX10_pile_22 : decode cX10_pile 22 = .ok (.getfield 186, 3) := by decide +kernel
theorem dX10_pile_25 : decode cX10_pile 25 = .ok (.iconst 1, 1) := by decide +kernel
theorem dX10_pile_26 : decode cX10_pile 26 = .ok (.iadd, 1) := by decide +kernel
theorem dX10_pile_27 : decode cX10_pile 27 = .ok (.putfield 186, 3) := by decide +kernel
theorem dX10_pile_30 : decode cX10_pile 30 = .ok (.return_, 1) := by decide +kernel
theorem dX10_runs_0 : decode cX10_runs 0 = .ok (.aload_n 0, 1) := by decide +kernel
theorem dX10_runs_1 : decode cX10_runs 1 = .ok (.getfield 189, 3) := by decide +kernel
theorem dX10_runs_4 : decode cX10_runs 4 = .ok (.bipush 12, 2) := by decide +kernel
theorem dX10_runs_6 : decode cX10_runs 6 = .ok (.if_icmp .ne 16, 3) := by decide +kernel
theorem dX10_runs_9 : decode cX10_runs 9 = .ok (.aload_n 0, 1) := by decide +kernel
theorem dX10_runs_10 : decode cX10_runs 10 = .ok (.aload_n 0, 1) := by decide +kernel
theorem dX10_runs_11 : decode cX10_runs 11 = .ok (.bipush 9, 2) := by decide +kernel
theorem dX10_runs_13 : decode cX10_runs 13 = .ok (.iload_n 2, 1) := by decide +kernel
theorem dX10_runs_14 : decode cX10_runs 14 = .ok (.iconst 0, 1) := by decide +kernel
theorem dX10_runs_15 : decode cX10_runs 15 = .ok (.invokevirtual 174, 3) := by decide +kernel
theorem dX10_runs_18 : decode cX10_runs 18 = .ok (.invokevirtual 192, 3) := by decide +kernel
theorem dX10_runs_21 : decode cX10_runs 21 = .ok (.return_, 1) := by decide +kernel
theorem dX10_runs_22 : decode cX10_runs 22 = .ok (.aload_n 0, 1) := by decide +kernel
theorem dX10_runs_23 : decode cX10_runs 23 = .ok (.getfield 83, 3) := by decide +kernel
theorem dX10_runs_26 : decode cX10_runs 26 = .ok (.aload_n 0, 1) := by decide +kernel
theorem dX10_runs_27 : decode cX10_runs 27 = .ok (.getfield 186, 3) := by decide +kernel
theorem dX10_runs_30 : decode cX10_runs 30 = .ok (.iload_n 1, 1) := by decide +kernel
theorem dX10_runs_31 : decode cX10_runs 31 = .ok (.sipush 201, 3) := by decide +kernel
theorem dX10_runs_34 : decode cX10_runs 34 = .ok (.isub, 1) := by decide +kernel
theorem dX10_runs_35 : decode cX10_runs 35 = .ok (.iastore, 1) := by decide +kernel
theorem dX10_runs_36 : decode cX10_runs 36 = .ok (.aload_n 0, 1) := by decide +kernel
theorem dX10_runs_37 : decode cX10_runs 37 = .ok (.getfield 86, 3) := by decide +kernel
theorem dX10_runs_40 : decode cX10_runs 40 = .ok (.aload_n 0, 1) := by decide +kernel
theorem dX10_runs_41 : decode cX10_runs 41 = .ok (.getfield 186, 3) := by decide +kernel
theorem dX10_runs_44 : decode cX10_runs 44 = .ok (.iconst 0, 1) := by decide +kernel
theorem dX10_runs_45 : decode cX10_runs 45 = .ok (.iastore, 1) := by decide +kernel
theorem dX10_runs_46 : decode cX10_runs 46 = .ok (.aload_n 0, 1) := by decide +kernel
theorem dX10_runs_47 : decode cX10_runs 47 = .ok (.getfield 92, 3) := by decide +kernel
theorem dX10_runs_50 : decode cX10_runs 50 = .ok (.aload_n 0, 1) := by decide +kernel
theorem dX10_runs_51 : decode cX10_runs 51 = .ok (.getfield 186, 3) := by decide +kernel
theorem dX10_runs_54 : decode cX10_runs 54 = .ok (.iload_n 3, 1) := by decide +kernel
theorem dX10_runs_55 : decode cX10_runs 55 = .ok (.iastore, 1) := by decide +kernel
theorem dX10_runs_56 : decode cX10_runs 56 = .ok (.aload_n 0, 1) := by decide +kernel
theorem dX10_runs_57 : decode cX10_runs 57 = .ok (.getfield 95, 3) := by decide +kernel
theorem dX10_runs_60 : decode cX10_runs 60 = .ok (.aload_n 0, 1) := by decide +kernel
theorem dX10_runs_61 : decode cX10_runs 61 = .ok (.getfield 186, 3) := by decide +kernel
theorem dX10_runs_64 : decode cX10_runs 64 = .ok (.iconst 0, 1) := by decide +kernel
theorem dX10_runs_65 : decode cX10_runs 65 = .ok (.iastore, 1) := by decide +kernel
theorem dX10_runs_66 : decode cX10_runs 66 = .ok (.aload_n 0, 1) := by decide +kernel
theorem dX10_runs_67 : decode cX10_runs 67 = .ok (.dup, 1) := by decide +kernel
theorem dX10_runs_68 : decode cX10_runs 68 = .ok (.getfield 189, 3) := by decide +kernel
theorem dX10_runs_71 : decode cX10_runs 71 = .ok (.iconst 1, 1) := by decide +kernel
theorem dX10_runs_72 : decode cX10_runs 72 = .ok (.iadd, 1) := by decide +kernel
theorem dX10_runs_73 : decode cX10_runs 73 = .ok (.putfield 189, 3) := by decide +kernel
theorem dX10_runs_76 : decode cX10_runs 76 = .ok (.aload_n 0, 1) := by decide +kernel
theorem dX10_runs_77 : decode cX10_runs 77 = .ok (.iconst 0, 1) := by decide +kernel
theorem dX10_runs_78 : decode cX10_runs 78 = .ok (.iload_n 2, 1) := by decide +kernel
theorem dX10_runs_79 : decode cX10_runs 79 = .ok (.invokevirtual 195, 3) := by decide +kernel
theorem dX10_runs_82 : decode cX10_runs 82 = .ok (.return_, 1) := by decide +kernel
theorem dX10_does_0 : decode cX10_does 0 = .ok (.aload_n 0, 1) := by decide +kernel
theorem dX10_does_1 : decode cX10_does 1 = .ok (.iload_n 1, 1) := by decide +kernel
theorem dX10_does_2 : decode cX10_does 2 = .ok (.invokevirtual 141, 3) := by decide +kernel
theorem dX10_does_5 : decode cX10_does 5 = .ok (.istore 4, 2) := by decide +kernel
theorem dX10_does_7 : decode cX10_does 7 = .ok (.iload 4, 2) := by decide +kernel
theorem dX10_does_9 : decode cX10_does 9 = .ok (.iconst 4, 1) := by decide +kernel
theorem dX10_does_10 : decode cX10_does 10 = .ok (.if_icmp .ne 13, 3) := by decide +kernel
theorem dX10_does_13 : decode cX10_does 13 = .ok (.aload_n 0, 1) := by decide +kernel
theorem dX10_does_14 : decode cX10_does 14 = .ok (.iload_n 1, 1) := by decide +kernel
theorem dX10_does_15 : decode cX10_does 15 = .ok (.iload_n 2, 1) := by decide +kernel
theorem dX10_does_16 : decode cX10_does 16 = .ok (.iload_n 3, 1) := by decide +kernel
theorem dX10_does_17 : decode cX10_does 17 = .ok (.invokevirtual 198, 3) := by decide +kernel
theorem dX10_does_20 : decode cX10_does 20 = .ok (.goto 27, 3) := by decide +kernel
theorem dX10_does_23 : decode cX10_does 23 = .ok (.iload 4, 2) := by decide +kernel
theorem dX10_does_25 : decode cX10_does 25 = .ok (.iconst 3, 1) := by decide +kernel
theorem dX10_does_26 : decode cX10_does 26 = .ok (.if_icmp .ne 16, 3) := by decide +kernel
theorem dX10_does_29 : decode cX10_does 29 = .ok (.aload_n 0, 1) := by decide +kernel
theorem dX10_does_30 : decode cX10_does 30 = .ok (.iload_n 1, 1) := by decide +kernel
theorem dX10_does_31 : decode cX10_does 31 = .ok (.invokevirtual 163, 3) := by decide +kernel
theorem dX10_does_34 : decode cX10_does 34 = .ok (.aload_n 0, 1) := by decide +kernel
theorem dX10_does_35 : decode cX10_does 35 = .ok (.iconst 1, 1) := by decide +kernel
theorem dX10_does_36 : decode cX10_does 36 = .ok (.invokevirtual 192, 3) := by decide +kernel
theorem dX10_does_39 : decode cX10_does 39 = .ok (.goto 8, 3) := by decide +kernel
theorem dX10_does_42 : decode cX10_does 42 = .ok (.aload_n 0, 1) := by decide +kernel
theorem dX10_does_43 : decode cX10_does 43 = .ok (.iload_n 1, 1) := by decide +kernel
theorem dX10_does_44 : decode cX10_does 44 = .ok (.invokevirtual 192, 3) := by decide +kernel
theorem dX10_does_47 : decode cX10_does 47 = .ok (.return_, 1) := by decide +kernel
theorem dX10_sendObject_0 : decode cX10_sendObject 0 = .ok (.aload_n 0, 1) := by decide +kernel
theorem dX10_sendObject_1 : decode cX10_sendObject 1 = .ok (.iload_n 1, 1) := by decide +kernel
theorem dX10_sendObject_2 : decode cX10_sendObject 2 = .ok (.iload_n 2, 1) := by decide +kernel
theorem dX10_sendObject_3 : decode cX10_sendObject 3 = .ok (.invokevirtual 166, 3) := by decide +kernel
theorem dX10_sendObject_6 : decode cX10_sendObject 6 = .ok (.ifCond .ne 17, 3) := by decide +kernel
theorem dX10_sendObject_9 : decode cX10_sendObject 9 = .ok (.aload_n 0, 1) := by decide +kernel
theorem dX10_sendObject_10 : decode cX10_sendObject 10 = .ok (.aload_n 0, 1) := by decide +kernel
theorem dX10_sendObject_11 : decode cX10_sendObject 11 = .ok (.iconst 3, 1) := by decide +kernel
theorem dX10_sendObject_12 : decode cX10_sendObject 12 = .ok (.iload_n 1, 1) := by decide +kernel
theorem dX10_sendObject_13 : decode cX10_sendObject 13 = .ok (.iload_n 2, 1) := by decide +kernel
theorem dX10_sendObject_14 : decode cX10_sendObject 14 = .ok (.invokevirtual 174, 3) := by decide +kernel
theorem dX10_sendObject_17 : decode cX10_sendObject 17 = .ok (.invokevirtual 192, 3) := by decide +kernel
theorem dX10_sendObject_20 : decode cX10_sendObject 20 = .ok (.goto 22, 3) := by decide +kernel
theorem dX10_sendObject_23 : decode cX10_sendObject 23 = .ok (.aload_n 0, 1) := by decide +kernel
theorem dX10_sendObject_24 : decode cX10_sendObject 24 = .ok (.aload_n 0, 1) := by decide +kernel
theorem dX10_sendObject_25 : decode cX10_sendObject 25 = .ok (.getfield 56, 3) := by decide +kernel
theorem dX10_sendObject_28 : decode cX10_sendObject 28 = .ok (.iconst 4, 1) := by decide +kernel
theorem dX10_sendObject_29 : decode cX10_sendObject 29 = .ok (.bipush 12, 2) := by decide +kernel
theorem dX10_sendObject_31 : decode cX10_sendObject 31 = .ok (.iload_n 1, 1) := by decide +kernel
theorem dX10_sendObject_32 : decode cX10_sendObject 32 = .ok (.imul, 1) := by decide +kernel
theorem dX10_sendObject_33 : decode cX10_sendObject 33 = .ok (.iload_n 2, 1) := by decide +kernel
theorem dX10_sendObject_34 : decode cX10_sendObject 34 = .ok (.iadd, 1) := by decide +kernel
theorem dX10_sendObject_35 : decode cX10_sendObject 35 = .ok (.imul, 1) := by decide +kernel
theorem dX10_sendObject_36 : decode cX10_sendObject 36 = .ok (.iaload, 1) := by decide +kernel
theorem dX10_sendObject_37 : decode cX10_sendObject 37 = .ok (.iload_n 1, 1) := by decide +kernel
theorem dX10_sendObject_38 : decode cX10_sendObject 38 = .ok (.iload_n 3, 1) := by decide +kernel
theorem dX10_sendObject_39 : decode cX10_sendObject 39 = .ok (.invokevirtual 202, 3) := by decide +kernel
theorem dX10_sendObject_42 : decode cX10_sendObject 42 = .ok (.return_, 1) := by decide +kernel
theorem dX10_sendGroup_0 : decode cX10_sendGroup 0 = .ok (.iconst 0, 1) := by decide +kernel
theorem dX10_sendGroup_1 : decode cX10_sendGroup 1 = .ok (.istore 4, 2) := by decide +kernel
theorem dX10_sendGroup_3 : decode cX10_sendGroup 3 = .ok (.iconst 0, 1) := by decide +kernel
theorem dX10_sendGroup_4 : decode cX10_sendGroup 4 = .ok (.istore 5, 2) := by decide +kernel
theorem dX10_sendGroup_6 : decode cX10_sendGroup 6 = .ok (.iload_n 1, 1) := by decide +kernel
theorem dX10_sendGroup_7 : decode cX10_sendGroup 7 = .ok (.aload_n 0, 1) := by decide +kernel
theorem dX10_sendGroup_8 : decode cX10_sendGroup 8 = .ok (.getfield 44, 3) := by decide +kernel
theorem dX10_sendGroup_11 : decode cX10_sendGroup 11 = .ok (.iload_n 1, 1) := by decide +kernel
theorem dX10_sendGroup_12 : decode cX10_sendGroup 12 = .ok (.iaload, 1) := by decide +kernel
theorem dX10_sendGroup_13 : decode cX10_sendGroup 13 = .ok (.iadd, 1) := by decide +kernel
theorem dX10_sendGroup_14 : decode cX10_sendGroup 14 = .ok (.istore 6, 2) := by decide +kernel
theorem dX10_sendGroup_16 : decode cX10_sendGroup 16 = .ok (.iload 6, 2) := by decide +kernel
theorem dX10_sendGroup_18 : decode cX10_sendGroup 18 = .ok (.iload_n 1, 1) := by decide +kernel
theorem dX10_sendGroup_19 : decode cX10_sendGroup 19 = .ok (.if_icmp .le 48, 3) := by decide +kernel
theorem dX10_sendGroup_22 : decode cX10_sendGroup 22 = .ok (.aload_n 0, 1) := by decide +kernel
theorem dX10_sendGroup_23 : decode cX10_sendGroup 23 = .ok (.getfield 41, 3) := by decide +kernel
theorem dX10_sendGroup_26 : decode cX10_sendGroup 26 = .ok (.iload 6, 2) := by decide +kernel
theorem dX10_sendGroup_28 : decode cX10_sendGroup 28 = .ok (.baload, 1) := by decide +kernel
theorem dX10_sendGroup_29 : decode cX10_sendGroup 29 = .ok (.ifCond .eq 8, 3) := by decide +kernel
theorem dX10_sendGroup_32 : decode cX10_sendGroup 32 = .ok (.iload 4, 2) := by decide +kernel
theorem dX10_sendGroup_34 : decode cX10_sendGroup 34 = .ok (.goto 5, 3) := by decide +kernel
theorem dX10_sendGroup_37 : decode cX10_sendGroup 37 = .ok (.iload 6, 2) := by decide +kernel
theorem dX10_sendGroup_39 : decode cX10_sendGroup 39 = .ok (.istore 4, 2) := by decide +kernel
theorem dX10_sendGroup_41 : decode cX10_sendGroup 41 = .ok (.iload 5, 2) := by decide +kernel
theorem dX10_sendGroup_43 : decode cX10_sendGroup 43 = .ok (.aload_n 0, 1) := by decide +kernel
theorem dX10_sendGroup_44 : decode cX10_sendGroup 44 = .ok (.getfield 41, 3) := by decide +kernel
theorem dX10_sendGroup_47 : decode cX10_sendGroup 47 = .ok (.iload 6, 2) := by decide +kernel
theorem dX10_sendGroup_49 : decode cX10_sendGroup 49 = .ok (.baload, 1) := by decide +kernel
theorem dX10_sendGroup_50 : decode cX10_sendGroup 50 = .ok (.ifCond .eq 7, 3) := by decide +kernel
theorem dX10_sendGroup_53 : decode cX10_sendGroup 53 = .ok (.iconst 0, 1) := by decide +kernel
theorem dX10_sendGroup_54 : decode cX10_sendGroup 54 = .ok (.goto 4, 3) := by decide +kernel
theorem dX10_sendGroup_57 : decode cX10_sendGroup 57 = .ok (.iconst 1, 1) := by decide +kernel
theorem dX10_sendGroup_58 : decode cX10_sendGroup 58 = .ok (.iadd, 1) := by decide +kernel
theorem dX10_sendGroup_59 : decode cX10_sendGroup 59 = .ok (.istore 5, 2) := by decide +kernel
theorem dX10_sendGroup_61 : decode cX10_sendGroup 61 = .ok (.iinc 6 (-1), 3) := by decide +kernel
theorem dX10_sendGroup_64 : decode cX10_sendGroup 64 = .ok (.goto (-48), 3) := by decide +kernel
theorem dX10_sendGroup_67 : decode cX10_sendGroup 67 = .ok (.iload_n 2, 1) := by decide +kernel
theorem dX10_sendGroup_68 : decode cX10_sendGroup 68 = .ok (.bipush 14, 2) := by decide +kernel
theorem dX10_sendGroup_70 : decode cX10_sendGroup 70 = .ok (.if_icmp .ne 12, 3) := by decide +kernel
theorem dX10_sendGroup_73 : decode cX10_sendGroup 73 = .ok (.aload_n 0, 1) := by decide +kernel
theorem dX10_sendGroup_74 : decode cX10_sendGroup 74 = .ok (.iload 5, 2) := by decide +kernel
theorem dX10_sendGroup_76 : decode cX10_sendGroup 76 = .ok (.invokevirtual 192, 3) := by decide +kernel
theorem dX10_sendGroup_79 : decode cX10_sendGroup 79 = .ok (.goto 143, 3) := by decide +kernel
theorem dX10_sendGroup_82 : decode cX10_sendGroup 82 = .ok (.iload_n 2, 1) := by decide +kernel
theorem dX10_sendGroup_83 : decode cX10_sendGroup 83 = .ok (.bipush 12, 2) := by decide +kernel
theorem dX10_sendGroup_85 : decode cX10_sendGroup 85 = .ok (.if_icmp .ne 46, 3) := by decide +kernel
theorem dX10_sendGroup_88 : decode cX10_sendGroup 88 = .ok (.iload 4, 2) := by decide +kernel
theorem dX10_sendGroup_90 : decode cX10_sendGroup 90 = .ok (.ifCond .ne 9, 3) := by decide +kernel
theorem dX10_sendGroup_93 : decode cX10_sendGroup 93 = .ok (.aload_n 0, 1) := by decide +kernel
theorem dX10_sendGroup_94 : decode cX10_sendGroup 94 = .ok (.iconst 0, 1) := by decide +kernel
theorem dX10_sendGroup_95 : decode cX10_sendGroup 95 = .ok (.invokevirtual 192, 3) := by decide +kernel
theorem dX10_sendGroup_98 : decode cX10_sendGroup 98 = .ok (.return_, 1) := by decide +kernel
theorem dX10_sendGroup_99 : decode cX10_sendGroup 99 = .ok (.aload_n 0, 1) := by decide +kernel
theorem dX10_sendGroup_100 : decode cX10_sendGroup 100 = .ok (.getfield 41, 3) := by decide +kernel
theorem dX10_sendGroup_103 : decode cX10_sendGroup 103 = .ok (.iload 4, 2) := by decide +kernel
theorem dX10_sendGroup_105 : decode cX10_sendGroup 105 = .ok (.iconst 1, 1) := by decide +kernel
theorem dX10_sendGroup_106 : decode cX10_sendGroup 106 = .ok (.bastore, 1) := by decide +kernel
theorem dX10_sendGroup_107 : decode cX10_sendGroup 107 = .ok (.aload_n 0, 1) := by decide +kernel
theorem dX10_sendGroup_108 : decode cX10_sendGroup 108 = .ok (.iload 4, 2) := by decide +kernel
theorem dX10_sendGroup_110 : decode cX10_sendGroup 110 = .ok (.invokevirtual 137, 3) := by decide +kernel
theorem dX10_sendGroup_113 : decode cX10_sendGroup 113 = .ok (.aload_n 0, 1) := by decide +kernel
theorem dX10_sendGroup_114 : decode cX10_sendGroup 114 = .ok (.iconst 1, 1) := by decide +kernel
theorem dX10_sendGroup_115 : decode cX10_sendGroup 115 = .ok (.iload 4, 2) := by decide +kernel
theorem dX10_sendGroup_117 : decode cX10_sendGroup 117 = .ok (.invokevirtual 195, 3) := by decide +kernel
theorem dX10_sendGroup_120 : decode cX10_sendGroup 120 = .ok (.aload_n 0, 1) := by decide +kernel
theorem dX10_sendGroup_121 : decode cX10_sendGroup 121 = .ok (.iload 4, 2) := by decide +kernel
theorem dX10_sendGroup_123 : decode cX10_sendGroup 123 = .ok (.iconst 1, 1) := by decide +kernel
theorem dX10_sendGroup_124 : decode cX10_sendGroup 124 = .ok (.iload_n 3, 1) := by decide +kernel
theorem dX10_sendGroup_125 : decode cX10_sendGroup 125 = .ok (.invokevirtual 205, 3) := by decide +kernel
theorem dX10_sendGroup_128 : decode cX10_sendGroup 128 = .ok (.goto 94, 3) := by decide +kernel
theorem dX10_sendGroup_131 : decode cX10_sendGroup 131 = .ok (.iload_n 2, 1) := by decide +kernel
theorem dX10_sendGroup_132 : decode cX10_sendGroup 132 = .ok (.bipush 13, 2) := by decide +kernel
theorem dX10_sendGroup_134 : decode cX10_sendGroup 134 = .ok (.if_icmp .eq 23, 3) := by decide +kernel
theorem dX10_sendGroup_137 : decode cX10_sendGroup 137 = .ok (.iload_n 2, 1) := by decide +kernel
theorem dX10_sendGroup_138 : decode cX10_sendGroup 138 = .ok (.bipush 15, 2) := by decide +kernel
theorem dX10_sendGroup_140 : decode cX10_sendGroup 140 = .ok (.if_icmp .eq 17, 3) := by decide +kernel
theorem dX10_sendGroup_143 : decode cX10_sendGroup 143 = .ok (.aload_n 0, 1) := by decide +kernel
theorem dX10_sendGroup_144 : decode cX10_sendGroup 144 = .ok (.aload_n 0, 1) := by decide +kernel
theorem dX10_sendGroup_145 : decode cX10_sendGroup 145 = .ok (.iconst 2, 1) := by decide +kernel
theorem dX10_sendGroup_146 : decode cX10_sendGroup 146 = .ok (.iload_n 1, 1) := by decide +kernel
theorem dX10_sendGroup_147 : decode cX10_sendGroup 147 = .ok (.iload_n 2, 1) := by decide +kernel
theorem dX10_sendGroup_148 : decode cX10_sendGroup 148 = .ok (.invokevirtual 174, 3) := by decide +kernel
theorem dX10_sendGroup_151 : decode cX10_sendGroup 151 = .ok (.invokevirtual 192, 3) := by decide +kernel
theorem dX10_sendGroup_154 : decode cX10_sendGroup 154 = .ok (.goto 68, 3) := by decide +kernel
theorem dX10_sendGroup_157 : decode cX10_sendGroup 157 = .ok (.iload_n 3, 1) := by decide +kernel
theorem dX10_sendGroup_158 : decode cX10_sendGroup 158 = .ok (.iload_n 1, 1) := by decide +kernel
theorem dX10_sendGroup_159 : decode cX10_sendGroup 159 = .ok (.iconst 1, 1) := by decide +kernel
theorem dX10_sendGroup_160 : decode cX10_sendGroup 160 = .ok (.iadd, 1) := by decide +kernel
theorem dX10_sendGroup_161 : decode cX10_sendGroup 161 = .ok (.iload_n 1, 1) := by decide +kernel
theorem dX10_sendGroup_162 : decode cX10_sendGroup 162 = .ok (.aload_n 0, 1) := by decide +kernel
theorem dX10_sendGroup_163 : decode cX10_sendGroup 163 = .ok (.getfield 44, 3) := by decide +kernel
theorem dX10_sendGroup_166 : decode cX10_sendGroup 166 = .ok (.iload_n 1, 1) := by decide +kernel
theorem dX10_sendGroup_167 : decode cX10_sendGroup 167 = .ok (.iaload, 1) := by decide +kernel
theorem dX10_sendGroup_168 : decode cX10_sendGroup 168 = .ok (.iadd, 1) := by decide +kernel
theorem dX10_sendGroup_169 : decode cX10_sendGroup 169 = .ok (.invokestatic 102, 3) := by decide +kernel
theorem dX10_sendGroup_172 : decode cX10_sendGroup 172 = .ok (.ifCond .eq 12, 3) := by decide +kernel
theorem dX10_sendGroup_175 : decode cX10_sendGroup 175 = .ok (.aload_n 0, 1) := by decide +kernel
theorem dX10_sendGroup_176 : decode cX10_sendGroup 176 = .ok (.getfield 41, 3) := by decide +kernel
theorem dX10_sendGroup_179 : decode cX10_sendGroup 179 = .ok (.iload_n 3, 1) := by decide +kernel
theorem dX10_sendGroup_180 : decode cX10_sendGroup 180 = .ok (.baload, 1) := by decide +kernel
theorem dX10_sendGroup_181 : decode cX10_sendGroup 181 = .ok (.ifCond .ne 18, 3) := by decide +kernel
theorem dX10_sendGroup_184 : decode cX10_sendGroup 184 = .ok (.aload_n 0, 1) := by decide +kernel
theorem dX10_sendGroup_185 : decode cX10_sendGroup 185 = .ok (.aload_n 0, 1) := by decide +kernel
theorem dX10_sendGroup_186 : decode cX10_sendGroup 186 = .ok (.bipush 8, 2) := by decide +kernel
theorem dX10_sendGroup_188 : decode cX10_sendGroup 188 = .ok (.iload_n 1, 1) := by decide +kernel
theorem dX10_sendGroup_189 : decode cX10_sendGroup 189 = .ok (.iload_n 3, 1) := by decide +kernel
theorem dX10_sendGroup_190 : decode cX10_sendGroup 190 = .ok (.invokevirtual 174, 3) := by decide +kernel
theorem dX10_sendGroup_193 : decode cX10_sendGroup 193 = .ok (.invokevirtual 192, 3) := by decide +kernel
theorem dX10_sendGroup_196 : decode cX10_sendGroup 196 = .ok (.goto 26, 3) := by decide +kernel
theorem dX10_sendGroup_199 : decode cX10_sendGroup 199 = .ok (.aload_n 0, 1) := by decide +kernel
theorem dX10_sendGroup_200 : decode cX10_sendGroup 200 = .ok (.iload_n 2, 1) := by decide +kernel
theorem dX10_sendGroup_201 : decode cX10_sendGroup 201 = .ok (.bipush 13, 2) := by decide +kernel
theorem dX10_sendGroup_203 : decode cX10_sendGroup 203 = .ok (.if_icmp .ne 7, 3) := by decide +kernel
theorem dX10_sendGroup_206 : decode cX10_sendGroup 206 = .ok (.iconst 2, 1) := by decide +kernel
theorem dX10_sendGroup_207 : decode cX10_sendGroup 207 = .ok (.goto 4, 3) := by decide +kernel
theorem dX10_sendGroup_210 : decode cX10_sendGroup 210 = .ok (.iconst 3, 1) := by decide +kernel
theorem dX10_sendGroup_211 : decode cX10_sendGroup 211 = .ok (.iload_n 3, 1) := by decide +kernel
theorem dX10_sendGroup_212 : decode cX10_sendGroup 212 = .ok (.invokevirtual 195, 3) := by decide +kernel
theorem dX10_sendGroup_215 : decode cX10_sendGroup 215 = .ok (.aload_n 0, 1) := by decide +kernel
theorem dX10_sendGroup_216 : decode cX10_sendGroup 216 = .ok (.iload_n 3, 1) := by decide +kernel
theorem dX10_sendGroup_217 : decode cX10_sendGroup 217 = .ok (.iconst 2, 1) := by decide +kernel
theorem dX10_sendGroup_218 : decode cX10_sendGroup 218 = .ok (.iconst 0, 1) := by decide +kernel
theorem dX10_sendGroup_219 : decode cX10_sendGroup 219 = .ok (.invokevirtual 205, 3) := by decide +kernel
theorem dX10_sendGroup_222 : decode cX10_sendGroup 222 = .ok (.return_, 1) := by decide +kernel
theorem dX10_sendIfThere_0 : decode cX10_sendIfThere 0 = .ok (.aload_n 0, 1) := by decide +kernel
theorem dX10_sendIfThere_1 : decode cX10_sendIfThere 1 = .ok (.iload_n 1, 1) := by decide +kernel
theorem dX10_sendIfThere_2 : decode cX10_sendIfThere 2 = .ok (.iload_n 2, 1) := by decide +kernel
theorem dX10_sendIfThere_3 : decode cX10_sendIfThere 3 = .ok (.invokevirtual 166, 3) := by decide +kernel
theorem dX10_sendIfThere_6 : decode cX10_sendIfThere 6 = .ok (.ifCond .le 13, 3) := by decide +kernel
theorem dX10_sendIfThere_9 : decode cX10_sendIfThere 9 = .ok (.aload_n 0, 1) := by decide +kernel
theorem dX10_sendIfThere_10 : decode cX10_sendIfThere 10 = .ok (.iload_n 1, 1) := by decide +kernel
theorem dX10_sendIfThere_11 : decode cX10_sendIfThere 11 = .ok (.iload_n 2, 1) := by decide +kernel
theorem dX10_sendIfThere_12 : decode cX10_sendIfThere 12 = .ok (.iload_n 3, 1) := by decide +kernel
theorem dX10_sendIfThere_13 : decode cX10_sendIfThere 13 = .ok (.invokevirtual 208, 3) := by decide +kernel
theorem dX10_sendIfThere_16 : decode cX10_sendIfThere 16 = .ok (.goto 8, 3) := by decide +kernel
theorem dX10_sendIfThere_19 : decode cX10_sendIfThere 19 = .ok (.aload_n 0, 1) := by decide +kernel
theorem dX10_sendIfThere_20 : decode cX10_sendIfThere 20 = .ok (.iconst 0, 1) := by decide +kernel
theorem dX10_sendIfThere_21 : decode cX10_sendIfThere 21 = .ok (.invokevirtual 192, 3) := by decide +kernel
theorem dX10_sendIfThere_24 : decode cX10_sendIfThere 24 = .ok (.return_, 1) := by decide +kernel
theorem dX10_sends_0 : decode cX10_sends 0 = .ok (.aload_n 0, 1) := by decide +kernel
theorem dX10_sends_1 : decode cX10_sends 1 = .ok (.iload_n 1, 1) := by decide +kernel
theorem dX10_sends_2 : decode cX10_sends 2 = .ok (.invokevirtual 141, 3) := by decide +kernel
theorem dX10_sends_5 : decode cX10_sends 5 = .ok (.istore 4, 2) := by decide +kernel
theorem dX10_sends_7 : decode cX10_sends 7 = .ok (.iload 4, 2) := by decide +kernel
theorem dX10_sends_9 : decode cX10_sends 9 = .ok (.iconst 1, 1) := by decide +kernel
theorem dX10_sends_10 : decode cX10_sends 10 = .ok (.if_icmp .ne 13, 3) := by decide +kernel
theorem dX10_sends_13 : decode cX10_sends 13 = .ok (.aload_n 0, 1) := by decide +kernel
theorem dX10_sends_14 : decode cX10_sends 14 = .ok (.iload_n 1, 1) := by decide +kernel
theorem dX10_sends_15 : decode cX10_sends 15 = .ok (.iload_n 2, 1) := by decide +kernel
theorem dX10_sends_16 : decode cX10_sends 16 = .ok (.iload_n 3, 1) := by decide +kernel
theorem dX10_sends_17 : decode cX10_sends 17 = .ok (.invokevirtual 211, 3) := by decide +kernel
theorem dX10_sends_20 : decode cX10_sends 20 = .ok (.goto 30, 3) := by decide +kernel
theorem dX10_sends_23 : decode cX10_sends 23 = .ok (.iload 4, 2) := by decide +kernel
theorem dX10_sends_25 : decode cX10_sends 25 = .ok (.iconst 2, 1) := by decide +kernel
theorem dX10_sends_26 : decode cX10_sends 26 = .ok (.if_icmp .ne 13, 3) := by decide +kernel
theorem dX10_sends_29 : decode cX10_sends 29 = .ok (.aload_n 0, 1) := by decide +kernel
theorem dX10_sends_30 : decode cX10_sends 30 = .ok (.iload_n 1, 1) := by decide +kernel
theorem dX10_sends_31 : decode cX10_sends 31 = .ok (.iload_n 2, 1) := by decide +kernel
theorem dX10_sends_32 : decode cX10_sends 32 = .ok (.iload_n 3, 1) := by decide +kernel
theorem dX10_sends_33 : decode cX10_sends 33 = .ok (.invokevirtual 208, 3) := by decide +kernel
theorem dX10_sends_36 : decode cX10_sends 36 = .ok (.goto 14, 3) := by decide +kernel
theorem dX10_sends_39 : decode cX10_sends 39 = .ok (.aload_n 0, 1) := by decide +kernel
theorem dX10_sends_40 : decode cX10_sends 40 = .ok (.aload_n 0, 1) := by decide +kernel
theorem dX10_sends_41 : decode cX10_sends 41 = .ok (.iconst 1, 1) := by decide +kernel
theorem dX10_sends_42 : decode cX10_sends 42 = .ok (.iload_n 1, 1) := by decide +kernel
theorem dX10_sends_43 : decode cX10_sends 43 = .ok (.iload_n 2, 1) := by decide +kernel
theorem dX10_sends_44 : decode cX10_sends 44 = .ok (.invokevirtual 174, 3) := by decide +kernel
theorem dX10_sends_47 : decode cX10_sends 47 = .ok (.invokevirtual 192, 3) := by decide +kernel
theorem dX10_sends_50 : decode cX10_sends 50 = .ok (.return_, 1) := by decide +kernel
theorem dX10_sendsAs_0 : decode cX10_sendsAs 0 = .ok (.aload_n 0, 1) := by decide +kernel
theorem dX10_sendsAs_1 : decode cX10_sendsAs 1 = .ok (.iload_n 2, 1) := by decide +kernel
theorem dX10_sendsAs_2 : decode cX10_sendsAs 2 = .ok (.invokevirtual 141, 3) := by decide +kernel
theorem dX10_sendsAs_5 : decode cX10_sendsAs 5 = .ok (.iconst 2, 1) := by decide +kernel
theorem dX10_sendsAs_6 : decode cX10_sendsAs 6 = .ok (.if_icmp .eq 17, 3) := by decide +kernel
theorem dX10_sendsAs_9 : decode cX10_sendsAs 9 = .ok (.aload_n 0, 1) := by decide +kernel
theorem dX10_sendsAs_10 : decode cX10_sendsAs 10 = .ok (.aload_n 0, 1) := by decide +kernel
theorem dX10_sendsAs_11 : decode cX10_sendsAs 11 = .ok (.iconst 1, 1) := by decide +kernel
theorem dX10_sendsAs_12 : decode cX10_sendsAs 12 = .ok (.iload_n 2, 1) := by decide +kernel
theorem dX10_sendsAs_13 : decode cX10_sendsAs 13 = .ok (.iload_n 3, 1) := by decide +kernel
theorem dX10_sendsAs_14 : decode cX10_sendsAs 14 = .ok (.invokevirtual 174, 3) := by decide +kernel
theorem dX10_sendsAs_17 : decode cX10_sendsAs 17 = .ok (.invokevirtual 192, 3) := by decide +kernel
theorem dX10_sendsAs_20 : decode cX10_sendsAs 20 = .ok (.goto 69, 3) := by decide +kernel
theorem dX10_sendsAs_23 : decode cX10_sendsAs 23 = .ok (.aload_n 0, 1) := by decide +kernel
theorem dX10_sendsAs_24 : decode cX10_sendsAs 24 = .ok (.iload_n 2, 1) := by decide +kernel
theorem dX10_sendsAs_25 : decode cX10_sendsAs 25 = .ok (.iload_n 1, 1) := by decide +kernel
theorem dX10_sendsAs_26 : decode cX10_sendsAs 26 = .ok (.invokevirtual 214, 3) := by decide +kernel
theorem dX10_sendsAs_29 : decode cX10_sendsAs 29 = .ok (.ifCond .ne 17, 3) := by decide +kernel
theorem dX10_sendsAs_32 : decode cX10_sendsAs 32 = .ok (.aload_n 0, 1) := by decide +kernel
theorem dX10_sendsAs_33 : decode cX10_sendsAs 33 = .ok (.aload_n 0, 1) := by decide +kernel
theorem dX10_sendsAs_34 : decode cX10_sendsAs 34 = .ok (.iconst 4, 1) := by decide +kernel
theorem dX10_sendsAs_35 : decode cX10_sendsAs 35 = .ok (.iload_n 2, 1) := by decide +kernel
theorem dX10_sendsAs_36 : decode cX10_sendsAs 36 = .ok (.iload_n 3, 1) := by decide +kernel
theorem dX10_sendsAs_37 : decode cX10_sendsAs 37 = .ok (.invokevirtual 174, 3) := by decide +kernel
theorem dX10_sendsAs_40 : decode cX10_sendsAs 40 = .ok (.invokevirtual 192, 3) := by decide +kernel
theorem dX10_sendsAs_43 : decode cX10_sendsAs 43 = .ok (.goto 46, 3) := by decide +kernel
theorem dX10_sendsAs_46 : decode cX10_sendsAs 46 = .ok (.aload_n 0, 1) := by decide +kernel
theorem dX10_sendsAs_47 : decode cX10_sendsAs 47 = .ok (.iload_n 1, 1) := by decide +kernel
theorem dX10_sendsAs_48 : decode cX10_sendsAs 48 = .ok (.iload_n 3, 1) := by decide +kernel
theorem dX10_sendsAs_49 : decode cX10_sendsAs 49 = .ok (.invokevirtual 166, 3) := by decide +kernel
theorem dX10_sendsAs_52 : decode cX10_sendsAs 52 = .ok (.ifCond .ne 17, 3) := by decide +kernel
theorem dX10_sendsAs_55 : decode cX10_sendsAs 55 = .ok (.aload_n 0, 1) := by decide +kernel
theorem dX10_sendsAs_56 : decode cX10_sendsAs 56 = .ok (.aload_n 0, 1) := by decide +kernel
theorem dX10_sendsAs_57 : decode cX10_sendsAs 57 = .ok (.iconst 3, 1) := by decide +kernel
theorem dX10_sendsAs_58 : decode cX10_sendsAs 58 = .ok (.iload_n 2, 1) := by decide +kernel
theorem dX10_sendsAs_59 : decode cX10_sendsAs 59 = .ok (.iload_n 3, 1) := by decide +kernel
theorem dX10_sendsAs_60 : decode cX10_sendsAs 60 = .ok (.invokevirtual 174, 3) := by decide +kernel
