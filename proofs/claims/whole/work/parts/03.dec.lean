theorem dX9_loop_84 : decode cX9_loop 84 = .ok (.invokevirtual 200, 3) := by decide +kernel
theorem dX9_loop_87 : decode cX9_loop 87 = .ok (.pop, 1) := by decide +kernel
theorem dX9_loop_88 : decode cX9_loop 88 = .ok (.iinc 4 1, 3) := by decide +kernel
theorem dX9_loop_91 : decode cX9_loop 91 = .ok (.iload 5, 2) := by decide +kernel
theorem dX9_loop_93 : decode cX9_loop 93 = .ok (.ifCond .eq 32, 3) := by decide +kernel
theorem dX9_loop_96 : decode cX9_loop 96 = .ok (.aload_n 0, 1) := by decide +kernel
theorem dX9_loop_97 : decode cX9_loop 97 = .ok (.getfield 36, 3) := by decide +kernel
theorem dX9_loop_100 : decode cX9_loop 100 = .ok (.iload 5, 2) := by decide +kernel
theorem dX9_loop_102 : decode cX9_loop 102 = .ok (.invokevirtual 188, 3) := by decide +kernel
theorem dX9_loop_105 : decode cX9_loop 105 = .ok (.iload_n 1, 1) := by decide +kernel
theorem dX9_loop_106 : decode cX9_loop 106 = .ok (.if_icmp .eq 19, 3) := by decide +kernel
theorem dX9_loop_109 : decode cX9_loop 109 = .ok (.aload_n 0, 1) := by decide +kernel
theorem dX9_loop_110 : decode cX9_loop 110 = .ok (.getfield 57, 3) := by decide +kernel
theorem dX9_loop_113 : decode cX9_loop 113 = .ok (.bipush 11, 2) := by decide +kernel
theorem dX9_loop_115 : decode cX9_loop 115 = .ok (.iload 5, 2) := by decide +kernel
theorem dX9_loop_117 : decode cX9_loop 117 = .ok (.iconst 0, 1) := by decide +kernel
theorem dX9_loop_118 : decode cX9_loop 118 = .ok (.invokevirtual 175, 3) := by decide +kernel
theorem dX9_loop_121 : decode cX9_loop 121 = .ok (.pop, 1) := by decide +kernel
theorem dX9_loop_122 : decode cX9_loop 122 = .ok (.iload 4, 2) := by decide +kernel
theorem dX9_loop_124 : decode cX9_loop 124 = .ok (.ireturn, 1) := by decide +kernel
theorem dX9_loop_125 : decode cX9_loop 125 = .ok (.iload 5, 2) := by decide +kernel
theorem dX9_loop_127 : decode cX9_loop 127 = .ok (.istore_n 3, 1) := by decide +kernel
theorem dX9_loop_128 : decode cX9_loop 128 = .ok (.goto (-70), 3) := by decide +kernel
theorem dX9_loop_131 : decode cX9_loop 131 = .ok (.iload 4, 2) := by decide +kernel
theorem dX9_loop_133 : decode cX9_loop 133 = .ok (.ireturn, 1) := by decide +kernel
theorem dX9_meta_0 : decode cX9_meta 0 = .ok (.aload_n 0, 1) := by decide +kernel
theorem dX9_meta_1 : decode cX9_meta 1 = .ok (.iload_n 1, 1) := by decide +kernel
theorem dX9_meta_2 : decode cX9_meta 2 = .ok (.invokevirtual 115, 3) := by decide +kernel
theorem dX9_meta_5 : decode cX9_meta 5 = .ok (.astore_n 2, 1) := by decide +kernel
theorem dX9_meta_6 : decode cX9_meta 6 = .ok (.aload_n 2, 1) := by decide +kernel
theorem dX9_meta_7 : decode cX9_meta 7 = .ok (.ifnull 27, 3) := by decide +kernel
theorem dX9_meta_10 : decode cX9_meta 10 = .ok (.aload_n 2, 1) := by decide +kernel
theorem dX9_meta_11 : decode cX9_meta 11 = .ok (.getfield 203, 3) := by decide +kernel
theorem dX9_meta_14 : decode cX9_meta 14 = .ok (.ifCond .eq 7, 3) := by decide +kernel
theorem dX9_meta_17 : decode cX9_meta 17 = .ok (.iconst 1, 1) := by decide +kernel
theorem dX9_meta_18 : decode cX9_meta 18 = .ok (.goto 15, 3) := by decide +kernel
theorem dX9_meta_21 : decode cX9_meta 21 = .ok (.aload_n 2, 1) := by decide +kernel
theorem dX9_meta_22 : decode cX9_meta 22 = .ok (.getfield 111, 3) := by decide +kernel
theorem dX9_meta_25 : decode cX9_meta 25 = .ok (.ifCond .eq 7, 3) := by decide +kernel
theorem dX9_meta_28 : decode cX9_meta 28 = .ok (.iconst 2, 1) := by decide +kernel
theorem dX9_meta_29 : decode cX9_meta 29 = .ok (.goto 4, 3) := by decide +kernel
theorem dX9_meta_32 : decode cX9_meta 32 = .ok (.iconst 0, 1) := by decide +kernel
theorem dX9_meta_33 : decode cX9_meta 33 = .ok (.ireturn, 1) := by decide +kernel
theorem dX9_meta_34 : decode cX9_meta 34 = .ok (.aload_n 0, 1) := by decide +kernel
theorem dX9_meta_35 : decode cX9_meta 35 = .ok (.iload_n 1, 1) := by decide +kernel
theorem dX9_meta_36 : decode cX9_meta 36 = .ok (.invokevirtual 143, 3) := by decide +kernel
theorem dX9_meta_39 : decode cX9_meta 39 = .ok (.ifnull 5, 3) := by decide +kernel
theorem dX9_meta_42 : decode cX9_meta 42 = .ok (.iconst 3, 1) := by decide +kernel
theorem dX9_meta_43 : decode cX9_meta 43 = .ok (.ireturn, 1) := by decide +kernel
theorem dX9_meta_44 : decode cX9_meta 44 = .ok (.aload_n 0, 1) := by decide +kernel
theorem dX9_meta_45 : decode cX9_meta 45 = .ok (.iload_n 1, 1) := by decide +kernel
theorem dX9_meta_46 : decode cX9_meta 46 = .ok (.invokevirtual 76, 3) := by decide +kernel
theorem dX9_meta_49 : decode cX9_meta 49 = .ok (.ifnull 5, 3) := by decide +kernel
theorem dX9_meta_52 : decode cX9_meta 52 = .ok (.iconst 4, 1) := by decide +kernel
theorem dX9_meta_53 : decode cX9_meta 53 = .ok (.ireturn, 1) := by decide +kernel
theorem dX9_meta_54 : decode cX9_meta 54 = .ok (.aload_n 0, 1) := by decide +kernel
theorem dX9_meta_55 : decode cX9_meta 55 = .ok (.iload_n 1, 1) := by decide +kernel
theorem dX9_meta_56 : decode cX9_meta 56 = .ok (.invokevirtual 206, 3) := by decide +kernel
theorem dX9_meta_59 : decode cX9_meta 59 = .ok (.ifnull 7, 3) := by decide +kernel
theorem dX9_meta_62 : decode cX9_meta 62 = .ok (.iconst 5, 1) := by decide +kernel
theorem dX9_meta_63 : decode cX9_meta 63 = .ok (.goto 4, 3) := by decide +kernel
theorem dX9_meta_66 : decode cX9_meta 66 = .ok (.iconst 0, 1) := by decide +kernel
theorem dX9_meta_67 : decode cX9_meta 67 = .ok (.ireturn, 1) := by decide +kernel
theorem dX9_isOf_0 : decode cX9_isOf 0 = .ok (.aload_n 0, 1) := by decide +kernel
theorem dX9_isOf_1 : decode cX9_isOf 1 = .ok (.iload_n 1, 1) := by decide +kernel
theorem dX9_isOf_2 : decode cX9_isOf 2 = .ok (.invokevirtual 115, 3) := by decide +kernel
theorem dX9_isOf_5 : decode cX9_isOf 5 = .ok (.astore_n 3, 1) := by decide +kernel
theorem dX9_isOf_6 : decode cX9_isOf 6 = .ok (.aload_n 3, 1) := by decide +kernel
theorem dX9_isOf_7 : decode cX9_isOf 7 = .ok (.ifnull 32, 3) := by decide +kernel
theorem dX9_isOf_10 : decode cX9_isOf 10 = .ok (.aload_n 3, 1) := by decide +kernel
theorem dX9_isOf_11 : decode cX9_isOf 11 = .ok (.getfield 203, 3) := by decide +kernel
theorem dX9_isOf_14 : decode cX9_isOf 14 = .ok (.ifCond .ne 25, 3) := by decide +kernel
theorem dX9_isOf_17 : decode cX9_isOf 17 = .ok (.aload_n 3, 1) := by decide +kernel
theorem dX9_isOf_18 : decode cX9_isOf 18 = .ok (.getfield 111, 3) := by decide +kernel
theorem dX9_isOf_21 : decode cX9_isOf 21 = .ok (.ifCond .eq 18, 3) := by decide +kernel
theorem dX9_isOf_24 : decode cX9_isOf 24 = .ok (.aload_n 3, 1) := by decide +kernel
theorem dX9_isOf_25 : decode cX9_isOf 25 = .ok (.getfield 210, 3) := by decide +kernel
theorem dX9_isOf_28 : decode cX9_isOf 28 = .ok (.iload_n 2, 1) := by decide +kernel
theorem dX9_isOf_29 : decode cX9_isOf 29 = .ok (.invokevirtual 214, 3) := by decide +kernel
theorem dX9_isOf_32 : decode cX9_isOf 32 = .ok (.ifCond .eq 7, 3) := by decide +kernel
theorem dX9_isOf_35 : decode cX9_isOf 35 = .ok (.iconst 1, 1) := by decide +kernel
theorem dX9_isOf_36 : decode cX9_isOf 36 = .ok (.goto 4, 3) := by decide +kernel
theorem dX9_isOf_39 : decode cX9_isOf 39 = .ok (.iconst 0, 1) := by decide +kernel
theorem dX9_isOf_40 : decode cX9_isOf 40 = .ok (.ireturn, 1) := by decide +kernel
theorem dX9_provides_0 : decode cX9_provides 0 = .ok (.aload_n 0, 1) := by decide +kernel
theorem dX9_provides_1 : decode cX9_provides 1 = .ok (.iload_n 1, 1) := by decide +kernel
theorem dX9_provides_2 : decode cX9_provides 2 = .ok (.invokevirtual 217, 3) := by decide +kernel
theorem dX9_provides_5 : decode cX9_provides 5 = .ok (.astore_n 3, 1) := by decide +kernel
theorem dX9_provides_6 : decode cX9_provides 6 = .ok (.aload_n 3, 1) := by decide +kernel
theorem dX9_provides_7 : decode cX9_provides 7 = .ok (.ifnonnull 7, 3) := by decide +kernel
theorem dX9_provides_10 : decode cX9_provides 10 = .ok (.iconst 0, 1) := by decide +kernel
theorem dX9_provides_11 : decode cX9_provides 11 = .ok (.goto 11, 3) := by decide +kernel
theorem dX9_provides_14 : decode cX9_provides 14 = .ok (.aload_n 3, 1) := by decide +kernel
theorem dX9_provides_15 : decode cX9_provides 15 = .ok (.getfield 124, 3) := by decide +kernel
theorem dX9_provides_18 : decode cX9_provides 18 = .ok (.iload_n 2, 1) := by decide +kernel
theorem dX9_provides_19 : decode cX9_provides 19 = .ok (.invokevirtual 128, 3) := by decide +kernel
theorem dX9_provides_22 : decode cX9_provides 22 = .ok (.ireturn, 1) := by decide +kernel
theorem dX9_word_0 : decode cX9_word 0 = .ok (.aload_n 0, 1) := by decide +kernel
theorem dX9_word_1 : decode cX9_word 1 = .ok (.iload_n 1, 1) := by decide +kernel
theorem dX9_word_2 : decode cX9_word 2 = .ok (.iload_n 2, 1) := by decide +kernel
theorem dX9_word_3 : decode cX9_word 3 = .ok (.iload_n 2, 1) := by decide +kernel
theorem dX9_word_4 : decode cX9_word 4 = .ok (.invokevirtual 220, 3) := by decide +kernel
theorem dX9_word_7 : decode cX9_word 7 = .ok (.astore_n 3, 1) := by decide +kernel
theorem dX9_word_8 : decode cX9_word 8 = .ok (.aload_n 3, 1) := by decide +kernel
theorem dX9_word_9 : decode cX9_word 9 = .ok (.ifnonnull 7, 3) := by decide +kernel
theorem dX9_word_12 : decode cX9_word 12 = .ok (.iconst 0, 1) := by decide +kernel
theorem dX9_word_13 : decode cX9_word 13 = .ok (.goto 8, 3) := by decide +kernel
theorem dX9_word_16 : decode cX9_word 16 = .ok (.aload_n 3, 1) := by decide +kernel
theorem dX9_word_17 : decode cX9_word 17 = .ok (.iload_n 2, 1) := by decide +kernel
theorem dX9_word_18 : decode cX9_word 18 = .ok (.invokevirtual 224, 3) := by decide +kernel
theorem dX9_word_21 : decode cX9_word 21 = .ok (.ireturn, 1) := by decide +kernel
theorem dX9_setWord_0 : decode cX9_setWord 0 = .ok (.aload_n 0, 1) := by decide +kernel
theorem dX9_setWord_1 : decode cX9_setWord 1 = .ok (.iload_n 1, 1) := by decide +kernel
theorem dX9_setWord_2 : decode cX9_setWord 2 = .ok (.iload_n 2, 1) := by decide +kernel
theorem dX9_setWord_3 : decode cX9_setWord 3 = .ok (.iload_n 2, 1) := by decide +kernel
theorem dX9_setWord_4 : decode cX9_setWord 4 = .ok (.invokevirtual 220, 3) := by decide +kernel
theorem dX9_setWord_7 : decode cX9_setWord 7 = .ok (.astore 4, 2) := by decide +kernel
theorem dX9_setWord_9 : decode cX9_setWord 9 = .ok (.aload 4, 2) := by decide +kernel
theorem dX9_setWord_11 : decode cX9_setWord 11 = .ok (.ifnonnull 5, 3) := by decide +kernel
theorem dX9_setWord_14 : decode cX9_setWord 14 = .ok (.iconst 0, 1) := by decide +kernel
theorem dX9_setWord_15 : decode cX9_setWord 15 = .ok (.ireturn, 1) := by decide +kernel
theorem dX9_setWord_16 : decode cX9_setWord 16 = .ok (.aload 4, 2) := by decide +kernel
theorem dX9_setWord_18 : decode cX9_setWord 18 = .ok (.iload_n 2, 1) := by decide +kernel
theorem dX9_setWord_19 : decode cX9_setWord 19 = .ok (.iload_n 3, 1) := by decide +kernel
theorem dX9_setWord_20 : decode cX9_setWord 20 = .ok (.invokevirtual 226, 3) := by decide +kernel
theorem dX9_setWord_23 : decode cX9_setWord 23 = .ok (.iload_n 3, 1) := by decide +kernel
theorem dX9_setWord_24 : decode cX9_setWord 24 = .ok (.ireturn, 1) := by decide +kernel
theorem dX9_byteOf_0 : decode cX9_byteOf 0 = .ok (.iload_n 2, 1) := by decide +kernel
theorem dX9_byteOf_1 : decode cX9_byteOf 1 = .ok (.iconst 4, 1) := by decide +kernel
theorem dX9_byteOf_2 : decode cX9_byteOf 2 = .ok (.invokestatic 227, 3) := by decide +kernel
theorem dX9_byteOf_5 : decode cX9_byteOf 5 = .ok (.istore_n 3, 1) := by decide +kernel
theorem dX9_byteOf_6 : decode cX9_byteOf 6 = .ok (.aload_n 0, 1) := by decide +kernel
theorem dX9_byteOf_7 : decode cX9_byteOf 7 = .ok (.iload_n 1, 1) := by decide +kernel
theorem dX9_byteOf_8 : decode cX9_byteOf 8 = .ok (.iload_n 3, 1) := by decide +kernel
theorem dX9_byteOf_9 : decode cX9_byteOf 9 = .ok (.iload_n 2, 1) := by decide +kernel
theorem dX9_byteOf_10 : decode cX9_byteOf 10 = .ok (.invokevirtual 220, 3) := by decide +kernel
theorem dX9_byteOf_13 : decode cX9_byteOf 13 = .ok (.astore 4, 2) := by decide +kernel
theorem dX9_byteOf_15 : decode cX9_byteOf 15 = .ok (.aload 4, 2) := by decide +kernel
theorem dX9_byteOf_17 : decode cX9_byteOf 17 = .ok (.ifnonnull 7, 3) := by decide +kernel
theorem dX9_byteOf_20 : decode cX9_byteOf 20 = .ok (.iconst 0, 1) := by decide +kernel
theorem dX9_byteOf_21 : decode cX9_byteOf 21 = .ok (.goto 25, 3) := by decide +kernel
theorem dX9_byteOf_24 : decode cX9_byteOf 24 = .ok (.aload 4, 2) := by decide +kernel
theorem dX9_byteOf_26 : decode cX9_byteOf 26 = .ok (.iload_n 3, 1) := by decide +kernel
theorem dX9_byteOf_27 : decode cX9_byteOf 27 = .ok (.invokevirtual 224, 3) := by decide +kernel
theorem dX9_byteOf_30 : decode cX9_byteOf 30 = .ok (.bipush 24, 2) := by decide +kernel
theorem dX9_byteOf_32 : decode cX9_byteOf 32 = .ok (.bipush 8, 2) := by decide +kernel
theorem dX9_byteOf_34 : decode cX9_byteOf 34 = .ok (.iload_n 2, 1) := by decide +kernel
theorem dX9_byteOf_35 : decode cX9_byteOf 35 = .ok (.iconst 4, 1) := by decide +kernel
theorem dX9_byteOf_36 : decode cX9_byteOf 36 = .ok (.invokestatic 232, 3) := by decide +kernel
theorem dX9_byteOf_39 : decode cX9_byteOf 39 = .ok (.imul, 1) := by decide +kernel
theorem dX9_byteOf_40 : decode cX9_byteOf 40 = .ok (.isub, 1) := by decide +kernel
theorem dX9_byteOf_41 : decode cX9_byteOf 41 = .ok (.iushr, 1) := by decide +kernel
theorem dX9_byteOf_42 : decode cX9_byteOf 42 = .ok (.sipush 255, 3) := by decide +kernel
theorem dX9_byteOf_45 : decode cX9_byteOf 45 = .ok (.iand, 1) := by decide +kernel
theorem dX9_byteOf_46 : decode cX9_byteOf 46 = .ok (.ireturn, 1) := by decide +kernel
theorem dX9_name_0 : decode cX9_name 0 = .ok (.aload_n 0, 1) := by decide +kernel
theorem dX9_name_1 : decode cX9_name 1 = .ok (.iload_n 1, 1) := by decide +kernel
theorem dX9_name_2 : decode cX9_name 2 = .ok (.invokevirtual 217, 3) := by decide +kernel
theorem dX9_name_5 : decode cX9_name 5 = .ok (.astore_n 3, 1) := by decide +kernel
theorem dX9_name_6 : decode cX9_name 6 = .ok (.aload_n 3, 1) := by decide +kernel
theorem dX9_name_7 : decode cX9_name 7 = .ok (.ifnonnull 24, 3) := by decide +kernel
theorem dX9_name_10 : decode cX9_name 10 = .ok (.aload_n 0, 1) := by decide +kernel
theorem dX9_name_11 : decode cX9_name 11 = .ok (.getfield 43, 3) := by decide +kernel
theorem dX9_name_14 : decode cX9_name 14 = .ok (.iload_n 1, 1) := by decide +kernel
theorem dX9_name_15 : decode cX9_name 15 = .ok (.ifCond .ne 8, 3) := by decide +kernel
theorem dX9_name_18 : decode cX9_name 18 = .ok (.ldc 235, 2) := by decide +kernel
theorem dX9_name_20 : decode cX9_name 20 = .ok (.goto 5, 3) := by decide +kernel
theorem dX9_name_23 : decode cX9_name 23 = .ok (.ldc 237, 2) := by decide +kernel
theorem dX9_name_25 : decode cX9_name 25 = .ok (.invokevirtual 239, 3) := by decide +kernel
theorem dX9_name_28 : decode cX9_name 28 = .ok (.goto 10, 3) := by decide +kernel
theorem dX9_name_31 : decode cX9_name 31 = .ok (.aload_n 0, 1) := by decide +kernel
theorem dX9_name_32 : decode cX9_name 32 = .ok (.aload_n 3, 1) := by decide +kernel
theorem dX9_name_33 : decode cX9_name 33 = .ok (.iload_n 1, 1) := by decide +kernel
theorem dX9_name_34 : decode cX9_name 34 = .ok (.iload_n 2, 1) := by decide +kernel
theorem dX9_name_35 : decode cX9_name 35 = .ok (.invokevirtual 243, 3) := by decide +kernel
theorem dX9_name_38 : decode cX9_name 38 = .ok (.aload_n 0, 1) := by decide +kernel
theorem dX9_name_39 : decode cX9_name 39 = .ok (.getfield 43, 3) := by decide +kernel
theorem dX9_name_42 : decode cX9_name 42 = .ok (.getfield 247, 3) := by decide +kernel
theorem dX9_name_45 : decode cX9_name 45 = .ok (.ireturn, 1) := by decide +kernel
theorem dX9_out_0 : decode cX9_out 0 = .ok (.aload_n 0, 1) := by decide +kernel
theorem dX9_out_1 : decode cX9_out 1 = .ok (.getfield 43, 3) := by decide +kernel
theorem dX9_out_4 : decode cX9_out 4 = .ok (.iload_n 1, 1) := by decide +kernel
theorem dX9_out_5 : decode cX9_out 5 = .ok (.invokevirtual 248, 3) := by decide +kernel
theorem dX9_out_8 : decode cX9_out 8 = .ok (.ireturn, 1) := by decide +kernel
theorem dX9_clear_0 : decode cX9_clear 0 = .ok (.aload_n 0, 1) := by decide +kernel
theorem dX9_clear_1 : decode cX9_clear 1 = .ok (.getfield 43, 3) := by decide +kernel
theorem dX9_clear_4 : decode cX9_clear 4 = .ok (.getfield 247, 3) := by decide +kernel
theorem dX9_clear_7 : decode cX9_clear 7 = .ok (.istore_n 1, 1) := by decide +kernel
theorem dX9_clear_8 : decode cX9_clear 8 = .ok (.aload_n 0, 1) := by decide +kernel
theorem dX9_clear_9 : decode cX9_clear 9 = .ok (.getfield 43, 3) := by decide +kernel
theorem dX9_clear_12 : decode cX9_clear 12 = .ok (.iconst 0, 1) := by decide +kernel
theorem dX9_clear_13 : decode cX9_clear 13 = .ok (.putfield 247, 3) := by decide +kernel
theorem dX9_clear_16 : decode cX9_clear 16 = .ok (.iload_n 1, 1) := by decide +kernel
theorem dX9_clear_17 : decode cX9_clear 17 = .ok (.ireturn, 1) := by decide +kernel
theorem dX9_fault_0 : decode cX9_fault 0 = .ok (.aload_n 0, 1) := by decide +kernel
theorem dX9_fault_1 : decode cX9_fault 1 = .ok (.getfield 57, 3) := by decide +kernel
theorem dX9_fault_4 : decode cX9_fault 4 = .ok (.iload_n 1, 1) := by decide +kernel
theorem dX9_fault_5 : decode cX9_fault 5 = .ok (.iload_n 2, 1) := by decide +kernel
theorem dX9_fault_6 : decode cX9_fault 6 = .ok (.invokevirtual 249, 3) := by decide +kernel
theorem dX9_fault_9 : decode cX9_fault 9 = .ok (.ireturn, 1) := by decide +kernel
theorem dX9_count_0 : decode cX9_count 0 = .ok (.iload_n 1, 1) := by decide +kernel
theorem dX9_count_1 : decode cX9_count 1 = .ok (.tableswitch 96 0 7 #[47, 52, 57, 62, 67, 75, 83, 88], 47) := by decide +kernel
theorem dX9_count_48 : decode cX9_count 48 = .ok (.aload_n 0, 1) := by decide +kernel
theorem dX9_count_49 : decode cX9_count 49 = .ok (.getfield 88, 3) := by decide +kernel
theorem dX9_count_52 : decode cX9_count 52 = .ok (.ireturn, 1) := by decide +kernel
theorem dX9_count_53 : decode cX9_count 53 = .ok (.aload_n 0, 1) := by decide +kernel
theorem dX9_count_54 : decode cX9_count 54 = .ok (.getfield 69, 3) := by decide +kernel
theorem dX9_count_57 : decode cX9_count 57 = .ok (.ireturn, 1) := by decide +kernel
theorem dX9_count_58 : decode cX9_count 58 = .ok (.aload_n 0, 1) := by decide +kernel
theorem dX9_count_59 : decode cX9_count 59 = .ok (.getfield 72, 3) := by decide +kernel
theorem dX9_count_62 : decode cX9_count 62 = .ok (.ireturn, 1) := by decide +kernel
theorem dX9_count_63 : decode cX9_count 63 = .ok (.aload_n 0, 1) := by decide +kernel
theorem dX9_count_64 : decode cX9_count 64 = .ok (.getfield 138, 3) := by decide +kernel
theorem dX9_count_67 : decode cX9_count 67 = .ok (.ireturn, 1) := by decide +kernel
theorem dX9_count_68 : decode cX9_count 68 = .ok (.aload_n 0, 1) := by decide +kernel
theorem dX9_count_69 : decode cX9_count 69 = .ok (.getfield 57, 3) := by decide +kernel
theorem dX9_count_72 : decode cX9_count 72 = .ok (.getfield 250, 3) := by decide +kernel
theorem dX9_count_75 : decode cX9_count 75 = .ok (.ireturn, 1) := by decide +kernel
theorem dX9_count_76 : decode cX9_count 76 = .ok (.aload_n 0, 1) := by decide +kernel
theorem dX9_count_77 : decode cX9_count 77 = .ok (.getfield 43, 3) := by decide +kernel
theorem dX9_count_80 : decode cX9_count 80 = .ok (.getfield 247, 3) := by decide +kernel
theorem dX9_count_83 : decode cX9_count 83 = .ok (.ireturn, 1) := by decide +kernel
theorem dX9_count_84 : decode cX9_count 84 = .ok (.aload_n 0, 1) := by decide +kernel
theorem dX9_count_85 : decode cX9_count 85 = .ok (.getfield 251, 3) := by decide +kernel
theorem dX9_count_88 : decode cX9_count 88 = .ok (.ireturn, 1) := by decide +kernel
theorem dX9_count_89 : decode cX9_count 89 = .ok (.aload_n 0, 1) := by decide +kernel
theorem dX9_count_90 : decode cX9_count 90 = .ok (.getfield 48, 3) := by decide +kernel
theorem dX9_count_93 : decode cX9_count 93 = .ok (.getfield 61, 3) := by decide +kernel
theorem dX9_count_96 : decode cX9_count 96 = .ok (.ireturn, 1) := by decide +kernel
theorem dX9_count_97 : decode cX9_count 97 = .ok (.iconst (-1), 1) := by decide +kernel
theorem dX9_count_98 : decode cX9_count 98 = .ok (.ireturn, 1) := by decide +kernel
theorem dX9_thingAt_0 : decode cX9_thingAt 0 = .ok (.iload_n 1, 1) := by decide +kernel
theorem dX9_thingAt_1 : decode cX9_thingAt 1 = .ok (.iconst 1, 1) := by decide +kernel
theorem dX9_thingAt_2 : decode cX9_thingAt 2 = .ok (.if_icmp .lt 28, 3) := by decide +kernel
theorem dX9_thingAt_5 : decode cX9_thingAt 5 = .ok (.iload_n 1, 1) := by decide +kernel
theorem dX9_thingAt_6 : decode cX9_thingAt 6 = .ok (.aload_n 0, 1) := by decide +kernel
theorem dX9_thingAt_7 : decode cX9_thingAt 7 = .ok (.getfield 88, 3) := by decide +kernel
theorem dX9_thingAt_10 : decode cX9_thingAt 10 = .ok (.if_icmp .gt 20, 3) := by decide +kernel
theorem dX9_thingAt_13 : decode cX9_thingAt 13 = .ok (.iload_n 1, 1) := by decide +kernel
theorem dX9_thingAt_14 : decode cX9_thingAt 14 = .ok (.bipush 40, 2) := by decide +kernel
theorem dX9_thingAt_16 : decode cX9_thingAt 16 = .ok (.if_icmp .gt 14, 3) := by decide +kernel
theorem dX9_thingAt_19 : decode cX9_thingAt 19 = .ok (.aload_n 0, 1) := by decide +kernel
theorem dX9_thingAt_20 : decode cX9_thingAt 20 = .ok (.getfield 11, 3) := by decide +kernel
theorem dX9_thingAt_23 : decode cX9_thingAt 23 = .ok (.iload_n 1, 1) := by decide +kernel
theorem dX9_thingAt_24 : decode cX9_thingAt 24 = .ok (.iconst 1, 1) := by decide +kernel
theorem dX9_thingAt_25 : decode cX9_thingAt 25 = .ok (.isub, 1) := by decide +kernel
theorem dX9_thingAt_26 : decode cX9_thingAt 26 = .ok (.aaload, 1) := by decide +kernel
theorem dX9_thingAt_27 : decode cX9_thingAt 27 = .ok (.goto 4, 3) := by decide +kernel
theorem dX9_thingAt_30 : decode cX9_thingAt 30 = .ok (.aconst_null, 1) := by decide +kernel
theorem dX9_thingAt_31 : decode cX9_thingAt 31 = .ok (.areturn, 1) := by decide +kernel
theorem dX9_textAt_0 : decode cX9_textAt 0 = .ok (.iload_n 1, 1) := by decide +kernel
theorem dX9_textAt_1 : decode cX9_textAt 1 = .ok (.bipush 101, 2) := by decide +kernel
theorem dX9_textAt_3 : decode cX9_textAt 3 = .ok (.if_icmp .lt 32, 3) := by decide +kernel
theorem dX9_textAt_6 : decode cX9_textAt 6 = .ok (.iload_n 1, 1) := by decide +kernel
theorem dX9_textAt_7 : decode cX9_textAt 7 = .ok (.bipush 101, 2) := by decide +kernel
theorem dX9_textAt_9 : decode cX9_textAt 9 = .ok (.aload_n 0, 1) := by decide +kernel
theorem dX9_textAt_10 : decode cX9_textAt 10 = .ok (.getfield 69, 3) := by decide +kernel
theorem dX9_textAt_13 : decode cX9_textAt 13 = .ok (.iadd, 1) := by decide +kernel
theorem dX9_textAt_14 : decode cX9_textAt 14 = .ok (.if_icmp .ge 21, 3) := by decide +kernel
theorem dX9_textAt_17 : decode cX9_textAt 17 = .ok (.iload_n 1, 1) := by decide +kernel
theorem dX9_textAt_18 : decode cX9_textAt 18 = .ok (.bipush 121, 2) := by decide +kernel
theorem dX9_textAt_20 : decode cX9_textAt 20 = .ok (.if_icmp .ge 15, 3) := by decide +kernel
theorem dX9_textAt_23 : decode cX9_textAt 23 = .ok (.aload_n 0, 1) := by decide +kernel
theorem dX9_textAt_24 : decode cX9_textAt 24 = .ok (.getfield 17, 3) := by decide +kernel
theorem dX9_textAt_27 : decode cX9_textAt 27 = .ok (.iload_n 1, 1) := by decide +kernel
theorem dX9_textAt_28 : decode cX9_textAt 28 = .ok (.bipush 101, 2) := by decide +kernel
theorem dX9_textAt_30 : decode cX9_textAt 30 = .ok (.isub, 1) := by decide +kernel
theorem dX9_textAt_31 : decode cX9_textAt 31 = .ok (.aaload, 1) := by decide +kernel
theorem dX9_textAt_32 : decode cX9_textAt 32 = .ok (.goto 4, 3) := by decide +kernel
theorem dX9_textAt_35 : decode cX9_textAt 35 = .ok (.aconst_null, 1) := by decide +kernel
theorem dX9_textAt_36 : decode cX9_textAt 36 = .ok (.areturn, 1) := by decide +kernel
theorem dX9_routineAt_0 : decode cX9_routineAt 0 = .ok (.iload_n 1, 1) := by decide +kernel
theorem dX9_routineAt_1 : decode cX9_routineAt 1 = .ok (.sipush 201, 3) := by decide +kernel
theorem dX9_routineAt_4 : decode cX9_routineAt 4 = .ok (.if_icmp .lt 35, 3) := by decide +kernel
theorem dX9_routineAt_7 : decode cX9_routineAt 7 = .ok (.iload_n 1, 1) := by decide +kernel
theorem dX9_routineAt_8 : decode cX9_routineAt 8 = .ok (.sipush 201, 3) := by decide +kernel
theorem dX9_routineAt_11 : decode cX9_routineAt 11 = .ok (.aload_n 0, 1) := by decide +kernel
theorem dX9_routineAt_12 : decode cX9_routineAt 12 = .ok (.getfield 72, 3) := by decide +kernel
theorem dX9_routineAt_15 : decode cX9_routineAt 15 = .ok (.iadd, 1) := by decide +kernel
theorem dX9_routineAt_16 : decode cX9_routineAt 16 = .ok (.if_icmp .ge 23, 3) := by decide +kernel
theorem dX9_routineAt_19 : decode cX9_routineAt 19 = .ok (.iload_n 1, 1) := by decide +kernel
theorem dX9_routineAt_20 : decode cX9_routineAt 20 = .ok (.sipush 221, 3) := by decide +kernel
theorem dX9_routineAt_23 : decode cX9_routineAt 23 = .ok (.if_icmp .ge 16, 3) := by decide +kernel
theorem dX9_routineAt_26 : decode cX9_routineAt 26 = .ok (.aload_n 0, 1) := by decide +kernel
theorem dX9_routineAt_27 : decode cX9_routineAt 27 = .ok (.getfield 23, 3) := by decide +kernel
theorem dX9_routineAt_30 : decode cX9_routineAt 30 = .ok (.iload_n 1, 1) := by decide +kernel
theorem dX9_routineAt_31 : decode cX9_routineAt 31 = .ok (.sipush 201, 3) := by decide +kernel
theorem dX9_routineAt_34 : decode cX9_routineAt 34 = .ok (.isub, 1) := by decide +kernel
theorem dX9_routineAt_35 : decode cX9_routineAt 35 = .ok (.aaload, 1) := by decide +kernel
theorem dX9_routineAt_36 : decode cX9_routineAt 36 = .ok (.goto 4, 3) := by decide +kernel
theorem dX9_routineAt_39 : decode cX9_routineAt 39 = .ok (.aconst_null, 1) := by decide +kernel
theorem dX9_routineAt_40 : decode cX9_routineAt 40 = .ok (.areturn, 1) := by decide +kernel
theorem dX9_arrayAt_0 : decode cX9_arrayAt 0 = .ok (.iload_n 1, 1) := by decide +kernel
theorem dX9_arrayAt_1 : decode cX9_arrayAt 1 = .ok (.sipush 301, 3) := by decide +kernel
theorem dX9_arrayAt_4 : decode cX9_arrayAt 4 = .ok (.if_icmp .lt 35, 3) := by decide +kernel
theorem dX9_arrayAt_7 : decode cX9_arrayAt 7 = .ok (.iload_n 1, 1) := by decide +kernel
theorem dX9_arrayAt_8 : decode cX9_arrayAt 8 = .ok (.sipush 301, 3) := by decide +kernel
theorem dX9_arrayAt_11 : decode cX9_arrayAt 11 = .ok (.aload_n 0, 1) := by decide +kernel
theorem dX9_arrayAt_12 : decode cX9_arrayAt 12 = .ok (.getfield 138, 3) := by decide +kernel
theorem dX9_arrayAt_15 : decode cX9_arrayAt 15 = .ok (.iadd, 1) := by decide +kernel
theorem dX9_arrayAt_16 : decode cX9_arrayAt 16 = .ok (.if_icmp .ge 23, 3) := by decide +kernel
theorem dX9_arrayAt_19 : decode cX9_arrayAt 19 = .ok (.iload_n 1, 1) := by decide +kernel
theorem dX9_arrayAt_20 : decode cX9_arrayAt 20 = .ok (.sipush 311, 3) := by decide +kernel
theorem dX9_arrayAt_23 : decode cX9_arrayAt 23 = .ok (.if_icmp .ge 16, 3) := by decide +kernel
theorem dX9_arrayAt_26 : decode cX9_arrayAt 26 = .ok (.aload_n 0, 1) := by decide +kernel
theorem dX9_arrayAt_27 : decode cX9_arrayAt 27 = .ok (.getfield 29, 3) := by decide +kernel
theorem dX9_arrayAt_30 : decode cX9_arrayAt 30 = .ok (.iload_n 1, 1) := by decide +kernel
theorem dX9_arrayAt_31 : decode cX9_arrayAt 31 = .ok (.sipush 301, 3) := by decide +kernel
theorem dX9_arrayAt_34 : decode cX9_arrayAt 34 = .ok (.isub, 1) := by decide +kernel
theorem dX9_arrayAt_35 : decode cX9_arrayAt 35 = .ok (.aaload, 1) := by decide +kernel
theorem dX9_arrayAt_36 : decode cX9_arrayAt 36 = .ok (.goto 4, 3) := by decide +kernel
theorem dX9_arrayAt_39 : decode cX9_arrayAt 39 = .ok (.aconst_null, 1) := by decide +kernel
theorem dX9_arrayAt_40 : decode cX9_arrayAt 40 = .ok (.areturn, 1) := by decide +kernel
theorem dX9_answeringThing_0 : decode cX9_answeringThing 0 = .ok (.aload_n 0, 1) := by decide +kernel
theorem dX9_answeringThing_1 : decode cX9_answeringThing 1 = .ok (.iload_n 1, 1) := by decide +kernel
theorem dX9_answeringThing_2 : decode cX9_answeringThing 2 = .ok (.invokevirtual 115, 3) := by decide +kernel
theorem dX9_answeringThing_5 : decode cX9_answeringThing 5 = .ok (.astore_n 2, 1) := by decide +kernel
theorem dX9_answeringThing_6 : decode cX9_answeringThing 6 = .ok (.aload_n 2, 1) := by decide +kernel
theorem dX9_answeringThing_7 : decode cX9_answeringThing 7 = .ok (.ifnull 21, 3) := by decide +kernel
theorem dX9_answeringThing_10 : decode cX9_answeringThing 10 = .ok (.aload_n 2, 1) := by decide +kernel
theorem dX9_answeringThing_11 : decode cX9_answeringThing 11 = .ok (.getfield 203, 3) := by decide +kernel
theorem dX9_answeringThing_14 : decode cX9_answeringThing 14 = .ok (.ifCond .ne 10, 3) := by decide +kernel
theorem dX9_answeringThing_17 : decode cX9_answeringThing 17 = .ok (.aload_n 2, 1) := by decide +kernel
theorem dX9_answeringThing_18 : decode cX9_answeringThing 18 = .ok (.getfield 111, 3) := by decide +kernel
theorem dX9_answeringThing_21 : decode cX9_answeringThing 21 = .ok (.ifCond .eq 7, 3) := by decide +kernel
theorem dX9_answeringThing_24 : decode cX9_answeringThing 24 = .ok (.aload_n 2, 1) := by decide +kernel
theorem dX9_answeringThing_25 : decode cX9_answeringThing 25 = .ok (.goto 4, 3) := by decide +kernel
theorem dX9_answeringThing_28 : decode cX9_answeringThing 28 = .ok (.aconst_null, 1) := by decide +kernel
theorem dX9_answeringThing_29 : decode cX9_answeringThing 29 = .ok (.areturn, 1) := by decide +kernel
theorem dX9_isNoneOrClass_0 : decode cX9_isNoneOrClass 0 = .ok (.iload_n 1, 1) := by decide +kernel
theorem dX9_isNoneOrClass_1 : decode cX9_isNoneOrClass 1 = .ok (.ifCond .eq 12, 3) := by decide +kernel
theorem dX9_isNoneOrClass_4 : decode cX9_isNoneOrClass 4 = .ok (.aload_n 0, 1) := by decide +kernel
theorem dX9_isNoneOrClass_5 : decode cX9_isNoneOrClass 5 = .ok (.iload_n 1, 1) := by decide +kernel
theorem dX9_isNoneOrClass_6 : decode cX9_isNoneOrClass 6 = .ok (.invokevirtual 172, 3) := by decide +kernel
theorem dX9_isNoneOrClass_9 : decode cX9_isNoneOrClass 9 = .ok (.iconst 1, 1) := by decide +kernel
theorem dX9_isNoneOrClass_10 : decode cX9_isNoneOrClass 10 = .ok (.if_icmp .ne 7, 3) := by decide +kernel
theorem dX9_isNoneOrClass_13 : decode cX9_isNoneOrClass 13 = .ok (.iconst 1, 1) := by decide +kernel
theorem dX9_isNoneOrClass_14 : decode cX9_isNoneOrClass 14 = .ok (.goto 4, 3) := by decide +kernel
theorem dX9_isNoneOrClass_17 : decode cX9_isNoneOrClass 17 = .ok (.iconst 0, 1) := by decide +kernel
theorem dX9_isNoneOrClass_18 : decode cX9_isNoneOrClass 18 = .ok (.ireturn, 1) := by decide +kernel
theorem dX9_addThing_0 : decode cX9_addThing 0 = .ok (.aload_n 0, 1) := by decide +kernel
theorem dX9_addThing_1 : decode cX9_addThing 1 = .ok (.getfield 88, 3) := by decide +kernel
theorem dX9_addThing_4 : decode cX9_addThing 4 = .ok (.ifCond .lt 32, 3) := by decide +kernel
theorem dX9_addThing_7 : decode cX9_addThing 7 = .ok (.aload_n 0, 1) := by decide +kernel
theorem dX9_addThing_8 : decode cX9_addThing 8 = .ok (.getfield 88, 3) := by decide +kernel
theorem dX9_addThing_11 : decode cX9_addThing 11 = .ok (.bipush 40, 2) := by decide +kernel
theorem dX9_addThing_13 : decode cX9_addThing 13 = .ok (.if_icmp .ge 23, 3) := by decide +kernel
theorem dX9_addThing_16 : decode cX9_addThing 16 = .ok (.aload_n 0, 1) := by decide +kernel
theorem dX9_addThing_17 : decode cX9_addThing 17 = .ok (.getfield 11, 3) := by decide +kernel
theorem dX9_addThing_20 : decode cX9_addThing 20 = .ok (.aload_n 0, 1) := by decide +kernel
theorem dX9_addThing_21 : decode cX9_addThing 21 = .ok (.getfield 88, 3) := by decide +kernel
theorem dX9_addThing_24 : decode cX9_addThing 24 = .ok (.aload_n 1, 1) := by decide +kernel
theorem dX9_addThing_25 : decode cX9_addThing 25 = .ok (.aastore, 1) := by decide +kernel
theorem dX9_addThing_26 : decode cX9_addThing 26 = .ok (.aload_n 0, 1) := by decide +kernel
theorem dX9_addThing_27 : decode cX9_addThing 27 = .ok (.dup, 1) := by decide +kernel
theorem dX9_addThing_28 : decode cX9_addThing 28 = .ok (.getfield 88, 3) := by decide +kernel
theorem dX9_addThing_31 : decode cX9_addThing 31 = .ok (.iconst 1, 1) := by decide +kernel
theorem dX9_addThing_32 : decode cX9_addThing 32 = .ok (.iadd, 1) := by decide +kernel
theorem dX9_addThing_33 : decode cX9_addThing 33 = .ok (.putfield 88, 3) := by decide +kernel
theorem dX9_addThing_36 : decode cX9_addThing 36 = .ok (.return_, 1) := by decide +kernel
theorem dX9_addLines_0 : decode cX9_addLines 0 = .ok (.aload_n 0, 1) := by decide +kernel
theorem dX9_addLines_1 : decode cX9_addLines 1 = .ok (.iload_n 2, 1) := by decide +kernel
theorem dX9_addLines_2 : decode cX9_addLines 2 = .ok (.invokevirtual 115, 3) := by decide +kernel
theorem dX9_addLines_5 : decode cX9_addLines 5 = .ok (.astore 4, 2) := by decide +kernel
theorem dX9_addLines_7 : decode cX9_addLines 7 = .ok (.aload 4, 2) := by decide +kernel
theorem dX9_addLines_9 : decode cX9_addLines 9 = .ok (.ifnull 12, 3) := by decide +kernel
theorem dX9_addLines_12 : decode cX9_addLines 12 = .ok (.aload_n 1, 1) := by decide +kernel
theorem dX9_addLines_13 : decode cX9_addLines 13 = .ok (.aload 4, 2) := by decide +kernel
theorem dX9_addLines_15 : decode cX9_addLines 15 = .ok (.getfield 210, 3) := by decide +kernel
theorem dX9_addLines_18 : decode cX9_addLines 18 = .ok (.invokevirtual 254, 3) := by decide +kernel
theorem dX9_addLines_21 : decode cX9_addLines 21 = .ok (.aload_n 0, 1) := by decide +kernel
theorem dX9_addLines_22 : decode cX9_addLines 22 = .ok (.iload_n 3, 1) := by decide +kernel
theorem dX9_addLines_23 : decode cX9_addLines 23 = .ok (.invokevirtual 115, 3) := by decide +kernel
theorem dX9_addLines_26 : decode cX9_addLines 26 = .ok (.astore 5, 2) := by decide +kernel
theorem dX9_addLines_28 : decode cX9_addLines 28 = .ok (.aload 5, 2) := by decide +kernel
theorem dX9_addLines_30 : decode cX9_addLines 30 = .ok (.ifnull 12, 3) := by decide +kernel
theorem dX9_addLines_33 : decode cX9_addLines 33 = .ok (.aload_n 1, 1) := by decide +kernel
theorem dX9_addLines_34 : decode cX9_addLines 34 = .ok (.aload 5, 2) := by decide +kernel
theorem dX9_addLines_36 : decode cX9_addLines 36 = .ok (.getfield 210, 3) := by decide +kernel
theorem dX9_addLines_39 : decode cX9_addLines 39 = .ok (.invokevirtual 254, 3) := by decide +kernel
theorem dX9_addLines_42 : decode cX9_addLines 42 = .ok (.return_, 1) := by decide +kernel
theorem dX9_takeRowsOfLine_0 : decode cX9_takeRowsOfLine 0 = .ok (.aload_n 1, 1) := by decide +kernel
theorem dX9_takeRowsOfLine_1 : decode cX9_takeRowsOfLine 1 = .ok (.getfield 124, 3) := by decide +kernel
theorem dX9_takeRowsOfLine_4 : decode cX9_takeRowsOfLine 4 = .ok (.invokevirtual 258, 3) := by decide +kernel
theorem dX9_takeRowsOfLine_7 : decode cX9_takeRowsOfLine 7 = .ok (.iconst 0, 1) := by decide +kernel
theorem dX9_takeRowsOfLine_8 : decode cX9_takeRowsOfLine 8 = .ok (.istore_n 2, 1) := by decide +kernel
theorem dX9_takeRowsOfLine_9 : decode cX9_takeRowsOfLine 9 = .ok (.iload_n 2, 1) := by decide +kernel
theorem dX9_takeRowsOfLine_10 : decode cX9_takeRowsOfLine 10 = .ok (.aload_n 1, 1) := by decide +kernel
theorem dX9_takeRowsOfLine_11 : decode cX9_takeRowsOfLine 11 = .ok (.getfield 210, 3) := by decide +kernel
theorem dX9_takeRowsOfLine_14 : decode cX9_takeRowsOfLine 14 = .ok (.getfield 261, 3) := by decide +kernel
theorem dX9_takeRowsOfLine_17 : decode cX9_takeRowsOfLine 17 = .ok (.if_icmp .ge 37, 3) := by decide +kernel
theorem dX9_takeRowsOfLine_20 : decode cX9_takeRowsOfLine 20 = .ok (.aload_n 0, 1) := by decide +kernel
theorem dX9_takeRowsOfLine_21 : decode cX9_takeRowsOfLine 21 = .ok (.aload_n 1, 1) := by decide +kernel
theorem dX9_takeRowsOfLine_22 : decode cX9_takeRowsOfLine 22 = .ok (.getfield 210, 3) := by decide +kernel
theorem dX9_takeRowsOfLine_25 : decode cX9_takeRowsOfLine 25 = .ok (.iload_n 2, 1) := by decide +kernel
theorem dX9_takeRowsOfLine_26 : decode cX9_takeRowsOfLine 26 = .ok (.invokevirtual 262, 3) := by decide +kernel
theorem dX9_takeRowsOfLine_29 : decode cX9_takeRowsOfLine 29 = .ok (.invokevirtual 115, 3) := by decide +kernel
theorem dX9_takeRowsOfLine_32 : decode cX9_takeRowsOfLine 32 = .ok (.astore_n 3, 1) := by decide +kernel
theorem dX9_takeRowsOfLine_33 : decode cX9_takeRowsOfLine 33 = .ok (.aload_n 3, 1) := by decide +kernel
theorem dX9_takeRowsOfLine_34 : decode cX9_takeRowsOfLine 34 = .ok (.ifnull 14, 3) := by decide +kernel
theorem dX9_takeRowsOfLine_37 : decode cX9_takeRowsOfLine 37 = .ok (.aload_n 1, 1) := by decide +kernel
theorem dX9_takeRowsOfLine_38 : decode cX9_takeRowsOfLine 38 = .ok (.getfield 124, 3) := by decide +kernel
theorem dX9_takeRowsOfLine_41 : decode cX9_takeRowsOfLine 41 = .ok (.aload_n 3, 1) := by decide +kernel
theorem dX9_takeRowsOfLine_42 : decode cX9_takeRowsOfLine 42 = .ok (.getfield 124, 3) := by decide +kernel
theorem dX9_takeRowsOfLine_45 : decode cX9_takeRowsOfLine 45 = .ok (.invokevirtual 263, 3) := by decide +kernel
theorem dX9_takeRowsOfLine_48 : decode cX9_takeRowsOfLine 48 = .ok (.iinc 2 1, 3) := by decide +kernel
theorem dX9_takeRowsOfLine_51 : decode cX9_takeRowsOfLine 51 = .ok (.goto (-42), 3) := by decide +kernel
theorem dX9_takeRowsOfLine_54 : decode cX9_takeRowsOfLine 54 = .ok (.return_, 1) := by decide +kernel
theorem dX9_thingWithValue_0 : decode cX9_thingWithValue 0 = .ok (.aload_n 0, 1) := by decide +kernel
theorem dX9_thingWithValue_1 : decode cX9_thingWithValue 1 = .ok (.iload_n 1, 1) := by decide +kernel
theorem dX9_thingWithValue_2 : decode cX9_thingWithValue 2 = .ok (.invokevirtual 217, 3) := by decide +kernel
theorem dX9_thingWithValue_5 : decode cX9_thingWithValue 5 = .ok (.astore 4, 2) := by decide +kernel
theorem dX9_thingWithValue_7 : decode cX9_thingWithValue 7 = .ok (.aload 4, 2) := by decide +kernel
theorem dX9_thingWithValue_9 : decode cX9_thingWithValue 9 = .ok (.ifnonnull 16, 3) := by decide +kernel
theorem dX9_thingWithValue_12 : decode cX9_thingWithValue 12 = .ok (.aload_n 0, 1) := by decide +kernel
theorem dX9_thingWithValue_13 : decode cX9_thingWithValue 13 = .ok (.getfield 57, 3) := by decide +kernel
theorem dX9_thingWithValue_16 : decode cX9_thingWithValue 16 = .ok (.iconst 1, 1) := by decide +kernel
theorem dX9_thingWithValue_17 : decode cX9_thingWithValue 17 = .ok (.iload_n 1, 1) := by decide +kernel
theorem dX9_thingWithValue_18 : decode cX9_thingWithValue 18 = .ok (.iload_n 2, 1) := by decide +kernel
theorem dX9_thingWithValue_19 : decode cX9_thingWithValue 19 = .ok (.invokevirtual 175, 3) := by decide +kernel
theorem dX9_thingWithValue_22 : decode cX9_thingWithValue 22 = .ok (.pop, 1) := by decide +kernel
theorem dX9_thingWithValue_23 : decode cX9_thingWithValue 23 = .ok (.aconst_null, 1) := by decide +kernel
theorem dX9_thingWithValue_24 : decode cX9_thingWithValue 24 = .ok (.areturn, 1) := by decide +kernel
theorem dX9_thingWithValue_25 : decode cX9_thingWithValue 25 = .ok (.aload 4, 2) := by decide +kernel
theorem dX9_thingWithValue_27 : decode cX9_thingWithValue 27 = .ok (.getfield 124, 3) := by decide +kernel
theorem dX9_thingWithValue_30 : decode cX9_thingWithValue 30 = .ok (.iload_n 2, 1) := by decide +kernel
theorem dX9_thingWithValue_31 : decode cX9_thingWithValue 31 = .ok (.invokevirtual 128, 3) := by decide +kernel
theorem dX9_thingWithValue_34 : decode cX9_thingWithValue 34 = .ok (.istore 5, 2) := by decide +kernel
theorem dX9_thingWithValue_36 : decode cX9_thingWithValue 36 = .ok (.iload_n 3, 1) := by decide +kernel
theorem dX9_thingWithValue_37 : decode cX9_thingWithValue 37 = .ok (.ifCond .lt 12, 3) := by decide +kernel
theorem dX9_thingWithValue_40 : decode cX9_thingWithValue 40 = .ok (.iload_n 3, 1) := by decide +kernel
theorem dX9_thingWithValue_41 : decode cX9_thingWithValue 41 = .ok (.iload 5, 2) := by decide +kernel
theorem dX9_thingWithValue_43 : decode cX9_thingWithValue 43 = .ok (.if_icmp .ge 6, 3) := by decide +kernel
theorem dX9_thingWithValue_46 : decode cX9_thingWithValue 46 = .ok (.aload 4, 2) := by decide +kernel
theorem dX9_thingWithValue_48 : decode cX9_thingWithValue 48 = .ok (.areturn, 1) := by decide +kernel
theorem dX9_thingWithValue_49 : decode cX9_thingWithValue 49 = .ok (.aload_n 0, 1) := by decide +kernel
theorem dX9_thingWithValue_50 : decode cX9_thingWithValue 50 = .ok (.getfield 57, 3) := by decide +kernel
theorem dX9_thingWithValue_53 : decode cX9_thingWithValue 53 = .ok (.iload 5, 2) := by decide +kernel
theorem dX9_thingWithValue_55 : decode cX9_thingWithValue 55 = .ok (.ifCond .ne 7, 3) := by decide +kernel
theorem dX9_thingWithValue_58 : decode cX9_thingWithValue 58 = .ok (.iconst 3, 1) := by decide +kernel
theorem dX9_thingWithValue_59 : decode cX9_thingWithValue 59 = .ok (.goto 4, 3) := by decide +kernel
theorem dX9_thingWithValue_62 : decode cX9_thingWithValue 62 = .ok (.iconst 5, 1) := by decide +kernel
theorem dX9_thingWithValue_63 : decode cX9_thingWithValue 63 = .ok (.iload_n 1, 1) := by decide +kernel
theorem dX9_thingWithValue_64 : decode cX9_thingWithValue 64 = .ok (.iload_n 2, 1) := by decide +kernel
theorem dX9_thingWithValue_65 : decode cX9_thingWithValue 65 = .ok (.invokevirtual 175, 3) := by decide +kernel
theorem dX9_thingWithValue_68 : decode cX9_thingWithValue 68 = .ok (.pop, 1) := by decide +kernel
theorem dX9_thingWithValue_69 : decode cX9_thingWithValue 69 = .ok (.aconst_null, 1) := by decide +kernel
theorem dX9_thingWithValue_70 : decode cX9_thingWithValue 70 = .ok (.areturn, 1) := by decide +kernel
theorem dX9_arrayWithWord_0 : decode cX9_arrayWithWord 0 = .ok (.aload_n 0, 1) := by decide +kernel
theorem dX9_arrayWithWord_1 : decode cX9_arrayWithWord 1 = .ok (.iload_n 1, 1) := by decide +kernel
theorem dX9_arrayWithWord_2 : decode cX9_arrayWithWord 2 = .ok (.invokevirtual 206, 3) := by decide +kernel
theorem dX9_arrayWithWord_5 : decode cX9_arrayWithWord 5 = .ok (.astore 4, 2) := by decide +kernel
theorem dX9_arrayWithWord_7 : decode cX9_arrayWithWord 7 = .ok (.aload 4, 2) := by decide +kernel
theorem dX9_arrayWithWord_9 : decode cX9_arrayWithWord 9 = .ok (.ifnull 15, 3) := by decide +kernel
theorem dX9_arrayWithWord_12 : decode cX9_arrayWithWord 12 = .ok (.aload 4, 2) := by decide +kernel
theorem dX9_arrayWithWord_14 : decode cX9_arrayWithWord 14 = .ok (.iload_n 2, 1) := by decide +kernel
theorem dX9_arrayWithWord_15 : decode cX9_arrayWithWord 15 = .ok (.invokevirtual 267, 3) := by decide +kernel
theorem dX9_arrayWithWord_18 : decode cX9_arrayWithWord 18 = .ok (.ifCond .eq 6, 3) := by decide +kernel
theorem dX9_arrayWithWord_21 : decode cX9_arrayWithWord 21 = .ok (.aload 4, 2) := by decide +kernel
theorem dX9_arrayWithWord_23 : decode cX9_arrayWithWord 23 = .ok (.areturn, 1) := by decide +kernel
theorem dX9_arrayWithWord_24 : decode cX9_arrayWithWord 24 = .ok (.aload_n 0, 1) := by decide +kernel
theorem dX9_arrayWithWord_25 : decode cX9_arrayWithWord 25 = .ok (.getfield 57, 3) := by decide +kernel
theorem dX9_arrayWithWord_28 : decode cX9_arrayWithWord 28 = .ok (.aload 4, 2) := by decide +kernel
theorem dX9_arrayWithWord_30 : decode cX9_arrayWithWord 30 = .ok (.ifnonnull 8, 3) := by decide +kernel
theorem dX9_arrayWithWord_33 : decode cX9_arrayWithWord 33 = .ok (.bipush 14, 2) := by decide +kernel
theorem dX9_arrayWithWord_35 : decode cX9_arrayWithWord 35 = .ok (.goto 5, 3) := by decide +kernel
theorem dX9_arrayWithWord_38 : decode cX9_arrayWithWord 38 = .ok (.bipush 12, 2) := by decide +kernel
theorem dX9_arrayWithWord_40 : decode cX9_arrayWithWord 40 = .ok (.iload_n 1, 1) := by decide +kernel
theorem dX9_arrayWithWord_41 : decode cX9_arrayWithWord 41 = .ok (.iload_n 3, 1) := by decide +kernel
theorem dX9_arrayWithWord_42 : decode cX9_arrayWithWord 42 = .ok (.invokevirtual 175, 3) := by decide +kernel
theorem dX9_arrayWithWord_45 : decode cX9_arrayWithWord 45 = .ok (.pop, 1) := by decide +kernel
theorem dX9_arrayWithWord_46 : decode cX9_arrayWithWord 46 = .ok (.aconst_null, 1) := by decide +kernel
theorem dX9_arrayWithWord_47 : decode cX9_arrayWithWord 47 = .ok (.areturn, 1) := by decide +kernel
theorem dX9_startActs_0 : decode cX9_startActs 0 = .ok (.aload_n 0, 1) := by decide +kernel
theorem dX9_startActs_1 : decode cX9_startActs 1 = .ok (.iconst 0, 1) := by decide +kernel
theorem dX9_startActs_2 : decode cX9_startActs 2 = .ok (.putfield 251, 3) := by decide +kernel
theorem dX9_startActs_5 : decode cX9_startActs 5 = .ok (.aload_n 0, 1) := by decide +kernel
theorem dX9_startActs_6 : decode cX9_startActs 6 = .ok (.iconst 0, 1) := by decide +kernel
theorem dX9_startActs_7 : decode cX9_startActs 7 = .ok (.putfield 268, 3) := by decide +kernel
theorem dX9_startActs_10 : decode cX9_startActs 10 = .ok (.return_, 1) := by decide +kernel
theorem dX9_sendTo_0 : decode cX9_sendTo 0 = .ok (.aload_n 0, 1) := by decide +kernel
theorem dX9_sendTo_1 : decode cX9_sendTo 1 = .ok (.iload_n 1, 1) := by decide +kernel
theorem dX9_sendTo_2 : decode cX9_sendTo 2 = .ok (.invokevirtual 217, 3) := by decide +kernel
theorem dX9_sendTo_5 : decode cX9_sendTo 5 = .ok (.astore 5, 2) := by decide +kernel
theorem dX9_sendTo_7 : decode cX9_sendTo 7 = .ok (.aload 5, 2) := by decide +kernel
theorem dX9_sendTo_9 : decode cX9_sendTo 9 = .ok (.ifnonnull 14, 3) := by decide +kernel
theorem dX9_sendTo_12 : decode cX9_sendTo 12 = .ok (.aload_n 0, 1) := by decide +kernel
theorem dX9_sendTo_13 : decode cX9_sendTo 13 = .ok (.getfield 57, 3) := by decide +kernel
theorem dX9_sendTo_16 : decode cX9_sendTo 16 = .ok (.iconst 1, 1) := by decide +kernel
theorem dX9_sendTo_17 : decode cX9_sendTo 17 = .ok (.iload_n 1, 1) := by decide +kernel
theorem dX9_sendTo_18 : decode cX9_sendTo 18 = .ok (.iload_n 2, 1) := by decide +kernel
theorem dX9_sendTo_19 : decode cX9_sendTo 19 = .ok (.invokevirtual 175, 3) := by decide +kernel
theorem dX9_sendTo_22 : decode cX9_sendTo 22 = .ok (.ireturn, 1) := by decide +kernel
theorem dX9_sendTo_23 : decode cX9_sendTo 23 = .ok (.aload 5, 2) := by decide +kernel
theorem dX9_sendTo_25 : decode cX9_sendTo 25 = .ok (.getfield 203, 3) := by decide +kernel
theorem dX9_sendTo_28 : decode cX9_sendTo 28 = .ok (.ifCond .eq 13, 3) := by decide +kernel
theorem dX9_sendTo_31 : decode cX9_sendTo 31 = .ok (.aload_n 0, 1) := by decide +kernel
theorem dX9_sendTo_32 : decode cX9_sendTo 32 = .ok (.iload_n 1, 1) := by decide +kernel
theorem dX9_sendTo_33 : decode cX9_sendTo 33 = .ok (.iload_n 2, 1) := by decide +kernel
theorem dX9_sendTo_34 : decode cX9_sendTo 34 = .ok (.iload_n 3, 1) := by decide +kernel
theorem dX9_sendTo_35 : decode cX9_sendTo 35 = .ok (.iload 4, 2) := by decide +kernel
theorem dX9_sendTo_37 : decode cX9_sendTo 37 = .ok (.invokevirtual 271, 3) := by decide +kernel
theorem dX9_sendTo_40 : decode cX9_sendTo 40 = .ok (.ireturn, 1) := by decide +kernel
theorem dX9_sendTo_41 : decode cX9_sendTo 41 = .ok (.aload_n 0, 1) := by decide +kernel
theorem dX9_sendTo_42 : decode cX9_sendTo 42 = .ok (.aload 5, 2) := by decide +kernel
theorem dX9_sendTo_44 : decode cX9_sendTo 44 = .ok (.getfield 124, 3) := by decide +kernel
theorem dX9_sendTo_47 : decode cX9_sendTo 47 = .ok (.iload_n 1, 1) := by decide +kernel
theorem dX9_sendTo_48 : decode cX9_sendTo 48 = .ok (.iload_n 2, 1) := by decide +kernel
theorem dX9_sendTo_49 : decode cX9_sendTo 49 = .ok (.iload_n 3, 1) := by decide +kernel
theorem dX9_sendTo_50 : decode cX9_sendTo 50 = .ok (.iload 4, 2) := by decide +kernel
theorem dX9_sendTo_52 : decode cX9_sendTo 52 = .ok (.invokevirtual 274, 3) := by decide +kernel
theorem dX9_sendTo_55 : decode cX9_sendTo 55 = .ok (.ireturn, 1) := by decide +kernel
theorem dX9_sendToClass_0 : decode cX9_sendToClass 0 = .ok (.iload_n 2, 1) := by decide +kernel
theorem dX9_sendToClass_1 : decode cX9_sendToClass 1 = .ok (.tableswitch 64 12 15 #[31, 40, 49, 55], 31) := by decide +kernel
theorem dX9_sendToClass_32 : decode cX9_sendToClass 32 = .ok (.aload_n 0, 1) := by decide +kernel
theorem dX9_sendToClass_33 : decode cX9_sendToClass 33 = .ok (.iload_n 1, 1) := by decide +kernel
theorem dX9_sendToClass_34 : decode cX9_sendToClass 34 = .ok (.iload_n 3, 1) := by decide +kernel
theorem dX9_sendToClass_35 : decode cX9_sendToClass 35 = .ok (.iload 4, 2) := by decide +kernel
theorem dX9_sendToClass_37 : decode cX9_sendToClass 37 = .ok (.invokevirtual 278, 3) := by decide +kernel
theorem dX9_sendToClass_40 : decode cX9_sendToClass 40 = .ok (.ireturn, 1) := by decide +kernel
theorem dX9_sendToClass_41 : decode cX9_sendToClass 41 = .ok (.aload_n 0, 1) := by decide +kernel
theorem dX9_sendToClass_42 : decode cX9_sendToClass 42 = .ok (.iload_n 1, 1) := by decide +kernel
theorem dX9_sendToClass_43 : decode cX9_sendToClass 43 = .ok (.iload_n 3, 1) := by decide +kernel
theorem dX9_sendToClass_44 : decode cX9_sendToClass 44 = .ok (.iload 4, 2) := by decide +kernel
theorem dX9_sendToClass_46 : decode cX9_sendToClass 46 = .ok (.invokevirtual 281, 3) := by decide +kernel
theorem dX9_sendToClass_49 : decode cX9_sendToClass 49 = .ok (.ireturn, 1) := by decide +kernel
theorem dX9_sendToClass_50 : decode cX9_sendToClass 50 = .ok (.aload_n 0, 1) := by decide +kernel
theorem dX9_sendToClass_51 : decode cX9_sendToClass 51 = .ok (.iload_n 1, 1) := by decide +kernel
theorem dX9_sendToClass_52 : decode cX9_sendToClass 52 = .ok (.invokevirtual 284, 3) := by decide +kernel
theorem dX9_sendToClass_55 : decode cX9_sendToClass 55 = .ok (.ireturn, 1) := by decide +kernel
theorem dX9_sendToClass_56 : decode cX9_sendToClass 56 = .ok (.aload_n 0, 1) := by decide +kernel
theorem dX9_sendToClass_57 : decode cX9_sendToClass 57 = .ok (.iload_n 1, 1) := by decide +kernel
theorem dX9_sendToClass_58 : decode cX9_sendToClass 58 = .ok (.iload_n 3, 1) := by decide +kernel
theorem dX9_sendToClass_59 : decode cX9_sendToClass 59 = .ok (.iload 4, 2) := by decide +kernel
theorem dX9_sendToClass_61 : decode cX9_sendToClass 61 = .ok (.invokevirtual 287, 3) := by decide +kernel
theorem dX9_sendToClass_64 : decode cX9_sendToClass 64 = .ok (.ireturn, 1) := by decide +kernel
theorem dX9_sendToClass_65 : decode cX9_sendToClass 65 = .ok (.aload_n 0, 1) := by decide +kernel
theorem dX9_sendToClass_66 : decode cX9_sendToClass 66 = .ok (.getfield 57, 3) := by decide +kernel
theorem dX9_sendToClass_69 : decode cX9_sendToClass 69 = .ok (.iconst 2, 1) := by decide +kernel
theorem dX9_sendToClass_70 : decode cX9_sendToClass 70 = .ok (.iload_n 1, 1) := by decide +kernel
theorem dX9_sendToClass_71 : decode cX9_sendToClass 71 = .ok (.iload_n 2, 1) := by decide +kernel
theorem dX9_sendToClass_72 : decode cX9_sendToClass 72 = .ok (.invokevirtual 175, 3) := by decide +kernel
theorem dX9_sendToClass_75 : decode cX9_sendToClass 75 = .ok (.ireturn, 1) := by decide +kernel
theorem dX9_sendToAs_0 : decode cX9_sendToAs 0 = .ok (.aload_n 0, 1) := by decide +kernel
theorem dX9_sendToAs_1 : decode cX9_sendToAs 1 = .ok (.iload_n 2, 1) := by decide +kernel
theorem dX9_sendToAs_2 : decode cX9_sendToAs 2 = .ok (.invokevirtual 172, 3) := by decide +kernel
theorem dX9_sendToAs_5 : decode cX9_sendToAs 5 = .ok (.iconst 2, 1) := by decide +kernel
theorem dX9_sendToAs_6 : decode cX9_sendToAs 6 = .ok (.if_icmp .eq 14, 3) := by decide +kernel
theorem dX9_sendToAs_9 : decode cX9_sendToAs 9 = .ok (.aload_n 0, 1) := by decide +kernel
theorem dX9_sendToAs_10 : decode cX9_sendToAs 10 = .ok (.getfield 57, 3) := by decide +kernel
theorem dX9_sendToAs_13 : decode cX9_sendToAs 13 = .ok (.iconst 1, 1) := by decide +kernel
theorem dX9_sendToAs_14 : decode cX9_sendToAs 14 = .ok (.iload_n 2, 1) := by decide +kernel
theorem dX9_sendToAs_15 : decode cX9_sendToAs 15 = .ok (.iload_n 3, 1) := by decide +kernel
theorem dX9_sendToAs_16 : decode cX9_sendToAs 16 = .ok (.invokevirtual 175, 3) := by decide +kernel
theorem dX9_sendToAs_19 : decode cX9_sendToAs 19 = .ok (.ireturn, 1) := by decide +kernel
theorem dX9_sendToAs_20 : decode cX9_sendToAs 20 = .ok (.aload_n 0, 1) := by decide +kernel
theorem dX9_sendToAs_21 : decode cX9_sendToAs 21 = .ok (.iload_n 1, 1) := by decide +kernel
theorem dX9_sendToAs_22 : decode cX9_sendToAs 22 = .ok (.invokevirtual 115, 3) := by decide +kernel
theorem dX9_sendToAs_25 : decode cX9_sendToAs 25 = .ok (.astore 6, 2) := by decide +kernel
theorem dX9_sendToAs_27 : decode cX9_sendToAs 27 = .ok (.aload 6, 2) := by decide +kernel
theorem dX9_sendToAs_29 : decode cX9_sendToAs 29 = .ok (.ifnull 12, 3) := by decide +kernel
theorem dX9_sendToAs_32 : decode cX9_sendToAs 32 = .ok (.aload_n 0, 1) := by decide +kernel
theorem dX9_sendToAs_33 : decode cX9_sendToAs 33 = .ok (.iload_n 2, 1) := by decide +kernel
theorem dX9_sendToAs_34 : decode cX9_sendToAs 34 = .ok (.iload_n 1, 1) := by decide +kernel
theorem dX9_sendToAs_35 : decode cX9_sendToAs 35 = .ok (.invokevirtual 290, 3) := by decide +kernel
theorem dX9_sendToAs_38 : decode cX9_sendToAs 38 = .ok (.ifCond .ne 14, 3) := by decide +kernel
theorem dX9_sendToAs_41 : decode cX9_sendToAs 41 = .ok (.aload_n 0, 1) := by decide +kernel
theorem dX9_sendToAs_42 : decode cX9_sendToAs 42 = .ok (.getfield 57, 3) := by decide +kernel
theorem dX9_sendToAs_45 : decode cX9_sendToAs 45 = .ok (.iconst 4, 1) := by decide +kernel
theorem dX9_sendToAs_46 : decode cX9_sendToAs 46 = .ok (.iload_n 2, 1) := by decide +kernel
theorem dX9_sendToAs_47 : decode cX9_sendToAs 47 = .ok (.iload_n 3, 1) := by decide +kernel
theorem dX9_sendToAs_48 : decode cX9_sendToAs 48 = .ok (.invokevirtual 175, 3) := by decide +kernel
theorem dX9_sendToAs_51 : decode cX9_sendToAs 51 = .ok (.ireturn, 1) := by decide +kernel
theorem dX9_sendToAs_52 : decode cX9_sendToAs 52 = .ok (.aload_n 0, 1) := by decide +kernel
theorem dX9_sendToAs_53 : decode cX9_sendToAs 53 = .ok (.aload 6, 2) := by decide +kernel
theorem dX9_sendToAs_55 : decode cX9_sendToAs 55 = .ok (.getfield 124, 3) := by decide +kernel
theorem dX9_sendToAs_58 : decode cX9_sendToAs 58 = .ok (.iload_n 2, 1) := by decide +kernel
theorem dX9_sendToAs_59 : decode cX9_sendToAs 59 = .ok (.iload_n 3, 1) := by decide +kernel
theorem dX9_sendToAs_60 : decode cX9_sendToAs 60 = .ok (.iload 4, 2) := by decide +kernel
theorem dX9_sendToAs_62 : decode cX9_sendToAs 62 = .ok (.iload 5, 2) := by decide +kernel
theorem dX9_sendToAs_64 : decode cX9_sendToAs 64 = .ok (.invokevirtual 274, 3) := by decide +kernel
theorem dX9_sendToAs_67 : decode cX9_sendToAs 67 = .ok (.ireturn, 1) := by decide +kernel
theorem dX9_answerOfRow_0 : decode cX9_answerOfRow 0 = .ok (.aload_n 1, 1) := by decide +kernel
theorem dX9_answerOfRow_1 : decode cX9_answerOfRow 1 = .ok (.iload_n 3, 1) := by decide +kernel
theorem dX9_answerOfRow_2 : decode cX9_answerOfRow 2 = .ok (.invokevirtual 128, 3) := by decide +kernel
theorem dX9_answerOfRow_5 : decode cX9_answerOfRow 5 = .ok (.ifCond .ne 14, 3) := by decide +kernel
theorem dX9_answerOfRow_8 : decode cX9_answerOfRow 8 = .ok (.aload_n 0, 1) := by decide +kernel
theorem dX9_answerOfRow_9 : decode cX9_answerOfRow 9 = .ok (.getfield 57, 3) := by decide +kernel
theorem dX9_answerOfRow_12 : decode cX9_answerOfRow 12 = .ok (.iconst 3, 1) := by decide +kernel
theorem dX9_answerOfRow_13 : decode cX9_answerOfRow 13 = .ok (.iload_n 2, 1) := by decide +kernel
theorem dX9_answerOfRow_14 : decode cX9_answerOfRow 14 = .ok (.iload_n 3, 1) := by decide +kernel
theorem dX9_answerOfRow_15 : decode cX9_answerOfRow 15 = .ok (.invokevirtual 175, 3) := by decide +kernel
theorem dX9_answerOfRow_18 : decode cX9_answerOfRow 18 = .ok (.ireturn, 1) := by decide +kernel
theorem dX9_answerOfRow_19 : decode cX9_answerOfRow 19 = .ok (.aload_n 1, 1) := by decide +kernel
theorem dX9_answerOfRow_20 : decode cX9_answerOfRow 20 = .ok (.iload_n 3, 1) := by decide +kernel
theorem dX9_answerOfRow_21 : decode cX9_answerOfRow 21 = .ok (.iconst 0, 1) := by decide +kernel
theorem dX9_answerOfRow_22 : decode cX9_answerOfRow 22 = .ok (.invokevirtual 168, 3) := by decide +kernel
theorem dX9_answerOfRow_25 : decode cX9_answerOfRow 25 = .ok (.istore 6, 2) := by decide +kernel
theorem dX9_answerOfRow_27 : decode cX9_answerOfRow 27 = .ok (.aload_n 0, 1) := by decide +kernel
theorem dX9_answerOfRow_28 : decode cX9_answerOfRow 28 = .ok (.iload 6, 2) := by decide +kernel
theorem dX9_answerOfRow_30 : decode cX9_answerOfRow 30 = .ok (.invokevirtual 143, 3) := by decide +kernel
theorem dX9_answerOfRow_33 : decode cX9_answerOfRow 33 = .ok (.astore 7, 2) := by decide +kernel
theorem dX9_answerOfRow_35 : decode cX9_answerOfRow 35 = .ok (.aload 7, 2) := by decide +kernel
theorem dX9_answerOfRow_37 : decode cX9_answerOfRow 37 = .ok (.ifnull 14, 3) := by decide +kernel
theorem dX9_answerOfRow_40 : decode cX9_answerOfRow 40 = .ok (.aload_n 0, 1) := by decide +kernel
theorem dX9_answerOfRow_41 : decode cX9_answerOfRow 41 = .ok (.getfield 43, 3) := by decide +kernel
theorem dX9_answerOfRow_44 : decode cX9_answerOfRow 44 = .ok (.aload 7, 2) := by decide +kernel
theorem dX9_answerOfRow_46 : decode cX9_answerOfRow 46 = .ok (.invokevirtual 293, 3) := by decide +kernel
theorem dX9_answerOfRow_49 : decode cX9_answerOfRow 49 = .ok (.iconst 1, 1) := by decide +kernel
theorem dX9_answerOfRow_50 : decode cX9_answerOfRow 50 = .ok (.ireturn, 1) := by decide +kernel
theorem dX9_answerOfRow_51 : decode cX9_answerOfRow 51 = .ok (.aload_n 0, 1) := by decide +kernel
theorem dX9_answerOfRow_52 : decode cX9_answerOfRow 52 = .ok (.iload 6, 2) := by decide +kernel
theorem dX9_answerOfRow_54 : decode cX9_answerOfRow 54 = .ok (.invokevirtual 76, 3) := by decide +kernel
theorem dX9_answerOfRow_57 : decode cX9_answerOfRow 57 = .ok (.ifnull 17, 3) := by decide +kernel
theorem dX9_answerOfRow_60 : decode cX9_answerOfRow 60 = .ok (.aload_n 0, 1) := by decide +kernel
theorem dX9_answerOfRow_61 : decode cX9_answerOfRow 61 = .ok (.iload 6, 2) := by decide +kernel
theorem dX9_answerOfRow_63 : decode cX9_answerOfRow 63 = .ok (.iload_n 2, 1) := by decide +kernel
theorem dX9_answerOfRow_64 : decode cX9_answerOfRow 64 = .ok (.iload 4, 2) := by decide +kernel
theorem dX9_answerOfRow_66 : decode cX9_answerOfRow 66 = .ok (.iload 5, 2) := by decide +kernel
theorem dX9_answerOfRow_68 : decode cX9_answerOfRow 68 = .ok (.invokevirtual 200, 3) := by decide +kernel
theorem dX9_answerOfRow_71 : decode cX9_answerOfRow 71 = .ok (.goto 5, 3) := by decide +kernel
theorem dX9_answerOfRow_74 : decode cX9_answerOfRow 74 = .ok (.iload 6, 2) := by decide +kernel
theorem dX9_answerOfRow_76 : decode cX9_answerOfRow 76 = .ok (.ireturn, 1) := by decide +kernel
theorem dX9_freeOnes_0 : decode cX9_freeOnes 0 = .ok (.aload_n 0, 1) := by decide +kernel
theorem dX9_freeOnes_1 : decode cX9_freeOnes 1 = .ok (.iload_n 1, 1) := by decide +kernel
theorem dX9_freeOnes_2 : decode cX9_freeOnes 2 = .ok (.invokevirtual 115, 3) := by decide +kernel
theorem dX9_freeOnes_5 : decode cX9_freeOnes 5 = .ok (.astore_n 2, 1) := by decide +kernel
theorem dX9_freeOnes_6 : decode cX9_freeOnes 6 = .ok (.iconst 0, 1) := by decide +kernel
theorem dX9_freeOnes_7 : decode cX9_freeOnes 7 = .ok (.istore_n 3, 1) := by decide +kernel
theorem dX9_freeOnes_8 : decode cX9_freeOnes 8 = .ok (.iconst 1, 1) := by decide +kernel
theorem dX9_freeOnes_9 : decode cX9_freeOnes 9 = .ok (.istore 4, 2) := by decide +kernel
theorem dX9_freeOnes_11 : decode cX9_freeOnes 11 = .ok (.aload_n 2, 1) := by decide +kernel
theorem dX9_freeOnes_12 : decode cX9_freeOnes 12 = .ok (.ifnull 38, 3) := by decide +kernel
theorem dX9_freeOnes_15 : decode cX9_freeOnes 15 = .ok (.iload 4, 2) := by decide +kernel
theorem dX9_freeOnes_17 : decode cX9_freeOnes 17 = .ok (.aload_n 2, 1) := by decide +kernel
theorem dX9_freeOnes_18 : decode cX9_freeOnes 18 = .ok (.getfield 296, 3) := by decide +kernel
theorem dX9_freeOnes_21 : decode cX9_freeOnes 21 = .ok (.if_icmp .gt 29, 3) := by decide +kernel
theorem dX9_freeOnes_24 : decode cX9_freeOnes 24 = .ok (.iload_n 3, 1) := by decide +kernel
theorem dX9_freeOnes_25 : decode cX9_freeOnes 25 = .ok (.aload_n 0, 1) := by decide +kernel
theorem dX9_freeOnes_26 : decode cX9_freeOnes 26 = .ok (.iload_n 1, 1) := by decide +kernel
theorem dX9_freeOnes_27 : decode cX9_freeOnes 27 = .ok (.iload 4, 2) := by decide +kernel
theorem dX9_freeOnes_29 : decode cX9_freeOnes 29 = .ok (.iadd, 1) := by decide +kernel
theorem dX9_freeOnes_30 : decode cX9_freeOnes 30 = .ok (.invokevirtual 172, 3) := by decide +kernel
theorem dX9_freeOnes_33 : decode cX9_freeOnes 33 = .ok (.iconst 2, 1) := by decide +kernel
theorem dX9_freeOnes_34 : decode cX9_freeOnes 34 = .ok (.if_icmp .ne 7, 3) := by decide +kernel
theorem dX9_freeOnes_37 : decode cX9_freeOnes 37 = .ok (.iconst 0, 1) := by decide +kernel
theorem dX9_freeOnes_38 : decode cX9_freeOnes 38 = .ok (.goto 4, 3) := by decide +kernel
theorem dX9_freeOnes_41 : decode cX9_freeOnes 41 = .ok (.iconst 1, 1) := by decide +kernel
theorem dX9_freeOnes_42 : decode cX9_freeOnes 42 = .ok (.iadd, 1) := by decide +kernel
theorem dX9_freeOnes_43 : decode cX9_freeOnes 43 = .ok (.istore_n 3, 1) := by decide +kernel
theorem dX9_freeOnes_44 : decode cX9_freeOnes 44 = .ok (.iinc 4 1, 3) := by decide +kernel
theorem dX9_freeOnes_47 : decode cX9_freeOnes 47 = .ok (.goto (-36), 3) := by decide +kernel
theorem dX9_freeOnes_50 : decode cX9_freeOnes 50 = .ok (.iload_n 3, 1) := by decide +kernel
theorem dX9_freeOnes_51 : decode cX9_freeOnes 51 = .ok (.ireturn, 1) := by decide +kernel
theorem dX9_leastFree_0 : decode cX9_leastFree 0 = .ok (.aload_n 0, 1) := by decide +kernel
theorem dX9_leastFree_1 : decode cX9_leastFree 1 = .ok (.iload_n 1, 1) := by decide +kernel
theorem dX9_leastFree_2 : decode cX9_leastFree 2 = .ok (.invokevirtual 115, 3) := by decide +kernel
theorem dX9_leastFree_5 : decode cX9_leastFree 5 = .ok (.astore_n 2, 1) := by decide +kernel
theorem dX9_leastFree_6 : decode cX9_leastFree 6 = .ok (.iconst 1, 1) := by decide +kernel
theorem dX9_leastFree_7 : decode cX9_leastFree 7 = .ok (.istore_n 3, 1) := by decide +kernel
theorem dX9_leastFree_8 : decode cX9_leastFree 8 = .ok (.aload_n 2, 1) := by decide +kernel
theorem dX9_leastFree_9 : decode cX9_leastFree 9 = .ok (.ifnull 32, 3) := by decide +kernel
theorem dX9_leastFree_12 : decode cX9_leastFree 12 = .ok (.iload_n 3, 1) := by decide +kernel
theorem dX9_leastFree_13 : decode cX9_leastFree 13 = .ok (.aload_n 2, 1) := by decide +kernel
theorem dX9_leastFree_14 : decode cX9_leastFree 14 = .ok (.getfield 296, 3) := by decide +kernel
theorem dX9_leastFree_17 : decode cX9_leastFree 17 = .ok (.if_icmp .gt 24, 3) := by decide +kernel
theorem dX9_leastFree_20 : decode cX9_leastFree 20 = .ok (.aload_n 0, 1) := by decide +kernel
theorem dX9_leastFree_21 : decode cX9_leastFree 21 = .ok (.iload_n 1, 1) := by decide +kernel
theorem dX9_leastFree_22 : decode cX9_leastFree 22 = .ok (.iload_n 3, 1) := by decide +kernel
theorem dX9_leastFree_23 : decode cX9_leastFree 23 = .ok (.iadd, 1) := by decide +kernel
theorem dX9_leastFree_24 : decode cX9_leastFree 24 = .ok (.invokevirtual 172, 3) := by decide +kernel
theorem dX9_leastFree_27 : decode cX9_leastFree 27 = .ok (.iconst 2, 1) := by decide +kernel
theorem dX9_leastFree_28 : decode cX9_leastFree 28 = .ok (.if_icmp .eq 7, 3) := by decide +kernel
theorem dX9_leastFree_31 : decode cX9_leastFree 31 = .ok (.iload_n 1, 1) := by decide +kernel
theorem dX9_leastFree_32 : decode cX9_leastFree 32 = .ok (.iload_n 3, 1) := by decide +kernel
theorem dX9_leastFree_33 : decode cX9_leastFree 33 = .ok (.iadd, 1) := by decide +kernel
theorem dX9_leastFree_34 : decode cX9_leastFree 34 = .ok (.ireturn, 1) := by decide +kernel
theorem dX9_leastFree_35 : decode cX9_leastFree 35 = .ok (.iinc 3 1, 3) := by decide +kernel
theorem dX9_leastFree_38 : decode cX9_leastFree 38 = .ok (.goto (-30), 3) := by decide +kernel
theorem dX9_leastFree_41 : decode cX9_leastFree 41 = .ok (.iconst 0, 1) := by decide +kernel
theorem dX9_leastFree_42 : decode cX9_leastFree 42 = .ok (.ireturn, 1) := by decide +kernel
theorem dX9_thereInPool_0 : decode cX9_thereInPool 0 = .ok (.aload_n 0, 1) := by decide +kernel
theorem dX9_thereInPool_1 : decode cX9_thereInPool 1 = .ok (.iload_n 1, 1) := by decide +kernel
theorem dX9_thereInPool_2 : decode cX9_thereInPool 2 = .ok (.invokevirtual 115, 3) := by decide +kernel
theorem dX9_thereInPool_5 : decode cX9_thereInPool 5 = .ok (.astore_n 3, 1) := by decide +kernel
theorem dX9_thereInPool_6 : decode cX9_thereInPool 6 = .ok (.aload_n 0, 1) := by decide +kernel
theorem dX9_thereInPool_7 : decode cX9_thereInPool 7 = .ok (.iload_n 2, 1) := by decide +kernel
theorem dX9_thereInPool_8 : decode cX9_thereInPool 8 = .ok (.invokevirtual 115, 3) := by decide +kernel
theorem dX9_thereInPool_11 : decode cX9_thereInPool 11 = .ok (.astore 4, 2) := by decide +kernel
theorem dX9_thereInPool_13 : decode cX9_thereInPool 13 = .ok (.aload_n 3, 1) := by decide +kernel
theorem dX9_thereInPool_14 : decode cX9_thereInPool 14 = .ok (.ifnull 34, 3) := by decide +kernel
theorem dX9_thereInPool_17 : decode cX9_thereInPool 17 = .ok (.aload 4, 2) := by decide +kernel
theorem dX9_thereInPool_19 : decode cX9_thereInPool 19 = .ok (.ifnull 29, 3) := by decide +kernel
theorem dX9_thereInPool_22 : decode cX9_thereInPool 22 = .ok (.aload 4, 2) := by decide +kernel
theorem dX9_thereInPool_24 : decode cX9_thereInPool 24 = .ok (.getfield 111, 3) := by decide +kernel
theorem dX9_thereInPool_27 : decode cX9_thereInPool 27 = .ok (.ifCond .eq 21, 3) := by decide +kernel
theorem dX9_thereInPool_30 : decode cX9_thereInPool 30 = .ok (.iload_n 2, 1) := by decide +kernel
theorem dX9_thereInPool_31 : decode cX9_thereInPool 31 = .ok (.iload_n 1, 1) := by decide +kernel
theorem dX9_thereInPool_32 : decode cX9_thereInPool 32 = .ok (.if_icmp .le 16, 3) := by decide +kernel
theorem dX9_thereInPool_35 : decode cX9_thereInPool 35 = .ok (.iload_n 2, 1) := by decide +kernel
theorem dX9_thereInPool_36 : decode cX9_thereInPool 36 = .ok (.iload_n 1, 1) := by decide +kernel
theorem dX9_thereInPool_37 : decode cX9_thereInPool 37 = .ok (.aload_n 3, 1) := by decide +kernel
theorem dX9_thereInPool_38 : decode cX9_thereInPool 38 = .ok (.getfield 296, 3) := by decide +kernel
theorem dX9_thereInPool_41 : decode cX9_thereInPool 41 = .ok (.iadd, 1) := by decide +kernel
theorem dX9_thereInPool_42 : decode cX9_thereInPool 42 = .ok (.if_icmp .gt 6, 3) := by decide +kernel
theorem dX9_thereInPool_45 : decode cX9_thereInPool 45 = .ok (.aload 4, 2) := by decide +kernel
theorem dX9_thereInPool_47 : decode cX9_thereInPool 47 = .ok (.areturn, 1) := by decide +kernel
theorem dX9_thereInPool_48 : decode cX9_thereInPool 48 = .ok (.aload_n 0, 1) := by decide +kernel
theorem dX9_thereInPool_49 : decode cX9_thereInPool 49 = .ok (.getfield 57, 3) := by decide +kernel
theorem dX9_thereInPool_52 : decode cX9_thereInPool 52 = .ok (.bipush 8, 2) := by decide +kernel
theorem dX9_thereInPool_54 : decode cX9_thereInPool 54 = .ok (.iload_n 1, 1) := by decide +kernel
theorem dX9_thereInPool_55 : decode cX9_thereInPool 55 = .ok (.iload_n 2, 1) := by decide +kernel
theorem dX9_thereInPool_56 : decode cX9_thereInPool 56 = .ok (.invokevirtual 175, 3) := by decide +kernel
theorem dX9_thereInPool_59 : decode cX9_thereInPool 59 = .ok (.pop, 1) := by decide +kernel
theorem dX9_thereInPool_60 : decode cX9_thereInPool 60 = .ok (.aconst_null, 1) := by decide +kernel
theorem dX9_thereInPool_61 : decode cX9_thereInPool 61 = .ok (.areturn, 1) := by decide +kernel
theorem dX9_createOne_0 : decode cX9_createOne 0 = .ok (.aload_n 0, 1) := by decide +kernel
theorem dX9_createOne_1 : decode cX9_createOne 1 = .ok (.iload_n 1, 1) := by decide +kernel
theorem dX9_createOne_2 : decode cX9_createOne 2 = .ok (.invokevirtual 299, 3) := by decide +kernel
theorem dX9_createOne_5 : decode cX9_createOne 5 = .ok (.istore 4, 2) := by decide +kernel
theorem dX9_createOne_7 : decode cX9_createOne 7 = .ok (.aload_n 0, 1) := by decide +kernel
theorem dX9_createOne_8 : decode cX9_createOne 8 = .ok (.iload 4, 2) := by decide +kernel
theorem dX9_createOne_10 : decode cX9_createOne 10 = .ok (.invokevirtual 115, 3) := by decide +kernel
theorem dX9_createOne_13 : decode cX9_createOne 13 = .ok (.astore 5, 2) := by decide +kernel
theorem dX9_createOne_15 : decode cX9_createOne 15 = .ok (.aload 5, 2) := by decide +kernel
theorem dX9_createOne_17 : decode cX9_createOne 17 = .ok (.ifnonnull 5, 3) := by decide +kernel
theorem dX9_createOne_20 : decode cX9_createOne 20 = .ok (.iconst 0, 1) := by decide +kernel
theorem dX9_createOne_21 : decode cX9_createOne 21 = .ok (.ireturn, 1) := by decide +kernel
theorem dX9_createOne_22 : decode cX9_createOne 22 = .ok (.aload 5, 2) := by decide +kernel
theorem dX9_createOne_24 : decode cX9_createOne 24 = .ok (.iconst 1, 1) := by decide +kernel
theorem dX9_createOne_25 : decode cX9_createOne 25 = .ok (.putfield 111, 3) := by decide +kernel
theorem dX9_createOne_28 : decode cX9_createOne 28 = .ok (.aload_n 0, 1) := by decide +kernel
theorem dX9_createOne_29 : decode cX9_createOne 29 = .ok (.aload 5, 2) := by decide +kernel
theorem dX9_createOne_31 : decode cX9_createOne 31 = .ok (.invokevirtual 108, 3) := by decide +kernel
theorem dX9_createOne_34 : decode cX9_createOne 34 = .ok (.aload_n 0, 1) := by decide +kernel
theorem dX9_createOne_35 : decode cX9_createOne 35 = .ok (.aload 5, 2) := by decide +kernel
theorem dX9_createOne_37 : decode cX9_createOne 37 = .ok (.iload 4, 2) := by decide +kernel
theorem dX9_createOne_39 : decode cX9_createOne 39 = .ok (.iconst 1, 1) := by decide +kernel
theorem dX9_createOne_40 : decode cX9_createOne 40 = .ok (.iload_n 2, 1) := by decide +kernel
theorem dX9_createOne_41 : decode cX9_createOne 41 = .ok (.iload_n 3, 1) := by decide +kernel
theorem dX9_createOne_42 : decode cX9_createOne 42 = .ok (.invokevirtual 302, 3) := by decide +kernel
theorem dX9_createOne_45 : decode cX9_createOne 45 = .ok (.iload 4, 2) := by decide +kernel
theorem dX9_createOne_47 : decode cX9_createOne 47 = .ok (.ireturn, 1) := by decide +kernel
theorem dX9_destroyOne_0 : decode cX9_destroyOne 0 = .ok (.aload_n 0, 1) := by decide +kernel
theorem dX9_destroyOne_1 : decode cX9_destroyOne 1 = .ok (.iload_n 1, 1) := by decide +kernel
theorem dX9_destroyOne_2 : decode cX9_destroyOne 2 = .ok (.iload_n 2, 1) := by decide +kernel
theorem dX9_destroyOne_3 : decode cX9_destroyOne 3 = .ok (.invokevirtual 306, 3) := by decide +kernel
theorem dX9_destroyOne_6 : decode cX9_destroyOne 6 = .ok (.astore 4, 2) := by decide +kernel
theorem dX9_destroyOne_8 : decode cX9_destroyOne 8 = .ok (.aload 4, 2) := by decide +kernel
theorem dX9_destroyOne_10 : decode cX9_destroyOne 10 = .ok (.ifnonnull 5, 3) := by decide +kernel
theorem dX9_destroyOne_13 : decode cX9_destroyOne 13 = .ok (.iconst 0, 1) := by decide +kernel
theorem dX9_destroyOne_14 : decode cX9_destroyOne 14 = .ok (.ireturn, 1) := by decide +kernel
theorem dX9_destroyOne_15 : decode cX9_destroyOne 15 = .ok (.aload_n 0, 1) := by decide +kernel
theorem dX9_destroyOne_16 : decode cX9_destroyOne 16 = .ok (.aload 4, 2) := by decide +kernel
theorem dX9_destroyOne_18 : decode cX9_destroyOne 18 = .ok (.iload_n 2, 1) := by decide +kernel
theorem dX9_destroyOne_19 : decode cX9_destroyOne 19 = .ok (.iconst 2, 1) := by decide +kernel
theorem dX9_destroyOne_20 : decode cX9_destroyOne 20 = .ok (.iconst 0, 1) := by decide +kernel
theorem dX9_destroyOne_21 : decode cX9_destroyOne 21 = .ok (.iload_n 3, 1) := by decide +kernel
theorem dX9_destroyOne_22 : decode cX9_destroyOne 22 = .ok (.invokevirtual 302, 3) := by decide +kernel
theorem dX9_destroyOne_25 : decode cX9_destroyOne 25 = .ok (.aload 4, 2) := by decide +kernel
theorem dX9_destroyOne_27 : decode cX9_destroyOne 27 = .ok (.getfield 111, 3) := by decide +kernel
theorem dX9_destroyOne_30 : decode cX9_destroyOne 30 = .ok (.ifCond .eq 25, 3) := by decide +kernel
theorem dX9_destroyOne_33 : decode cX9_destroyOne 33 = .ok (.aload_n 0, 1) := by decide +kernel
theorem dX9_destroyOne_34 : decode cX9_destroyOne 34 = .ok (.getfield 36, 3) := by decide +kernel
theorem dX9_destroyOne_37 : decode cX9_destroyOne 37 = .ok (.iload_n 2, 1) := by decide +kernel
theorem dX9_destroyOne_38 : decode cX9_destroyOne 38 = .ok (.invokevirtual 183, 3) := by decide +kernel
theorem dX9_destroyOne_41 : decode cX9_destroyOne 41 = .ok (.aload_n 0, 1) := by decide +kernel
theorem dX9_destroyOne_42 : decode cX9_destroyOne 42 = .ok (.getfield 36, 3) := by decide +kernel
theorem dX9_destroyOne_45 : decode cX9_destroyOne 45 = .ok (.iload_n 2, 1) := by decide +kernel
theorem dX9_destroyOne_46 : decode cX9_destroyOne 46 = .ok (.invokevirtual 310, 3) := by decide +kernel
theorem dX9_destroyOne_49 : decode cX9_destroyOne 49 = .ok (.aload 4, 2) := by decide +kernel
theorem dX9_destroyOne_51 : decode cX9_destroyOne 51 = .ok (.iconst 0, 1) := by decide +kernel
theorem dX9_destroyOne_52 : decode cX9_destroyOne 52 = .ok (.putfield 111, 3) := by decide +kernel
theorem dX9_destroyOne_55 : decode cX9_destroyOne 55 = .ok (.iconst 1, 1) := by decide +kernel
theorem dX9_destroyOne_56 : decode cX9_destroyOne 56 = .ok (.ireturn, 1) := by decide +kernel
theorem dX9_recreateOne_0 : decode cX9_recreateOne 0 = .ok (.aload_n 0, 1) := by decide +kernel
theorem dX9_recreateOne_1 : decode cX9_recreateOne 1 = .ok (.iload_n 1, 1) := by decide +kernel
theorem dX9_recreateOne_2 : decode cX9_recreateOne 2 = .ok (.iload_n 2, 1) := by decide +kernel
theorem dX9_recreateOne_3 : decode cX9_recreateOne 3 = .ok (.invokevirtual 306, 3) := by decide +kernel
theorem dX9_recreateOne_6 : decode cX9_recreateOne 6 = .ok (.astore 4, 2) := by decide +kernel
theorem dX9_recreateOne_8 : decode cX9_recreateOne 8 = .ok (.aload 4, 2) := by decide +kernel
theorem dX9_recreateOne_10 : decode cX9_recreateOne 10 = .ok (.ifnonnull 5, 3) := by decide +kernel
theorem dX9_recreateOne_13 : decode cX9_recreateOne 13 = .ok (.iconst 0, 1) := by decide +kernel
theorem dX9_recreateOne_14 : decode cX9_recreateOne 14 = .ok (.ireturn, 1) := by decide +kernel
theorem dX9_recreateOne_15 : decode cX9_recreateOne 15 = .ok (.aload_n 0, 1) := by decide +kernel
theorem dX9_recreateOne_16 : decode cX9_recreateOne 16 = .ok (.aload 4, 2) := by decide +kernel
theorem dX9_recreateOne_18 : decode cX9_recreateOne 18 = .ok (.iload_n 2, 1) := by decide +kernel
theorem dX9_recreateOne_19 : decode cX9_recreateOne 19 = .ok (.iconst 2, 1) := by decide +kernel
theorem dX9_recreateOne_20 : decode cX9_recreateOne 20 = .ok (.iconst 0, 1) := by decide +kernel
theorem dX9_recreateOne_21 : decode cX9_recreateOne 21 = .ok (.iload_n 3, 1) := by decide +kernel
theorem dX9_recreateOne_22 : decode cX9_recreateOne 22 = .ok (.invokevirtual 302, 3) := by decide +kernel
theorem dX9_recreateOne_25 : decode cX9_recreateOne 25 = .ok (.aload 4, 2) := by decide +kernel
theorem dX9_recreateOne_27 : decode cX9_recreateOne 27 = .ok (.getfield 111, 3) := by decide +kernel
theorem dX9_recreateOne_30 : decode cX9_recreateOne 30 = .ok (.ifCond .eq 19, 3) := by decide +kernel
theorem dX9_recreateOne_33 : decode cX9_recreateOne 33 = .ok (.aload_n 0, 1) := by decide +kernel
theorem dX9_recreateOne_34 : decode cX9_recreateOne 34 = .ok (.aload 4, 2) := by decide +kernel
theorem dX9_recreateOne_36 : decode cX9_recreateOne 36 = .ok (.invokevirtual 108, 3) := by decide +kernel
theorem dX9_recreateOne_39 : decode cX9_recreateOne 39 = .ok (.aload_n 0, 1) := by decide +kernel
theorem dX9_recreateOne_40 : decode cX9_recreateOne 40 = .ok (.aload 4, 2) := by decide +kernel
theorem dX9_recreateOne_42 : decode cX9_recreateOne 42 = .ok (.iload_n 2, 1) := by decide +kernel
theorem dX9_recreateOne_43 : decode cX9_recreateOne 43 = .ok (.iconst 1, 1) := by decide +kernel
theorem dX9_recreateOne_44 : decode cX9_recreateOne 44 = .ok (.iconst 0, 1) := by decide +kernel
theorem dX9_recreateOne_45 : decode cX9_recreateOne 45 = .ok (.iload_n 3, 1) := by decide +kernel
theorem dX9_recreateOne_46 : decode cX9_recreateOne 46 = .ok (.invokevirtual 302, 3) := by decide +kernel
theorem dX9_recreateOne_49 : decode cX9_recreateOne 49 = .ok (.iconst 1, 1) := by decide +kernel
theorem dX9_recreateOne_50 : decode cX9_recreateOne 50 = .ok (.ireturn, 1) := by decide +kernel
theorem dX9_sendIfProvided_0 : decode cX9_sendIfProvided 0 = .ok (.aload_n 1, 1) := by decide +kernel
theorem dX9_sendIfProvided_1 : decode cX9_sendIfProvided 1 = .ok (.getfield 124, 3) := by decide +kernel
theorem dX9_sendIfProvided_4 : decode cX9_sendIfProvided 4 = .ok (.iload_n 3, 1) := by decide +kernel
theorem dX9_sendIfProvided_5 : decode cX9_sendIfProvided 5 = .ok (.invokevirtual 128, 3) := by decide +kernel
theorem dX9_sendIfProvided_8 : decode cX9_sendIfProvided 8 = .ok (.ifCond .le 14, 3) := by decide +kernel
theorem dX9_sendIfProvided_11 : decode cX9_sendIfProvided 11 = .ok (.aload_n 0, 1) := by decide +kernel
theorem dX9_sendIfProvided_12 : decode cX9_sendIfProvided 12 = .ok (.iload_n 2, 1) := by decide +kernel
theorem dX9_sendIfProvided_13 : decode cX9_sendIfProvided 13 = .ok (.iload_n 3, 1) := by decide +kernel
theorem dX9_sendIfProvided_14 : decode cX9_sendIfProvided 14 = .ok (.iload 4, 2) := by decide +kernel
theorem dX9_sendIfProvided_16 : decode cX9_sendIfProvided 16 = .ok (.iload 5, 2) := by decide +kernel
theorem dX9_sendIfProvided_18 : decode cX9_sendIfProvided 18 = .ok (.invokevirtual 156, 3) := by decide +kernel
theorem dX9_sendIfProvided_21 : decode cX9_sendIfProvided 21 = .ok (.pop, 1) := by decide +kernel
theorem dX9_sendIfProvided_22 : decode cX9_sendIfProvided 22 = .ok (.return_, 1) := by decide +kernel
theorem dX9_run_0 : decode cX9_run 0 = .ok (.iload 4, 2) := by decide +kernel
theorem dX9_run_2 : decode cX9_run 2 = .ok (.bipush 12, 2) := by decide +kernel
theorem dX9_run_4 : decode cX9_run 4 = .ok (.if_icmp .lt 15, 3) := by decide +kernel
theorem dX9_run_7 : decode cX9_run 7 = .ok (.aload_n 0, 1) := by decide +kernel
theorem dX9_run_8 : decode cX9_run 8 = .ok (.getfield 57, 3) := by decide +kernel
theorem dX9_run_11 : decode cX9_run 11 = .ok (.bipush 9, 2) := by decide +kernel
theorem dX9_run_13 : decode cX9_run 13 = .ok (.iload_n 2, 1) := by decide +kernel
theorem dX9_run_14 : decode cX9_run 14 = .ok (.iconst 0, 1) := by decide +kernel
theorem dX9_run_15 : decode cX9_run 15 = .ok (.invokevirtual 175, 3) := by decide +kernel
theorem dX9_run_18 : decode cX9_run 18 = .ok (.ireturn, 1) := by decide +kernel
theorem dX9_run_19 : decode cX9_run 19 = .ok (.aload_n 0, 1) := by decide +kernel
theorem dX9_run_20 : decode cX9_run 20 = .ok (.iload_n 1, 1) := by decide +kernel
theorem dX9_run_21 : decode cX9_run 21 = .ok (.invokevirtual 76, 3) := by decide +kernel
theorem dX9_run_24 : decode cX9_run 24 = .ok (.astore 5, 2) := by decide +kernel
theorem dX9_run_26 : decode cX9_run 26 = .ok (.iconst 0, 1) := by decide +kernel
theorem dX9_run_27 : decode cX9_run 27 = .ok (.istore 6, 2) := by decide +kernel
theorem dX9_run_29 : decode cX9_run 29 = .ok (.iconst 0, 1) := by decide +kernel
theorem dX9_run_30 : decode cX9_run 30 = .ok (.istore 7, 2) := by decide +kernel
theorem dX9_run_32 : decode cX9_run 32 = .ok (.aload 5, 2) := by decide +kernel
theorem dX9_run_34 : decode cX9_run 34 = .ok (.ifnull 63, 3) := by decide +kernel
theorem dX9_run_37 : decode cX9_run 37 = .ok (.iload 7, 2) := by decide +kernel
theorem dX9_run_39 : decode cX9_run 39 = .ok (.aload 5, 2) := by decide +kernel
theorem dX9_run_41 : decode cX9_run 41 = .ok (.getfield 80, 3) := by decide +kernel
theorem dX9_run_44 : decode cX9_run 44 = .ok (.if_icmp .ge 53, 3) := by decide +kernel
theorem dX9_run_47 : decode cX9_run 47 = .ok (.aload_n 0, 1) := by decide +kernel
theorem dX9_run_48 : decode cX9_run 48 = .ok (.iload_n 2, 1) := by decide +kernel
theorem dX9_run_49 : decode cX9_run 49 = .ok (.invokevirtual 313, 3) := by decide +kernel
theorem dX9_run_52 : decode cX9_run 52 = .ok (.ifCond .eq 45, 3) := by decide +kernel
theorem dX9_run_55 : decode cX9_run 55 = .ok (.aload_n 0, 1) := by decide +kernel
theorem dX9_run_56 : decode cX9_run 56 = .ok (.aload 5, 2) := by decide +kernel
theorem dX9_run_58 : decode cX9_run 58 = .ok (.iload 7, 2) := by decide +kernel
theorem dX9_run_60 : decode cX9_run 60 = .ok (.iload 6, 2) := by decide +kernel
theorem dX9_run_62 : decode cX9_run 62 = .ok (.iload_n 2, 1) := by decide +kernel
theorem dX9_run_63 : decode cX9_run 63 = .ok (.iload_n 3, 1) := by decide +kernel
theorem dX9_run_64 : decode cX9_run 64 = .ok (.iload 4, 2) := by decide +kernel
theorem dX9_run_66 : decode cX9_run 66 = .ok (.iconst 1, 1) := by decide +kernel
theorem dX9_run_67 : decode cX9_run 67 = .ok (.iadd, 1) := by decide +kernel
theorem dX9_run_68 : decode cX9_run 68 = .ok (.invokevirtual 316, 3) := by decide +kernel
theorem dX9_run_71 : decode cX9_run 71 = .ok (.istore 6, 2) := by decide +kernel
theorem dX9_run_73 : decode cX9_run 73 = .ok (.aload 5, 2) := by decide +kernel
theorem dX9_run_75 : decode cX9_run 75 = .ok (.iload 7, 2) := by decide +kernel
theorem dX9_run_77 : decode cX9_run 77 = .ok (.invokevirtual 320, 3) := by decide +kernel
theorem dX9_run_80 : decode cX9_run 80 = .ok (.iload 6, 2) := by decide +kernel
theorem dX9_run_82 : decode cX9_run 82 = .ok (.invokestatic 323, 3) := by decide +kernel
theorem dX9_run_85 : decode cX9_run 85 = .ok (.ifCond .eq 6, 3) := by decide +kernel
theorem dX9_run_88 : decode cX9_run 88 = .ok (.iload 6, 2) := by decide +kernel
theorem dX9_run_90 : decode cX9_run 90 = .ok (.ireturn, 1) := by decide +kernel
theorem dX9_run_91 : decode cX9_run 91 = .ok (.iinc 7 1, 3) := by decide +kernel
theorem dX9_run_94 : decode cX9_run 94 = .ok (.goto (-62), 3) := by decide +kernel
theorem dX9_run_97 : decode cX9_run 97 = .ok (.iload 6, 2) := by decide +kernel
theorem dX9_run_99 : decode cX9_run 99 = .ok (.ireturn, 1) := by decide +kernel
theorem dX9_mayAct_0 : decode cX9_mayAct 0 = .ok (.aload_n 0, 1) := by decide +kernel
theorem dX9_mayAct_1 : decode cX9_mayAct 1 = .ok (.getfield 251, 3) := by decide +kernel
theorem dX9_mayAct_4 : decode cX9_mayAct 4 = .ok (.sipush 200, 3) := by decide +kernel
theorem dX9_mayAct_7 : decode cX9_mayAct 7 = .ok (.if_icmp .ge 15, 3) := by decide +kernel
theorem dX9_mayAct_10 : decode cX9_mayAct 10 = .ok (.aload_n 0, 1) := by decide +kernel
theorem dX9_mayAct_11 : decode cX9_mayAct 11 = .ok (.dup, 1) := by decide +kernel
theorem dX9_mayAct_12 : decode cX9_mayAct 12 = .ok (.getfield 251, 3) := by decide +kernel
theorem dX9_mayAct_15 : decode cX9_mayAct 15 = .ok (.iconst 1, 1) := by decide +kernel
theorem dX9_mayAct_16 : decode cX9_mayAct 16 = .ok (.iadd, 1) := by decide +kernel
theorem dX9_mayAct_17 : decode cX9_mayAct 17 = .ok (.putfield 251, 3) := by decide +kernel
theorem dX9_mayAct_20 : decode cX9_mayAct 20 = .ok (.iconst 1, 1) := by decide +kernel
theorem dX9_mayAct_21 : decode cX9_mayAct 21 = .ok (.ireturn, 1) := by decide +kernel
theorem dX9_mayAct_22 : decode cX9_mayAct 22 = .ok (.aload_n 0, 1) := by decide +kernel
theorem dX9_mayAct_23 : decode cX9_mayAct 23 = .ok (.getfield 268, 3) := by decide +kernel
theorem dX9_mayAct_26 : decode cX9_mayAct 26 = .ok (.ifCond .ne 20, 3) := by decide +kernel
theorem dX9_mayAct_29 : decode cX9_mayAct 29 = .ok (.aload_n 0, 1) := by decide +kernel
theorem dX9_mayAct_30 : decode cX9_mayAct 30 = .ok (.iconst 1, 1) := by decide +kernel
theorem dX9_mayAct_31 : decode cX9_mayAct 31 = .ok (.putfield 268, 3) := by decide +kernel
theorem dX9_mayAct_34 : decode cX9_mayAct 34 = .ok (.aload_n 0, 1) := by decide +kernel
theorem dX9_mayAct_35 : decode cX9_mayAct 35 = .ok (.getfield 57, 3) := by decide +kernel
theorem dX9_mayAct_38 : decode cX9_mayAct 38 = .ok (.bipush 10, 2) := by decide +kernel
theorem dX9_mayAct_40 : decode cX9_mayAct 40 = .ok (.iload_n 1, 1) := by decide +kernel
theorem dX9_mayAct_41 : decode cX9_mayAct 41 = .ok (.iconst 0, 1) := by decide +kernel
theorem dX9_mayAct_42 : decode cX9_mayAct 42 = .ok (.invokevirtual 175, 3) := by decide +kernel
theorem dX9_mayAct_45 : decode cX9_mayAct 45 = .ok (.pop, 1) := by decide +kernel
theorem dX9_mayAct_46 : decode cX9_mayAct 46 = .ok (.iconst 0, 1) := by decide +kernel
theorem dX9_mayAct_47 : decode cX9_mayAct 47 = .ok (.ireturn, 1) := by decide +kernel
theorem dX9_endsBehind_0 : decode cX9_endsBehind 0 = .ok (.iload_n 0, 1) := by decide +kernel
theorem dX9_endsBehind_1 : decode cX9_endsBehind 1 = .ok (.bipush 12, 2) := by decide +kernel
theorem dX9_endsBehind_3 : decode cX9_endsBehind 3 = .ok (.if_icmp .ne 7, 3) := by decide +kernel
theorem dX9_endsBehind_6 : decode cX9_endsBehind 6 = .ok (.iload_n 1, 1) := by decide +kernel
theorem dX9_endsBehind_7 : decode cX9_endsBehind 7 = .ok (.ifCond .eq 13, 3) := by decide +kernel
theorem dX9_endsBehind_10 : decode cX9_endsBehind 10 = .ok (.iload_n 0, 1) := by decide +kernel
theorem dX9_endsBehind_11 : decode cX9_endsBehind 11 = .ok (.bipush 14, 2) := by decide +kernel
theorem dX9_endsBehind_13 : decode cX9_endsBehind 13 = .ok (.if_icmp .ne 11, 3) := by decide +kernel
theorem dX9_endsBehind_16 : decode cX9_endsBehind 16 = .ok (.iload_n 1, 1) := by decide +kernel
theorem dX9_endsBehind_17 : decode cX9_endsBehind 17 = .ok (.ifCond .eq 7, 3) := by decide +kernel
theorem dX9_endsBehind_20 : decode cX9_endsBehind 20 = .ok (.iconst 1, 1) := by decide +kernel
theorem dX9_endsBehind_21 : decode cX9_endsBehind 21 = .ok (.goto 4, 3) := by decide +kernel
theorem dX9_endsBehind_24 : decode cX9_endsBehind 24 = .ok (.iconst 0, 1) := by decide +kernel
theorem dX9_endsBehind_25 : decode cX9_endsBehind 25 = .ok (.ireturn, 1) := by decide +kernel
theorem dX9_perform_0 : decode cX9_perform 0 = .ok (.aload_n 1, 1) := by decide +kernel
theorem dX9_perform_1 : decode cX9_perform 1 = .ok (.iload_n 2, 1) := by decide +kernel
theorem dX9_perform_2 : decode cX9_perform 2 = .ok (.invokevirtual 326, 3) := by decide +kernel
theorem dX9_perform_5 : decode cX9_perform 5 = .ok (.istore 7, 2) := by decide +kernel
theorem dX9_perform_7 : decode cX9_perform 7 = .ok (.aload_n 1, 1) := by decide +kernel
theorem dX9_perform_8 : decode cX9_perform 8 = .ok (.iload_n 2, 1) := by decide +kernel
theorem dX9_perform_9 : decode cX9_perform 9 = .ok (.invokevirtual 329, 3) := by decide +kernel
theorem dX9_perform_12 : decode cX9_perform 12 = .ok (.istore 8, 2) := by decide +kernel
theorem dX9_perform_14 : decode cX9_perform 14 = .ok (.aload_n 1, 1) := by decide +kernel
theorem dX9_perform_15 : decode cX9_perform 15 = .ok (.iload_n 2, 1) := by decide +kernel
theorem dX9_perform_16 : decode cX9_perform 16 = .ok (.invokevirtual 320, 3) := by decide +kernel
theorem dX9_perform_19 : decode cX9_perform 19 = .ok (.tableswitch 188 0 14 #[73, 76, 79, 82, 87, 98, 112, 124, 139, 149, 156, 163, 188, 170, 180], 73) := by decide +kernel
theorem dX9_perform_92 : decode cX9_perform 92 = .ok (.iload 7, 2) := by decide +kernel
theorem dX9_perform_94 : decode cX9_perform 94 = .ok (.ireturn, 1) := by decide +kernel
theorem dX9_perform_95 : decode cX9_perform 95 = .ok (.iload 5, 2) := by decide +kernel
theorem dX9_perform_97 : decode cX9_perform 97 = .ok (.ireturn, 1) := by decide +kernel
theorem dX9_perform_98 : decode cX9_perform 98 = .ok (.iload 4, 2) := by decide +kernel
theorem dX9_perform_100 : decode cX9_perform 100 = .ok (.ireturn, 1) := by decide +kernel
theorem dX9_perform_101 : decode cX9_perform 101 = .ok (.iload_n 3, 1) := by decide +kernel
theorem dX9_perform_102 : decode cX9_perform 102 = .ok (.iload 7, 2) := by decide +kernel
theorem dX9_perform_104 : decode cX9_perform 104 = .ok (.iadd, 1) := by decide +kernel
theorem dX9_perform_105 : decode cX9_perform 105 = .ok (.ireturn, 1) := by decide +kernel
theorem dX9_perform_106 : decode cX9_perform 106 = .ok (.aload_n 0, 1) := by decide +kernel
theorem dX9_perform_107 : decode cX9_perform 107 = .ok (.iload 4, 2) := by decide +kernel
theorem dX9_perform_109 : decode cX9_perform 109 = .ok (.iload 7, 2) := by decide +kernel
theorem dX9_perform_111 : decode cX9_perform 111 = .ok (.iload 8, 2) := by decide +kernel
theorem dX9_perform_113 : decode cX9_perform 113 = .ok (.invokevirtual 332, 3) := by decide +kernel
theorem dX9_perform_116 : decode cX9_perform 116 = .ok (.ireturn, 1) := by decide +kernel
theorem dX9_perform_117 : decode cX9_perform 117 = .ok (.aload_n 0, 1) := by decide +kernel
theorem dX9_perform_118 : decode cX9_perform 118 = .ok (.iload 4, 2) := by decide +kernel
theorem dX9_perform_120 : decode cX9_perform 120 = .ok (.iload 7, 2) := by decide +kernel
theorem dX9_perform_122 : decode cX9_perform 122 = .ok (.iload 8, 2) := by decide +kernel
theorem dX9_perform_124 : decode cX9_perform 124 = .ok (.iload_n 3, 1) := by decide +kernel
theorem dX9_perform_125 : decode cX9_perform 125 = .ok (.invokevirtual 335, 3) := by decide +kernel
theorem dX9_perform_128 : decode cX9_perform 128 = .ok (.pop, 1) := by decide +kernel
theorem dX9_perform_129 : decode cX9_perform 129 = .ok (.iload_n 3, 1) := by decide +kernel
theorem dX9_perform_130 : decode cX9_perform 130 = .ok (.ireturn, 1) := by decide +kernel
theorem dX9_perform_131 : decode cX9_perform 131 = .ok (.aload_n 0, 1) := by decide +kernel
theorem dX9_perform_132 : decode cX9_perform 132 = .ok (.iload_n 3, 1) := by decide +kernel
theorem dX9_perform_133 : decode cX9_perform 133 = .ok (.iload 7, 2) := by decide +kernel
theorem dX9_perform_135 : decode cX9_perform 135 = .ok (.iload 8, 2) := by decide +kernel
theorem dX9_perform_137 : decode cX9_perform 137 = .ok (.iload 6, 2) := by decide +kernel
theorem dX9_perform_139 : decode cX9_perform 139 = .ok (.invokevirtual 156, 3) := by decide +kernel
theorem dX9_perform_142 : decode cX9_perform 142 = .ok (.ireturn, 1) := by decide +kernel
theorem dX9_perform_143 : decode cX9_perform 143 = .ok (.aload_n 0, 1) := by decide +kernel
theorem dX9_perform_144 : decode cX9_perform 144 = .ok (.iload 8, 2) := by decide +kernel
theorem dX9_perform_146 : decode cX9_perform 146 = .ok (.iload 4, 2) := by decide +kernel
theorem dX9_perform_148 : decode cX9_perform 148 = .ok (.iload 7, 2) := by decide +kernel
theorem dX9_perform_150 : decode cX9_perform 150 = .ok (.iload 5, 2) := by decide +kernel
theorem dX9_perform_152 : decode cX9_perform 152 = .ok (.iload 6, 2) := by decide +kernel
theorem dX9_perform_154 : decode cX9_perform 154 = .ok (.invokevirtual 160, 3) := by decide +kernel
theorem dX9_perform_157 : decode cX9_perform 157 = .ok (.ireturn, 1) := by decide +kernel
theorem dX9_perform_158 : decode cX9_perform 158 = .ok (.aload_n 0, 1) := by decide +kernel
theorem dX9_perform_159 : decode cX9_perform 159 = .ok (.iload 4, 2) := by decide +kernel
theorem dX9_perform_161 : decode cX9_perform 161 = .ok (.iload_n 3, 1) := by decide +kernel
theorem dX9_perform_162 : decode cX9_perform 162 = .ok (.invokevirtual 338, 3) := by decide +kernel
theorem dX9_perform_165 : decode cX9_perform 165 = .ok (.pop, 1) := by decide +kernel
theorem dX9_perform_166 : decode cX9_perform 166 = .ok (.iload_n 3, 1) := by decide +kernel
theorem dX9_perform_167 : decode cX9_perform 167 = .ok (.ireturn, 1) := by decide +kernel
theorem dX9_perform_168 : decode cX9_perform 168 = .ok (.aload_n 0, 1) := by decide +kernel
theorem dX9_perform_169 : decode cX9_perform 169 = .ok (.iload_n 3, 1) := by decide +kernel
theorem dX9_perform_170 : decode cX9_perform 170 = .ok (.iconst 0, 1) := by decide +kernel
theorem dX9_perform_171 : decode cX9_perform 171 = .ok (.invokevirtual 341, 3) := by decide +kernel
theorem dX9_perform_174 : decode cX9_perform 174 = .ok (.ireturn, 1) := by decide +kernel
theorem dX9_perform_175 : decode cX9_perform 175 = .ok (.aload_n 0, 1) := by decide +kernel
theorem dX9_perform_176 : decode cX9_perform 176 = .ok (.iload_n 3, 1) := by decide +kernel
theorem dX9_perform_177 : decode cX9_perform 177 = .ok (.iconst 1, 1) := by decide +kernel
theorem dX9_perform_178 : decode cX9_perform 178 = .ok (.invokevirtual 341, 3) := by decide +kernel
theorem dX9_perform_181 : decode cX9_perform 181 = .ok (.ireturn, 1) := by decide +kernel
theorem dX9_perform_182 : decode cX9_perform 182 = .ok (.aload_n 0, 1) := by decide +kernel
theorem dX9_perform_183 : decode cX9_perform 183 = .ok (.iload_n 3, 1) := by decide +kernel
theorem dX9_perform_184 : decode cX9_perform 184 = .ok (.iconst 2, 1) := by decide +kernel
theorem dX9_perform_185 : decode cX9_perform 185 = .ok (.invokevirtual 341, 3) := by decide +kernel
theorem dX9_perform_188 : decode cX9_perform 188 = .ok (.ireturn, 1) := by decide +kernel
theorem dX9_perform_189 : decode cX9_perform 189 = .ok (.aload_n 0, 1) := by decide +kernel
theorem dX9_perform_190 : decode cX9_perform 190 = .ok (.iload_n 3, 1) := by decide +kernel
theorem dX9_perform_191 : decode cX9_perform 191 = .ok (.iload 7, 2) := by decide +kernel
theorem dX9_perform_193 : decode cX9_perform 193 = .ok (.invokevirtual 344, 3) := by decide +kernel
theorem dX9_perform_196 : decode cX9_perform 196 = .ok (.pop, 1) := by decide +kernel
theorem dX9_perform_197 : decode cX9_perform 197 = .ok (.iload_n 3, 1) := by decide +kernel
theorem dX9_perform_198 : decode cX9_perform 198 = .ok (.ireturn, 1) := by decide +kernel
theorem dX9_perform_199 : decode cX9_perform 199 = .ok (.aload_n 0, 1) := by decide +kernel
theorem dX9_perform_200 : decode cX9_perform 200 = .ok (.iload_n 3, 1) := by decide +kernel
theorem dX9_perform_201 : decode cX9_perform 201 = .ok (.iload 7, 2) := by decide +kernel
theorem dX9_perform_203 : decode cX9_perform 203 = .ok (.invokevirtual 290, 3) := by decide +kernel
theorem dX9_perform_206 : decode cX9_perform 206 = .ok (.ireturn, 1) := by decide +kernel
theorem dX9_perform_207 : decode cX9_perform 207 = .ok (.iload_n 3, 1) := by decide +kernel
theorem dX9_perform_208 : decode cX9_perform 208 = .ok (.ireturn, 1) := by decide +kernel
theorem dX9_sayName_0 : decode cX9_sayName 0 = .ok (.aload_n 1, 1) := by decide +kernel
theorem dX9_sayName_1 : decode cX9_sayName 1 = .ok (.getfield 203, 3) := by decide +kernel
theorem dX9_sayName_4 : decode cX9_sayName 4 = .ok (.ifCond .eq 13, 3) := by decide +kernel
theorem dX9_sayName_7 : decode cX9_sayName 7 = .ok (.aload_n 0, 1) := by decide +kernel
theorem dX9_sayName_8 : decode cX9_sayName 8 = .ok (.getfield 43, 3) := by decide +kernel
theorem dX9_sayName_11 : decode cX9_sayName 11 = .ok (.ldc_w 347, 3) := by decide +kernel
theorem dX9_sayName_14 : decode cX9_sayName 14 = .ok (.invokevirtual 239, 3) := by decide +kernel
theorem dX9_sayName_17 : decode cX9_sayName 17 = .ok (.aload_n 1, 1) := by decide +kernel
theorem dX9_sayName_18 : decode cX9_sayName 18 = .ok (.getfield 147, 3) := by decide +kernel
theorem dX9_sayName_21 : decode cX9_sayName 21 = .ok (.ifnonnull 12, 3) := by decide +kernel
theorem dX9_sayName_24 : decode cX9_sayName 24 = .ok (.aload_n 0, 1) := by decide +kernel
theorem dX9_sayName_25 : decode cX9_sayName 25 = .ok (.getfield 43, 3) := by decide +kernel
theorem dX9_sayName_28 : decode cX9_sayName 28 = .ok (.iload_n 2, 1) := by decide +kernel
theorem dX9_sayName_29 : decode cX9_sayName 29 = .ok (.invokevirtual 349, 3) := by decide +kernel
theorem dX9_sayName_32 : decode cX9_sayName 32 = .ok (.return_, 1) := by decide +kernel
theorem dX9_sayName_33 : decode cX9_sayName 33 = .ok (.aload_n 1, 1) := by decide +kernel
theorem dX9_sayName_34 : decode cX9_sayName 34 = .ok (.getfield 203, 3) := by decide +kernel
theorem dX9_sayName_37 : decode cX9_sayName 37 = .ok (.ifCond .ne 25, 3) := by decide +kernel
theorem dX9_sayName_40 : decode cX9_sayName 40 = .ok (.aload_n 1, 1) := by decide +kernel
theorem dX9_sayName_41 : decode cX9_sayName 41 = .ok (.getfield 150, 3) := by decide +kernel
theorem dX9_sayName_44 : decode cX9_sayName 44 = .ok (.ifCond .ne 18, 3) := by decide +kernel
theorem dX9_sayName_47 : decode cX9_sayName 47 = .ok (.aload_n 0, 1) := by decide +kernel
theorem dX9_sayName_48 : decode cX9_sayName 48 = .ok (.getfield 43, 3) := by decide +kernel
theorem dX9_sayName_51 : decode cX9_sayName 51 = .ok (.aload_n 1, 1) := by decide +kernel
theorem dX9_sayName_52 : decode cX9_sayName 52 = .ok (.getfield 147, 3) := by decide +kernel
theorem dX9_sayName_55 : decode cX9_sayName 55 = .ok (.iload_n 3, 1) := by decide +kernel
theorem dX9_sayName_56 : decode cX9_sayName 56 = .ok (.invokestatic 352, 3) := by decide +kernel
theorem dX9_sayName_59 : decode cX9_sayName 59 = .ok (.invokevirtual 239, 3) := by decide +kernel
theorem dX9_sayName_62 : decode cX9_sayName 62 = .ok (.aload_n 0, 1) := by decide +kernel
theorem dX9_sayName_63 : decode cX9_sayName 63 = .ok (.getfield 43, 3) := by decide +kernel
theorem dX9_sayName_66 : decode cX9_sayName 66 = .ok (.aload_n 1, 1) := by decide +kernel
theorem dX9_sayName_67 : decode cX9_sayName 67 = .ok (.getfield 147, 3) := by decide +kernel
theorem dX9_sayName_70 : decode cX9_sayName 70 = .ok (.invokevirtual 293, 3) := by decide +kernel
theorem dX9_sayName_73 : decode cX9_sayName 73 = .ok (.return_, 1) := by decide +kernel
theorem dX9_articleOf_0 : decode cX9_articleOf 0 = .ok (.iload_n 1, 1) := by decide +kernel
theorem dX9_articleOf_1 : decode cX9_articleOf 1 = .ok (.tableswitch 52 1 3 #[27, 31, 48], 27) := by decide +kernel
theorem dX9_articleOf_28 : decode cX9_articleOf 28 = .ok (.ldc_w 356, 3) := by decide +kernel
theorem dX9_articleOf_31 : decode cX9_articleOf 31 = .ok (.areturn, 1) := by decide +kernel
theorem dX9_articleOf_32 : decode cX9_articleOf 32 = .ok (.aload_n 0, 1) := by decide +kernel
theorem dX9_articleOf_33 : decode cX9_articleOf 33 = .ok (.invokevirtual 358, 3) := by decide +kernel
theorem dX9_articleOf_36 : decode cX9_articleOf 36 = .ok (.ifCond .eq 9, 3) := by decide +kernel
theorem dX9_articleOf_39 : decode cX9_articleOf 39 = .ok (.ldc_w 362, 3) := by decide +kernel
theorem dX9_articleOf_42 : decode cX9_articleOf 42 = .ok (.goto 6, 3) := by decide +kernel
theorem dX9_articleOf_45 : decode cX9_articleOf 45 = .ok (.ldc_w 364, 3) := by decide +kernel
theorem dX9_articleOf_48 : decode cX9_articleOf 48 = .ok (.areturn, 1) := by decide +kernel
theorem dX9_articleOf_49 : decode cX9_articleOf 49 = .ok (.ldc_w 366, 3) := by decide +kernel
theorem dX9_articleOf_52 : decode cX9_articleOf 52 = .ok (.areturn, 1) := by decide +kernel
theorem dX9_articleOf_53 : decode cX9_articleOf 53 = .ok (.ldc_w 368, 3) := by decide +kernel
theorem dX9_articleOf_56 : decode cX9_articleOf 56 = .ok (.areturn, 1) := by decide +kernel
theorem dX10_init_0 : decode cX10_init 0 = .ok (.aload_n 0, 1) := by decide +kernel
theorem dX10_init_1 : decode cX10_init 1 = .ok (.invokespecial 1, 3) := by decide +kernel
theorem dX10_init_4 : decode cX10_init 4 = .ok (.aload_n 0, 1) := by decide +kernel
theorem dX10_init_5 : decode cX10_init 5 = .ok (.bipush 20, 2) := by decide +kernel
theorem dX10_init_7 : decode cX10_init 7 = .ok (.newarray .int, 2) := by decide +kernel
theorem dX10_init_9 : decode cX10_init 9 = .ok (.putfield 7, 3) := by decide +kernel
theorem dX10_init_12 : decode cX10_init 12 = .ok (.aload_n 0, 1) := by decide +kernel
theorem dX10_init_13 : decode cX10_init 13 = .ok (.bipush 20, 2) := by decide +kernel
theorem dX10_init_15 : decode cX10_init 15 = .ok (.newarray .int, 2) := by decide +kernel
theorem dX10_init_17 : decode cX10_init 17 = .ok (.putfield 13, 3) := by decide +kernel
theorem dX10_init_20 : decode cX10_init 20 = .ok (.aload_n 0, 1) := by decide +kernel
theorem dX10_init_21 : decode cX10_init 21 = .ok (.sipush 400, 3) := by decide +kernel
theorem dX10_init_24 : decode cX10_init 24 = .ok (.newarray .int, 2) := by decide +kernel
theorem dX10_init_26 : decode cX10_init 26 = .ok (.putfield 16, 3) := by decide +kernel
theorem dX10_init_29 : decode cX10_init 29 = .ok (.aload_n 0, 1) := by decide +kernel
theorem dX10_init_30 : decode cX10_init 30 = .ok (.bipush 20, 2) := by decide +kernel
theorem dX10_init_32 : decode cX10_init 32 = .ok (.newarray .int, 2) := by decide +kernel
theorem dX10_init_34 : decode cX10_init 34 = .ok (.putfield 19, 3) := by decide +kernel
theorem dX10_init_37 : decode cX10_init 37 = .ok (.aload_n 0, 1) := by decide +kernel
theorem dX10_init_38 : decode cX10_init 38 = .ok (.sipush 160, 3) := by decide +kernel
theorem dX10_init_41 : decode cX10_init 41 = .ok (.newarray .int, 2) := by decide +kernel
theorem dX10_init_43 : decode cX10_init 43 = .ok (.putfield 22, 3) := by decide +kernel
theorem dX10_init_46 : decode cX10_init 46 = .ok (.aload_n 0, 1) := by decide +kernel
theorem dX10_init_47 : decode cX10_init 47 = .ok (.sipush 160, 3) := by decide +kernel
theorem dX10_init_50 : decode cX10_init 50 = .ok (.newarray .int, 2) := by decide +kernel
theorem dX10_init_52 : decode cX10_init 52 = .ok (.putfield 25, 3) := by decide +kernel
theorem dX10_init_55 : decode cX10_init 55 = .ok (.aload_n 0, 1) := by decide +kernel
theorem dX10_init_56 : decode cX10_init 56 = .ok (.sipush 160, 3) := by decide +kernel
theorem dX10_init_59 : decode cX10_init 59 = .ok (.newarray .int, 2) := by decide +kernel
theorem dX10_init_61 : decode cX10_init 61 = .ok (.putfield 28, 3) := by decide +kernel
theorem dX10_init_64 : decode cX10_init 64 = .ok (.aload_n 0, 1) := by decide +kernel
theorem dX10_init_65 : decode cX10_init 65 = .ok (.bipush 10, 2) := by decide +kernel
theorem dX10_init_67 : decode cX10_init 67 = .ok (.newarray .int, 2) := by decide +kernel
theorem dX10_init_69 : decode cX10_init 69 = .ok (.putfield 31, 3) := by decide +kernel
theorem dX10_init_72 : decode cX10_init 72 = .ok (.aload_n 0, 1) := by decide +kernel
theorem dX10_init_73 : decode cX10_init 73 = .ok (.bipush 100, 2) := by decide +kernel
theorem dX10_init_75 : decode cX10_init 75 = .ok (.newarray .int, 2) := by decide +kernel
theorem dX10_init_77 : decode cX10_init 77 = .ok (.putfield 34, 3) := by decide +kernel
theorem dX10_init_80 : decode cX10_init 80 = .ok (.aload_n 0, 1) := by decide +kernel
theorem dX10_init_81 : decode cX10_init 81 = .ok (.bipush 41, 2) := by decide +kernel
theorem dX10_init_83 : decode cX10_init 83 = .ok (.newarray .boolean, 2) := by decide +kernel
theorem dX10_init_85 : decode cX10_init 85 = .ok (.putfield 37, 3) := by decide +kernel
theorem dX10_init_88 : decode cX10_init 88 = .ok (.aload_n 0, 1) := by decide +kernel
theorem dX10_init_89 : decode cX10_init 89 = .ok (.bipush 41, 2) := by decide +kernel
theorem dX10_init_91 : decode cX10_init 91 = .ok (.newarray .boolean, 2) := by decide +kernel
theorem dX10_init_93 : decode cX10_init 93 = .ok (.putfield 41, 3) := by decide +kernel
theorem dX10_init_96 : decode cX10_init 96 = .ok (.aload_n 0, 1) := by decide +kernel
theorem dX10_init_97 : decode cX10_init 97 = .ok (.bipush 41, 2) := by decide +kernel
theorem dX10_init_99 : decode cX10_init 99 = .ok (.newarray .int, 2) := by decide +kernel
theorem dX10_init_101 : decode cX10_init 101 = .ok (.putfield 44, 3) := by decide +kernel
theorem dX10_init_104 : decode cX10_init 104 = .ok (.aload_n 0, 1) := by decide +kernel
theorem dX10_init_105 : decode cX10_init 105 = .ok (.bipush 41, 2) := by decide +kernel
theorem dX10_init_107 : decode cX10_init 107 = .ok (.newarray .int, 2) := by decide +kernel
theorem dX10_init_109 : decode cX10_init 109 = .ok (.putfield 47, 3) := by decide +kernel
theorem dX10_init_112 : decode cX10_init 112 = .ok (.aload_n 0, 1) := by decide +kernel
theorem dX10_init_113 : decode cX10_init 113 = .ok (.sipush 1681, 3) := by decide +kernel
theorem dX10_init_116 : decode cX10_init 116 = .ok (.newarray .int, 2) := by decide +kernel
theorem dX10_init_118 : decode cX10_init 118 = .ok (.putfield 50, 3) := by decide +kernel
theorem dX10_init_121 : decode cX10_init 121 = .ok (.aload_n 0, 1) := by decide +kernel
theorem dX10_init_122 : decode cX10_init 122 = .ok (.sipush 492, 3) := by decide +kernel
theorem dX10_init_125 : decode cX10_init 125 = .ok (.newarray .int, 2) := by decide +kernel
theorem dX10_init_127 : decode cX10_init 127 = .ok (.putfield 53, 3) := by decide +kernel
theorem dX10_init_130 : decode cX10_init 130 = .ok (.aload_n 0, 1) := by decide +kernel
theorem dX10_init_131 : decode cX10_init 131 = .ok (.sipush 1968, 3) := by decide +kernel
theorem dX10_init_134 : decode cX10_init 134 = .ok (.newarray .int, 2) := by decide +kernel
theorem dX10_init_136 : decode cX10_init 136 = .ok (.putfield 56, 3) := by decide +kernel
theorem dX10_init_139 : decode cX10_init 139 = .ok (.aload_n 0, 1) := by decide +kernel
theorem dX10_init_140 : decode cX10_init 140 = .ok (.bipush 41, 2) := by decide +kernel
theorem dX10_init_142 : decode cX10_init 142 = .ok (.newarray .int, 2) := by decide +kernel
theorem dX10_init_144 : decode cX10_init 144 = .ok (.putfield 59, 3) := by decide +kernel
theorem dX10_init_147 : decode cX10_init 147 = .ok (.aload_n 0, 1) := by decide +kernel
theorem dX10_init_148 : decode cX10_init 148 = .ok (.bipush 41, 2) := by decide +kernel
theorem dX10_init_150 : decode cX10_init 150 = .ok (.newarray .boolean, 2) := by decide +kernel
theorem dX10_init_152 : decode cX10_init 152 = .ok (.putfield 62, 3) := by decide +kernel
theorem dX10_init_155 : decode cX10_init 155 = .ok (.aload_n 0, 1) := by decide +kernel
theorem dX10_init_156 : decode cX10_init 156 = .ok (.bipush 41, 2) := by decide +kernel
theorem dX10_init_158 : decode cX10_init 158 = .ok (.newarray .int, 2) := by decide +kernel
theorem dX10_init_160 : decode cX10_init 160 = .ok (.putfield 65, 3) := by decide +kernel
theorem dX10_init_163 : decode cX10_init 163 = .ok (.aload_n 0, 1) := by decide +kernel
theorem dX10_init_164 : decode cX10_init 164 = .ok (.bipush 41, 2) := by decide +kernel
theorem dX10_init_166 : decode cX10_init 166 = .ok (.newarray .int, 2) := by decide +kernel
theorem dX10_init_168 : decode cX10_init 168 = .ok (.putfield 68, 3) := by decide +kernel
theorem dX10_init_171 : decode cX10_init 171 = .ok (.aload_n 0, 1) := by decide +kernel
theorem dX10_init_172 : decode cX10_init 172 = .ok (.bipush 41, 2) := by decide +kernel
theorem dX10_init_174 : decode cX10_init 174 = .ok (.newarray .int, 2) := by decide +kernel
theorem dX10_init_176 : decode cX10_init 176 = .ok (.putfield 71, 3) := by decide +kernel
theorem dX10_init_179 : decode cX10_init 179 = .ok (.aload_n 0, 1) := by decide +kernel
theorem dX10_init_180 : decode cX10_init 180 = .ok (.bipush 90, 2) := by decide +kernel
theorem dX10_init_182 : decode cX10_init 182 = .ok (.newarray .int, 2) := by decide +kernel
theorem dX10_init_184 : decode cX10_init 184 = .ok (.putfield 74, 3) := by decide +kernel
theorem dX10_init_187 : decode cX10_init 187 = .ok (.aload_n 0, 1) := by decide +kernel
theorem dX10_init_188 : decode cX10_init 188 = .ok (.sipush 400, 3) := by decide +kernel
theorem dX10_init_191 : decode cX10_init 191 = .ok (.newarray .int, 2) := by decide +kernel
theorem dX10_init_193 : decode cX10_init 193 = .ok (.putfield 77, 3) := by decide +kernel
theorem dX10_init_196 : decode cX10_init 196 = .ok (.aload_n 0, 1) := by decide +kernel
theorem dX10_init_197 : decode cX10_init 197 = .ok (.bipush 40, 2) := by decide +kernel
theorem dX10_init_199 : decode cX10_init 199 = .ok (.newarray .int, 2) := by decide +kernel
theorem dX10_init_201 : decode cX10_init 201 = .ok (.putfield 80, 3) := by decide +kernel
theorem dX10_init_204 : decode cX10_init 204 = .ok (.aload_n 0, 1) := by decide +kernel
theorem dX10_init_205 : decode cX10_init 205 = .ok (.bipush 40, 2) := by decide +kernel
theorem dX10_init_207 : decode cX10_init 207 = .ok (.newarray .int, 2) := by decide +kernel
theorem dX10_init_209 : decode cX10_init 209 = .ok (.putfield 83, 3) := by decide +kernel
theorem dX10_init_212 : decode cX10_init 212 = .ok (.aload_n 0, 1) := by decide +kernel
theorem dX10_init_213 : decode cX10_init 213 = .ok (.bipush 40, 2) := by decide +kernel
theorem dX10_init_215 : decode cX10_init 215 = .ok (.newarray .int, 2) := by decide +kernel
theorem dX10_init_217 : decode cX10_init 217 = .ok (.putfield 86, 3) := by decide +kernel
theorem dX10_init_220 : decode cX10_init 220 = .ok (.aload_n 0, 1) := by decide +kernel
theorem dX10_init_221 : decode cX10_init 221 = .ok (.bipush 40, 2) := by decide +kernel
theorem dX10_init_223 : decode cX10_init 223 = .ok (.newarray .int, 2) := by decide +kernel
theorem dX10_init_225 : decode cX10_init 225 = .ok (.putfield 89, 3) := by decide +kernel
theorem dX10_init_228 : decode cX10_init 228 = .ok (.aload_n 0, 1) := by decide +kernel
theorem dX10_init_229 : decode cX10_init 229 = .ok (.bipush 40, 2) := by decide +kernel
theorem dX10_init_231 : decode cX10_init 231 = .ok (.newarray .int, 2) := by decide +kernel
theorem dX10_init_233 : decode cX10_init 233 = .ok (.putfield 92, 3) := by decide +kernel
theorem dX10_init_236 : decode cX10_init 236 = .ok (.aload_n 0, 1) := by decide +kernel
theorem dX10_init_237 : decode cX10_init 237 = .ok (.bipush 40, 2) := by decide +kernel
theorem dX10_init_239 : decode cX10_init 239 = .ok (.newarray .int, 2) := by decide +kernel
theorem dX10_init_241 : decode cX10_init 241 = .ok (.putfield 95, 3) := by decide +kernel
theorem dX10_init_244 : decode cX10_init 244 = .ok (.aload_n 0, 1) := by decide +kernel
theorem dX10_init_245 : decode cX10_init 245 = .ok (.iload_n 1, 1) := by decide +kernel
theorem dX10_init_246 : decode cX10_init 246 = .ok (.ifCond .eq 7, 3) := by decide +kernel
theorem dX10_init_249 : decode cX10_init 249 = .ok (.iconst 1, 1) := by decide +kernel
theorem dX10_init_250 : decode cX10_init 250 = .ok (.goto 4, 3) := by decide +kernel
theorem dX10_init_253 : decode cX10_init 253 = .ok (.iconst 0, 1) := by decide +kernel
theorem dX10_init_254 : decode cX10_init 254 = .ok (.putfield 98, 3) := by decide +kernel
theorem dX10_init_257 : decode cX10_init 257 = .ok (.return_, 1) := by decide +kernel
theorem dX10_in_0 : decode cX10_in 0 = .ok (.iload_n 0, 1) := by decide +kernel
theorem dX10_in_1 : decode cX10_in 1 = .ok (.iload_n 1, 1) := by decide +kernel
theorem dX10_in_2 : decode cX10_in 2 = .ok (.if_icmp .lt 12, 3) := by decide +kernel
theorem dX10_in_5 : decode cX10_in 5 = .ok (.iload_n 0, 1) := by decide +kernel
theorem dX10_in_6 : decode cX10_in 6 = .ok (.iload_n 2, 1) := by decide +kernel
theorem dX10_in_7 : decode cX10_in 7 = .ok (.if_icmp .gt 7, 3) := by decide +kernel
theorem dX10_in_10 : decode cX10_in 10 = .ok (.iconst 1, 1) := by decide +kernel
theorem dX10_in_11 : decode cX10_in 11 = .ok (.goto 4, 3) := by decide +kernel
theorem dX10_in_14 : decode cX10_in 14 = .ok (.iconst 0, 1) := by decide +kernel
theorem dX10_in_15 : decode cX10_in 15 = .ok (.ireturn, 1) := by decide +kernel
theorem dX10_letter_0 : decode cX10_letter 0 = .ok (.iload_n 1, 1) := by decide +kernel
theorem dX10_letter_1 : decode cX10_letter 1 = .ok (.bipush 32, 2) := by decide +kernel
theorem dX10_letter_3 : decode cX10_letter 3 = .ok (.bipush 126, 2) := by decide +kernel
theorem dX10_letter_5 : decode cX10_letter 5 = .ok (.invokestatic 102, 3) := by decide +kernel
theorem dX10_letter_8 : decode cX10_letter 8 = .ok (.ifCond .ne 6, 3) := by decide +kernel
theorem dX10_letter_11 : decode cX10_letter 11 = .ok (.bipush (-3), 2) := by decide +kernel
theorem dX10_letter_13 : decode cX10_letter 13 = .ok (.ireturn, 1) := by decide +kernel
theorem dX10_letter_14 : decode cX10_letter 14 = .ok (.aload_n 0, 1) := by decide +kernel
theorem dX10_letter_15 : decode cX10_letter 15 = .ok (.getfield 106, 3) := by decide +kernel
theorem dX10_letter_18 : decode cX10_letter 18 = .ok (.bipush 20, 2) := by decide +kernel
theorem dX10_letter_20 : decode cX10_letter 20 = .ok (.if_icmp .ne 6, 3) := by decide +kernel
theorem dX10_letter_23 : decode cX10_letter 23 = .ok (.bipush (-4), 2) := by decide +kernel
theorem dX10_letter_25 : decode cX10_letter 25 = .ok (.ireturn, 1) := by decide +kernel
theorem dX10_letter_26 : decode cX10_letter 26 = .ok (.aload_n 0, 1) := by decide +kernel
theorem dX10_letter_27 : decode cX10_letter 27 = .ok (.getfield 7, 3) := by decide +kernel
theorem dX10_letter_30 : decode cX10_letter 30 = .ok (.aload_n 0, 1) := by decide +kernel
theorem dX10_letter_31 : decode cX10_letter 31 = .ok (.getfield 106, 3) := by decide +kernel
theorem dX10_letter_34 : decode cX10_letter 34 = .ok (.iload_n 1, 1) := by decide +kernel
theorem dX10_letter_35 : decode cX10_letter 35 = .ok (.iastore, 1) := by decide +kernel
theorem dX10_letter_36 : decode cX10_letter 36 = .ok (.aload_n 0, 1) := by decide +kernel
theorem dX10_letter_37 : decode cX10_letter 37 = .ok (.dup, 1) := by decide +kernel
theorem dX10_letter_38 : decode cX10_letter 38 = .ok (.getfield 106, 3) := by decide +kernel
theorem dX10_letter_41 : decode cX10_letter 41 = .ok (.iconst 1, 1) := by decide +kernel
theorem dX10_letter_42 : decode cX10_letter 42 = .ok (.iadd, 1) := by decide +kernel
theorem dX10_letter_43 : decode cX10_letter 43 = .ok (.putfield 106, 3) := by decide +kernel
theorem dX10_letter_46 : decode cX10_letter 46 = .ok (.aload_n 0, 1) := by decide +kernel
theorem dX10_letter_47 : decode cX10_letter 47 = .ok (.getfield 106, 3) := by decide +kernel
theorem dX10_letter_50 : decode cX10_letter 50 = .ok (.ireturn, 1) := by decide +kernel
theorem dX10_text_0 : decode cX10_text 0 = .ok (.aload_n 0, 1) := by decide +kernel
theorem dX10_text_1 : decode cX10_text 1 = .ok (.getfield 110, 3) := by decide +kernel
theorem dX10_text_4 : decode cX10_text 4 = .ok (.bipush 20, 2) := by decide +kernel
theorem dX10_text_6 : decode cX10_text 6 = .ok (.if_icmp .ne 6, 3) := by decide +kernel
theorem dX10_text_9 : decode cX10_text 9 = .ok (.bipush (-4), 2) := by decide +kernel
theorem dX10_text_11 : decode cX10_text 11 = .ok (.ireturn, 1) := by decide +kernel
theorem dX10_text_12 : decode cX10_text 12 = .ok (.iconst 0, 1) := by decide +kernel
theorem dX10_text_13 : decode cX10_text 13 = .ok (.istore_n 1, 1) := by decide +kernel
theorem dX10_text_14 : decode cX10_text 14 = .ok (.iload_n 1, 1) := by decide +kernel
theorem dX10_text_15 : decode cX10_text 15 = .ok (.aload_n 0, 1) := by decide +kernel
theorem dX10_text_16 : decode cX10_text 16 = .ok (.getfield 106, 3) := by decide +kernel
theorem dX10_text_19 : decode cX10_text 19 = .ok (.if_icmp .ge 29, 3) := by decide +kernel
theorem dX10_text_22 : decode cX10_text 22 = .ok (.aload_n 0, 1) := by decide +kernel
theorem dX10_text_23 : decode cX10_text 23 = .ok (.getfield 16, 3) := by decide +kernel
theorem dX10_text_26 : decode cX10_text 26 = .ok (.bipush 20, 2) := by decide +kernel
theorem dX10_text_28 : decode cX10_text 28 = .ok (.aload_n 0, 1) := by decide +kernel
theorem dX10_text_29 : decode cX10_text 29 = .ok (.getfield 110, 3) := by decide +kernel
theorem dX10_text_32 : decode cX10_text 32 = .ok (.imul, 1) := by decide +kernel
theorem dX10_text_33 : decode cX10_text 33 = .ok (.iload_n 1, 1) := by decide +kernel
theorem dX10_text_34 : decode cX10_text 34 = .ok (.iadd, 1) := by decide +kernel
theorem dX10_text_35 : decode cX10_text 35 = .ok (.aload_n 0, 1) := by decide +kernel
theorem dX10_text_36 : decode cX10_text 36 = .ok (.getfield 7, 3) := by decide +kernel
theorem dX10_text_39 : decode cX10_text 39 = .ok (.iload_n 1, 1) := by decide +kernel
theorem dX10_text_40 : decode cX10_text 40 = .ok (.iaload, 1) := by decide +kernel
theorem dX10_text_41 : decode cX10_text 41 = .ok (.iastore, 1) := by decide +kernel
theorem dX10_text_42 : decode cX10_text 42 = .ok (.iinc 1 1, 3) := by decide +kernel
theorem dX10_text_45 : decode cX10_text 45 = .ok (.goto (-31), 3) := by decide +kernel
theorem dX10_text_48 : decode cX10_text 48 = .ok (.aload_n 0, 1) := by decide +kernel
theorem dX10_text_49 : decode cX10_text 49 = .ok (.getfield 13, 3) := by decide +kernel
theorem dX10_text_52 : decode cX10_text 52 = .ok (.aload_n 0, 1) := by decide +kernel
theorem dX10_text_53 : decode cX10_text 53 = .ok (.getfield 110, 3) := by decide +kernel
theorem dX10_text_56 : decode cX10_text 56 = .ok (.aload_n 0, 1) := by decide +kernel
theorem dX10_text_57 : decode cX10_text 57 = .ok (.getfield 106, 3) := by decide +kernel
theorem dX10_text_60 : decode cX10_text 60 = .ok (.iastore, 1) := by decide +kernel
theorem dX10_text_61 : decode cX10_text 61 = .ok (.aload_n 0, 1) := by decide +kernel
theorem dX10_text_62 : decode cX10_text 62 = .ok (.iconst 0, 1) := by decide +kernel
theorem dX10_text_63 : decode cX10_text 63 = .ok (.putfield 106, 3) := by decide +kernel
theorem dX10_text_66 : decode cX10_text 66 = .ok (.aload_n 0, 1) := by decide +kernel
theorem dX10_text_67 : decode cX10_text 67 = .ok (.dup, 1) := by decide +kernel
theorem dX10_text_68 : decode cX10_text 68 = .ok (.getfield 110, 3) := by decide +kernel
theorem dX10_text_71 : decode cX10_text 71 = .ok (.iconst 1, 1) := by decide +kernel
theorem dX10_text_72 : decode cX10_text 72 = .ok (.iadd, 1) := by decide +kernel
theorem dX10_text_73 : decode cX10_text 73 = .ok (.putfield 110, 3) := by decide +kernel
theorem dX10_text_76 : decode cX10_text 76 = .ok (.bipush 100, 2) := by decide +kernel
theorem dX10_text_78 : decode cX10_text 78 = .ok (.aload_n 0, 1) := by decide +kernel
theorem dX10_text_79 : decode cX10_text 79 = .ok (.getfield 110, 3) := by decide +kernel
theorem dX10_text_82 : decode cX10_text 82 = .ok (.iadd, 1) := by decide +kernel
theorem dX10_text_83 : decode cX10_text 83 = .ok (.ireturn, 1) := by decide +kernel
theorem dX10_routine_0 : decode cX10_routine 0 = .ok (.aload_n 0, 1) := by decide +kernel
theorem dX10_routine_1 : decode cX10_routine 1 = .ok (.getfield 113, 3) := by decide +kernel
theorem dX10_routine_4 : decode cX10_routine 4 = .ok (.bipush 20, 2) := by decide +kernel
theorem dX10_routine_6 : decode cX10_routine 6 = .ok (.if_icmp .ne 6, 3) := by decide +kernel
theorem dX10_routine_9 : decode cX10_routine 9 = .ok (.bipush (-4), 2) := by decide +kernel
theorem dX10_routine_11 : decode cX10_routine 11 = .ok (.ireturn, 1) := by decide +kernel
theorem dX10_routine_12 : decode cX10_routine 12 = .ok (.aload_n 0, 1) := by decide +kernel
theorem dX10_routine_13 : decode cX10_routine 13 = .ok (.dup, 1) := by decide +kernel
theorem dX10_routine_14 : decode cX10_routine 14 = .ok (.getfield 113, 3) := by decide +kernel
theorem dX10_routine_17 : decode cX10_routine 17 = .ok (.iconst 1, 1) := by decide +kernel
theorem dX10_routine_18 : decode cX10_routine 18 = .ok (.iadd, 1) := by decide +kernel
theorem dX10_routine_19 : decode cX10_routine 19 = .ok (.putfield 113, 3) := by decide +kernel
theorem dX10_routine_22 : decode cX10_routine 22 = .ok (.sipush 200, 3) := by decide +kernel
theorem dX10_routine_25 : decode cX10_routine 25 = .ok (.aload_n 0, 1) := by decide +kernel
theorem dX10_routine_26 : decode cX10_routine 26 = .ok (.getfield 113, 3) := by decide +kernel
theorem dX10_routine_29 : decode cX10_routine 29 = .ok (.iadd, 1) := by decide +kernel
theorem dX10_routine_30 : decode cX10_routine 30 = .ok (.ireturn, 1) := by decide +kernel
theorem dX10_act_0 : decode cX10_act 0 = .ok (.iload_n 1, 1) := by decide +kernel
theorem dX10_act_1 : decode cX10_act 1 = .ok (.sipush 201, 3) := by decide +kernel
theorem dX10_act_4 : decode cX10_act 4 = .ok (.isub, 1) := by decide +kernel
theorem dX10_act_5 : decode cX10_act 5 = .ok (.istore 5, 2) := by decide +kernel
theorem dX10_act_7 : decode cX10_act 7 = .ok (.iload 5, 2) := by decide +kernel
theorem dX10_act_9 : decode cX10_act 9 = .ok (.iconst 0, 1) := by decide +kernel
theorem dX10_act_10 : decode cX10_act 10 = .ok (.aload_n 0, 1) := by decide +kernel
theorem dX10_act_11 : decode cX10_act 11 = .ok (.getfield 113, 3) := by decide +kernel
theorem dX10_act_14 : decode cX10_act 14 = .ok (.iconst 1, 1) := by decide +kernel
theorem dX10_act_15 : decode cX10_act 15 = .ok (.isub, 1) := by decide +kernel
theorem dX10_act_16 : decode cX10_act 16 = .ok (.invokestatic 102, 3) := by decide +kernel
theorem dX10_act_19 : decode cX10_act 19 = .ok (.ifCond .ne 6, 3) := by decide +kernel
theorem dX10_act_22 : decode cX10_act 22 = .ok (.bipush (-2), 2) := by decide +kernel
theorem dX10_act_24 : decode cX10_act 24 = .ok (.ireturn, 1) := by decide +kernel
theorem dX10_act_25 : decode cX10_act 25 = .ok (.iload_n 2, 1) := by decide +kernel
theorem dX10_act_26 : decode cX10_act 26 = .ok (.iconst 0, 1) := by decide +kernel
theorem dX10_act_27 : decode cX10_act 27 = .ok (.bipush 14, 2) := by decide +kernel
theorem dX10_act_29 : decode cX10_act 29 = .ok (.invokestatic 102, 3) := by decide +kernel
theorem dX10_act_32 : decode cX10_act 32 = .ok (.ifCond .ne 6, 3) := by decide +kernel
theorem dX10_act_35 : decode cX10_act 35 = .ok (.bipush (-3), 2) := by decide +kernel
theorem dX10_act_37 : decode cX10_act 37 = .ok (.ireturn, 1) := by decide +kernel
theorem dX10_act_38 : decode cX10_act 38 = .ok (.aload_n 0, 1) := by decide +kernel
theorem dX10_act_39 : decode cX10_act 39 = .ok (.getfield 19, 3) := by decide +kernel
theorem dX10_act_42 : decode cX10_act 42 = .ok (.iload 5, 2) := by decide +kernel
theorem dX10_act_44 : decode cX10_act 44 = .ok (.iaload, 1) := by decide +kernel
theorem dX10_act_45 : decode cX10_act 45 = .ok (.bipush 8, 2) := by decide +kernel
theorem dX10_act_47 : decode cX10_act 47 = .ok (.if_icmp .ne 6, 3) := by decide +kernel
theorem dX10_act_50 : decode cX10_act 50 = .ok (.bipush (-4), 2) := by decide +kernel
theorem dX10_act_52 : decode cX10_act 52 = .ok (.ireturn, 1) := by decide +kernel
theorem dX10_act_53 : decode cX10_act 53 = .ok (.bipush 8, 2) := by decide +kernel
theorem dX10_act_55 : decode cX10_act 55 = .ok (.iload 5, 2) := by decide +kernel
theorem dX10_act_57 : decode cX10_act 57 = .ok (.imul, 1) := by decide +kernel
theorem dX10_act_58 : decode cX10_act 58 = .ok (.aload_n 0, 1) := by decide +kernel
theorem dX10_act_59 : decode cX10_act 59 = .ok (.getfield 19, 3) := by decide +kernel
theorem dX10_act_62 : decode cX10_act 62 = .ok (.iload 5, 2) := by decide +kernel
theorem dX10_act_64 : decode cX10_act 64 = .ok (.iaload, 1) := by decide +kernel
theorem dX10_act_65 : decode cX10_act 65 = .ok (.iadd, 1) := by decide +kernel
theorem dX10_act_66 : decode cX10_act 66 = .ok (.istore 6, 2) := by decide +kernel
theorem dX10_act_68 : decode cX10_act 68 = .ok (.aload_n 0, 1) := by decide +kernel
theorem dX10_act_69 : decode cX10_act 69 = .ok (.getfield 22, 3) := by decide +kernel
theorem dX10_act_72 : decode cX10_act 72 = .ok (.iload 6, 2) := by decide +kernel
theorem dX10_act_74 : decode cX10_act 74 = .ok (.iload_n 2, 1) := by decide +kernel
theorem dX10_act_75 : decode cX10_act 75 = .ok (.iastore, 1) := by decide +kernel
theorem dX10_act_76 : decode cX10_act 76 = .ok (.aload_n 0, 1) := by decide +kernel
theorem dX10_act_77 : decode cX10_act 77 = .ok (.getfield 25, 3) := by decide +kernel
theorem dX10_act_80 : decode cX10_act 80 = .ok (.iload 6, 2) := by decide +kernel
theorem dX10_act_82 : decode cX10_act 82 = .ok (.iload_n 3, 1) := by decide +kernel
theorem dX10_act_83 : decode cX10_act 83 = .ok (.iastore, 1) := by decide +kernel
theorem dX10_act_84 : decode cX10_act 84 = .ok (.aload_n 0, 1) := by decide +kernel
theorem dX10_act_85 : decode cX10_act 85 = .ok (.getfield 28, 3) := by decide +kernel
theorem dX10_act_88 : decode cX10_act 88 = .ok (.iload 6, 2) := by decide +kernel
theorem dX10_act_90 : decode cX10_act 90 = .ok (.iload 4, 2) := by decide +kernel
theorem dX10_act_92 : decode cX10_act 92 = .ok (.iastore, 1) := by decide +kernel
theorem dX10_act_93 : decode cX10_act 93 = .ok (.aload_n 0, 1) := by decide +kernel
theorem dX10_act_94 : decode cX10_act 94 = .ok (.getfield 19, 3) := by decide +kernel
theorem dX10_act_97 : decode cX10_act 97 = .ok (.iload 5, 2) := by decide +kernel
theorem dX10_act_99 : decode cX10_act 99 = .ok (.dup2, 1) := by decide +kernel
theorem dX10_act_100 : decode cX10_act 100 = .ok (.iaload, 1) := by decide +kernel
theorem dX10_act_101 : decode cX10_act 101 = .ok (.iconst 1, 1) := by decide +kernel
theorem dX10_act_102 : decode cX10_act 102 = .ok (.iadd, 1) := by decide +kernel
theorem dX10_act_103 : decode cX10_act 103 = .ok (.iastore, 1) := by decide +kernel
theorem dX10_act_104 : decode cX10_act 104 = .ok (.aload_n 0, 1) := by decide +kernel
theorem dX10_act_105 : decode cX10_act 105 = .ok (.getfield 19, 3) := by decide +kernel
theorem dX10_act_108 : decode cX10_act 108 = .ok (.iload 5, 2) := by decide +kernel
theorem dX10_act_110 : decode cX10_act 110 = .ok (.iaload, 1) := by decide +kernel
theorem dX10_act_111 : decode cX10_act 111 = .ok (.ireturn, 1) := by decide +kernel
theorem dX10_array_0 : decode cX10_array 0 = .ok (.iload_n 1, 1) := by decide +kernel
theorem dX10_array_1 : decode cX10_array 1 = .ok (.iconst 1, 1) := by decide +kernel
theorem dX10_array_2 : decode cX10_array 2 = .ok (.bipush 10, 2) := by decide +kernel
theorem dX10_array_4 : decode cX10_array 4 = .ok (.invokestatic 102, 3) := by decide +kernel
theorem dX10_array_7 : decode cX10_array 7 = .ok (.ifCond .ne 6, 3) := by decide +kernel
theorem dX10_array_10 : decode cX10_array 10 = .ok (.bipush (-3), 2) := by decide +kernel
theorem dX10_array_12 : decode cX10_array 12 = .ok (.ireturn, 1) := by decide +kernel
theorem dX10_array_13 : decode cX10_array 13 = .ok (.aload_n 0, 1) := by decide +kernel
theorem dX10_array_14 : decode cX10_array 14 = .ok (.getfield 116, 3) := by decide +kernel
theorem dX10_array_17 : decode cX10_array 17 = .ok (.bipush 10, 2) := by decide +kernel
theorem dX10_array_19 : decode cX10_array 19 = .ok (.if_icmp .ne 6, 3) := by decide +kernel
theorem dX10_array_22 : decode cX10_array 22 = .ok (.bipush (-4), 2) := by decide +kernel
theorem dX10_array_24 : decode cX10_array 24 = .ok (.ireturn, 1) := by decide +kernel
theorem dX10_array_25 : decode cX10_array 25 = .ok (.aload_n 0, 1) := by decide +kernel
theorem dX10_array_26 : decode cX10_array 26 = .ok (.getfield 31, 3) := by decide +kernel
theorem dX10_array_29 : decode cX10_array 29 = .ok (.aload_n 0, 1) := by decide +kernel
theorem dX10_array_30 : decode cX10_array 30 = .ok (.getfield 116, 3) := by decide +kernel
theorem dX10_array_33 : decode cX10_array 33 = .ok (.iload_n 1, 1) := by decide +kernel
theorem dX10_array_34 : decode cX10_array 34 = .ok (.iastore, 1) := by decide +kernel
theorem dX10_array_35 : decode cX10_array 35 = .ok (.aload_n 0, 1) := by decide +kernel
theorem dX10_array_36 : decode cX10_array 36 = .ok (.dup, 1) := by decide +kernel
theorem dX10_array_37 : decode cX10_array 37 = .ok (.getfield 116, 3) := by decide +kernel
theorem dX10_array_40 : decode cX10_array 40 = .ok (.iconst 1, 1) := by decide +kernel
theorem dX10_array_41 : decode cX10_array 41 = .ok (.iadd, 1) := by decide +kernel
theorem dX10_array_42 : decode cX10_array 42 = .ok (.putfield 116, 3) := by decide +kernel
theorem dX10_array_45 : decode cX10_array 45 = .ok (.sipush 300, 3) := by decide +kernel
theorem dX10_array_48 : decode cX10_array 48 = .ok (.aload_n 0, 1) := by decide +kernel
theorem dX10_array_49 : decode cX10_array 49 = .ok (.getfield 116, 3) := by decide +kernel
theorem dX10_array_52 : decode cX10_array 52 = .ok (.iadd, 1) := by decide +kernel
theorem dX10_array_53 : decode cX10_array 53 = .ok (.ireturn, 1) := by decide +kernel
theorem dX10_isClass_0 : decode cX10_isClass 0 = .ok (.iload_n 1, 1) := by decide +kernel
theorem dX10_isClass_1 : decode cX10_isClass 1 = .ok (.iconst 1, 1) := by decide +kernel
theorem dX10_isClass_2 : decode cX10_isClass 2 = .ok (.aload_n 0, 1) := by decide +kernel
theorem dX10_isClass_3 : decode cX10_isClass 3 = .ok (.getfield 119, 3) := by decide +kernel
theorem dX10_isClass_6 : decode cX10_isClass 6 = .ok (.invokestatic 102, 3) := by decide +kernel
theorem dX10_isClass_9 : decode cX10_isClass 9 = .ok (.ifCond .eq 16, 3) := by decide +kernel
theorem dX10_isClass_12 : decode cX10_isClass 12 = .ok (.aload_n 0, 1) := by decide +kernel
theorem dX10_isClass_13 : decode cX10_isClass 13 = .ok (.getfield 37, 3) := by decide +kernel
theorem dX10_isClass_16 : decode cX10_isClass 16 = .ok (.iload_n 1, 1) := by decide +kernel
theorem dX10_isClass_17 : decode cX10_isClass 17 = .ok (.baload, 1) := by decide +kernel
theorem dX10_isClass_18 : decode cX10_isClass 18 = .ok (.ifCond .eq 7, 3) := by decide +kernel
theorem dX10_isClass_21 : decode cX10_isClass 21 = .ok (.iconst 1, 1) := by decide +kernel
theorem dX10_isClass_22 : decode cX10_isClass 22 = .ok (.goto 4, 3) := by decide +kernel
theorem dX10_isClass_25 : decode cX10_isClass 25 = .ok (.iconst 0, 1) := by decide +kernel
theorem dX10_isClass_26 : decode cX10_isClass 26 = .ok (.ireturn, 1) := by decide +kernel
theorem dX10_meta_0 : decode cX10_meta 0 = .ok (.iload_n 1, 1) := by decide +kernel
theorem dX10_meta_1 : decode cX10_meta 1 = .ok (.iconst 1, 1) := by decide +kernel
theorem dX10_meta_2 : decode cX10_meta 2 = .ok (.aload_n 0, 1) := by decide +kernel
theorem dX10_meta_3 : decode cX10_meta 3 = .ok (.getfield 119, 3) := by decide +kernel
theorem dX10_meta_6 : decode cX10_meta 6 = .ok (.invokestatic 102, 3) := by decide +kernel
theorem dX10_meta_9 : decode cX10_meta 9 = .ok (.ifCond .eq 31, 3) := by decide +kernel
theorem dX10_meta_12 : decode cX10_meta 12 = .ok (.aload_n 0, 1) := by decide +kernel
theorem dX10_meta_13 : decode cX10_meta 13 = .ok (.getfield 37, 3) := by decide +kernel
theorem dX10_meta_16 : decode cX10_meta 16 = .ok (.iload_n 1, 1) := by decide +kernel
theorem dX10_meta_17 : decode cX10_meta 17 = .ok (.baload, 1) := by decide +kernel
theorem dX10_meta_18 : decode cX10_meta 18 = .ok (.ifCond .eq 7, 3) := by decide +kernel
theorem dX10_meta_21 : decode cX10_meta 21 = .ok (.iconst 1, 1) := by decide +kernel
