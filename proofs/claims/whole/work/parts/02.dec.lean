theorem dX0_init_0 : decode cX0_init 0 = .ok (.aload_n 0, 1) := by decide +kernel
theorem dX0_init_1 : decode cX0_init 1 = .ok (.invokespecial 3, 3) := by decide +kernel
theorem dX0_init_4 : decode cX0_init 4 = .ok (.aload_n 0, 1) := by decide +kernel
theorem dX0_init_5 : decode cX0_init 5 = .ok (.bipush 30, 2) := by decide +kernel
theorem dX0_init_7 : decode cX0_init 7 = .ok (.newarray .int, 2) := by decide +kernel
theorem dX0_init_9 : decode cX0_init 9 = .ok (.putfield 9, 3) := by decide +kernel
theorem dX0_init_12 : decode cX0_init 12 = .ok (.aload_n 0, 1) := by decide +kernel
theorem dX0_init_13 : decode cX0_init 13 = .ok (.bipush 30, 2) := by decide +kernel
theorem dX0_init_15 : decode cX0_init 15 = .ok (.newarray .int, 2) := by decide +kernel
theorem dX0_init_17 : decode cX0_init 17 = .ok (.putfield 15, 3) := by decide +kernel
theorem dX0_init_20 : decode cX0_init 20 = .ok (.aload_n 0, 1) := by decide +kernel
theorem dX0_init_21 : decode cX0_init 21 = .ok (.bipush 30, 2) := by decide +kernel
theorem dX0_init_23 : decode cX0_init 23 = .ok (.newarray .int, 2) := by decide +kernel
theorem dX0_init_25 : decode cX0_init 25 = .ok (.putfield 18, 3) := by decide +kernel
theorem dX0_init_28 : decode cX0_init 28 = .ok (.aload_n 0, 1) := by decide +kernel
theorem dX0_init_29 : decode cX0_init 29 = .ok (.iload_n 1, 1) := by decide +kernel
theorem dX0_init_30 : decode cX0_init 30 = .ok (.putfield 21, 3) := by decide +kernel
theorem dX0_init_33 : decode cX0_init 33 = .ok (.return_, 1) := by decide +kernel
theorem dX0_tell_0 : decode cX0_tell 0 = .ok (.aload_n 0, 1) := by decide +kernel
theorem dX0_tell_1 : decode cX0_tell 1 = .ok (.getfield 21, 3) := by decide +kernel
theorem dX0_tell_4 : decode cX0_tell 4 = .ok (.ifCond .eq 59, 3) := by decide +kernel
theorem dX0_tell_7 : decode cX0_tell 7 = .ok (.aload_n 0, 1) := by decide +kernel
theorem dX0_tell_8 : decode cX0_tell 8 = .ok (.getfield 25, 3) := by decide +kernel
theorem dX0_tell_11 : decode cX0_tell 11 = .ok (.ifCond .lt 52, 3) := by decide +kernel
theorem dX0_tell_14 : decode cX0_tell 14 = .ok (.aload_n 0, 1) := by decide +kernel
theorem dX0_tell_15 : decode cX0_tell 15 = .ok (.getfield 25, 3) := by decide +kernel
theorem dX0_tell_18 : decode cX0_tell 18 = .ok (.bipush 30, 2) := by decide +kernel
theorem dX0_tell_20 : decode cX0_tell 20 = .ok (.if_icmp .ge 43, 3) := by decide +kernel
theorem dX0_tell_23 : decode cX0_tell 23 = .ok (.aload_n 0, 1) := by decide +kernel
theorem dX0_tell_24 : decode cX0_tell 24 = .ok (.getfield 9, 3) := by decide +kernel
theorem dX0_tell_27 : decode cX0_tell 27 = .ok (.aload_n 0, 1) := by decide +kernel
theorem dX0_tell_28 : decode cX0_tell 28 = .ok (.getfield 25, 3) := by decide +kernel
theorem dX0_tell_31 : decode cX0_tell 31 = .ok (.iload_n 1, 1) := by decide +kernel
theorem dX0_tell_32 : decode cX0_tell 32 = .ok (.iastore, 1) := by decide +kernel
theorem dX0_tell_33 : decode cX0_tell 33 = .ok (.aload_n 0, 1) := by decide +kernel
theorem dX0_tell_34 : decode cX0_tell 34 = .ok (.getfield 15, 3) := by decide +kernel
theorem dX0_tell_37 : decode cX0_tell 37 = .ok (.aload_n 0, 1) := by decide +kernel
theorem dX0_tell_38 : decode cX0_tell 38 = .ok (.getfield 25, 3) := by decide +kernel
theorem dX0_tell_41 : decode cX0_tell 41 = .ok (.iload_n 2, 1) := by decide +kernel
theorem dX0_tell_42 : decode cX0_tell 42 = .ok (.iastore, 1) := by decide +kernel
theorem dX0_tell_43 : decode cX0_tell 43 = .ok (.aload_n 0, 1) := by decide +kernel
theorem dX0_tell_44 : decode cX0_tell 44 = .ok (.getfield 18, 3) := by decide +kernel
theorem dX0_tell_47 : decode cX0_tell 47 = .ok (.aload_n 0, 1) := by decide +kernel
theorem dX0_tell_48 : decode cX0_tell 48 = .ok (.getfield 25, 3) := by decide +kernel
theorem dX0_tell_51 : decode cX0_tell 51 = .ok (.iload_n 3, 1) := by decide +kernel
theorem dX0_tell_52 : decode cX0_tell 52 = .ok (.iastore, 1) := by decide +kernel
theorem dX0_tell_53 : decode cX0_tell 53 = .ok (.aload_n 0, 1) := by decide +kernel
theorem dX0_tell_54 : decode cX0_tell 54 = .ok (.dup, 1) := by decide +kernel
theorem dX0_tell_55 : decode cX0_tell 55 = .ok (.getfield 25, 3) := by decide +kernel
theorem dX0_tell_58 : decode cX0_tell 58 = .ok (.iconst 1, 1) := by decide +kernel
theorem dX0_tell_59 : decode cX0_tell 59 = .ok (.iadd, 1) := by decide +kernel
theorem dX0_tell_60 : decode cX0_tell 60 = .ok (.putfield 25, 3) := by decide +kernel
theorem dX0_tell_63 : decode cX0_tell 63 = .ok (.iconst 0, 1) := by decide +kernel
theorem dX0_tell_64 : decode cX0_tell 64 = .ok (.ireturn, 1) := by decide +kernel
theorem dX0_at_0 : decode cX0_at 0 = .ok (.iload_n 1, 1) := by decide +kernel
theorem dX0_at_1 : decode cX0_at 1 = .ok (.ifCond .lt 17, 3) := by decide +kernel
theorem dX0_at_4 : decode cX0_at 4 = .ok (.iload_n 1, 1) := by decide +kernel
theorem dX0_at_5 : decode cX0_at 5 = .ok (.aload_n 0, 1) := by decide +kernel
theorem dX0_at_6 : decode cX0_at 6 = .ok (.getfield 25, 3) := by decide +kernel
theorem dX0_at_9 : decode cX0_at 9 = .ok (.if_icmp .ge 9, 3) := by decide +kernel
theorem dX0_at_12 : decode cX0_at 12 = .ok (.iload_n 1, 1) := by decide +kernel
theorem dX0_at_13 : decode cX0_at 13 = .ok (.bipush 30, 2) := by decide +kernel
theorem dX0_at_15 : decode cX0_at 15 = .ok (.if_icmp .lt 5, 3) := by decide +kernel
theorem dX0_at_18 : decode cX0_at 18 = .ok (.iconst (-1), 1) := by decide +kernel
theorem dX0_at_19 : decode cX0_at 19 = .ok (.ireturn, 1) := by decide +kernel
theorem dX0_at_20 : decode cX0_at 20 = .ok (.iload_n 2, 1) := by decide +kernel
theorem dX0_at_21 : decode cX0_at 21 = .ok (.tableswitch 48 0 2 #[27, 34, 41], 27) := by decide +kernel
theorem dX0_at_48 : decode cX0_at 48 = .ok (.aload_n 0, 1) := by decide +kernel
theorem dX0_at_49 : decode cX0_at 49 = .ok (.getfield 9, 3) := by decide +kernel
theorem dX0_at_52 : decode cX0_at 52 = .ok (.iload_n 1, 1) := by decide +kernel
theorem dX0_at_53 : decode cX0_at 53 = .ok (.iaload, 1) := by decide +kernel
theorem dX0_at_54 : decode cX0_at 54 = .ok (.ireturn, 1) := by decide +kernel
theorem dX0_at_55 : decode cX0_at 55 = .ok (.aload_n 0, 1) := by decide +kernel
theorem dX0_at_56 : decode cX0_at 56 = .ok (.getfield 15, 3) := by decide +kernel
theorem dX0_at_59 : decode cX0_at 59 = .ok (.iload_n 1, 1) := by decide +kernel
theorem dX0_at_60 : decode cX0_at 60 = .ok (.iaload, 1) := by decide +kernel
theorem dX0_at_61 : decode cX0_at 61 = .ok (.ireturn, 1) := by decide +kernel
theorem dX0_at_62 : decode cX0_at 62 = .ok (.aload_n 0, 1) := by decide +kernel
theorem dX0_at_63 : decode cX0_at 63 = .ok (.getfield 18, 3) := by decide +kernel
theorem dX0_at_66 : decode cX0_at 66 = .ok (.iload_n 1, 1) := by decide +kernel
theorem dX0_at_67 : decode cX0_at 67 = .ok (.iaload, 1) := by decide +kernel
theorem dX0_at_68 : decode cX0_at 68 = .ok (.ireturn, 1) := by decide +kernel
theorem dX0_at_69 : decode cX0_at 69 = .ok (.iconst (-1), 1) := by decide +kernel
theorem dX0_at_70 : decode cX0_at 70 = .ok (.ireturn, 1) := by decide +kernel
theorem dX1_init_0 : decode cX1_init 0 = .ok (.aload_n 0, 1) := by decide +kernel
theorem dX1_init_1 : decode cX1_init 1 = .ok (.invokespecial 3, 3) := by decide +kernel
theorem dX1_init_4 : decode cX1_init 4 = .ok (.aload_n 0, 1) := by decide +kernel
theorem dX1_init_5 : decode cX1_init 5 = .ok (.bipush 40, 2) := by decide +kernel
theorem dX1_init_7 : decode cX1_init 7 = .ok (.newarray .int, 2) := by decide +kernel
theorem dX1_init_9 : decode cX1_init 9 = .ok (.putfield 9, 3) := by decide +kernel
theorem dX1_init_12 : decode cX1_init 12 = .ok (.return_, 1) := by decide +kernel
theorem dX1_at_0 : decode cX1_at 0 = .ok (.iload_n 1, 1) := by decide +kernel
theorem dX1_at_1 : decode cX1_at 1 = .ok (.ifCond .lt 26, 3) := by decide +kernel
theorem dX1_at_4 : decode cX1_at 4 = .ok (.iload_n 1, 1) := by decide +kernel
theorem dX1_at_5 : decode cX1_at 5 = .ok (.aload_n 0, 1) := by decide +kernel
theorem dX1_at_6 : decode cX1_at 6 = .ok (.getfield 15, 3) := by decide +kernel
theorem dX1_at_9 : decode cX1_at 9 = .ok (.if_icmp .ge 18, 3) := by decide +kernel
theorem dX1_at_12 : decode cX1_at 12 = .ok (.iload_n 1, 1) := by decide +kernel
theorem dX1_at_13 : decode cX1_at 13 = .ok (.bipush 40, 2) := by decide +kernel
theorem dX1_at_15 : decode cX1_at 15 = .ok (.if_icmp .ge 12, 3) := by decide +kernel
theorem dX1_at_18 : decode cX1_at 18 = .ok (.aload_n 0, 1) := by decide +kernel
theorem dX1_at_19 : decode cX1_at 19 = .ok (.getfield 9, 3) := by decide +kernel
theorem dX1_at_22 : decode cX1_at 22 = .ok (.iload_n 1, 1) := by decide +kernel
theorem dX1_at_23 : decode cX1_at 23 = .ok (.iaload, 1) := by decide +kernel
theorem dX1_at_24 : decode cX1_at 24 = .ok (.goto 4, 3) := by decide +kernel
theorem dX1_at_27 : decode cX1_at 27 = .ok (.iconst 0, 1) := by decide +kernel
theorem dX1_at_28 : decode cX1_at 28 = .ok (.ireturn, 1) := by decide +kernel
theorem dX1_has_0 : decode cX1_has 0 = .ok (.iconst 0, 1) := by decide +kernel
theorem dX1_has_1 : decode cX1_has 1 = .ok (.istore_n 2, 1) := by decide +kernel
theorem dX1_has_2 : decode cX1_has 2 = .ok (.iload_n 2, 1) := by decide +kernel
theorem dX1_has_3 : decode cX1_has 3 = .ok (.aload_n 0, 1) := by decide +kernel
theorem dX1_has_4 : decode cX1_has 4 = .ok (.getfield 15, 3) := by decide +kernel
theorem dX1_has_7 : decode cX1_has 7 = .ok (.if_icmp .ge 20, 3) := by decide +kernel
theorem dX1_has_10 : decode cX1_has 10 = .ok (.aload_n 0, 1) := by decide +kernel
theorem dX1_has_11 : decode cX1_has 11 = .ok (.iload_n 2, 1) := by decide +kernel
theorem dX1_has_12 : decode cX1_has 12 = .ok (.invokevirtual 19, 3) := by decide +kernel
theorem dX1_has_15 : decode cX1_has 15 = .ok (.iload_n 1, 1) := by decide +kernel
theorem dX1_has_16 : decode cX1_has 16 = .ok (.if_icmp .ne 5, 3) := by decide +kernel
theorem dX1_has_19 : decode cX1_has 19 = .ok (.iconst 1, 1) := by decide +kernel
theorem dX1_has_20 : decode cX1_has 20 = .ok (.ireturn, 1) := by decide +kernel
theorem dX1_has_21 : decode cX1_has 21 = .ok (.iinc 2 1, 3) := by decide +kernel
theorem dX1_has_24 : decode cX1_has 24 = .ok (.goto (-22), 3) := by decide +kernel
theorem dX1_has_27 : decode cX1_has 27 = .ok (.iconst 0, 1) := by decide +kernel
theorem dX1_has_28 : decode cX1_has 28 = .ok (.ireturn, 1) := by decide +kernel
theorem dX1_add_0 : decode cX1_add 0 = .ok (.aload_n 0, 1) := by decide +kernel
theorem dX1_add_1 : decode cX1_add 1 = .ok (.getfield 15, 3) := by decide +kernel
theorem dX1_add_4 : decode cX1_add 4 = .ok (.ifCond .lt 40, 3) := by decide +kernel
theorem dX1_add_7 : decode cX1_add 7 = .ok (.aload_n 0, 1) := by decide +kernel
theorem dX1_add_8 : decode cX1_add 8 = .ok (.getfield 15, 3) := by decide +kernel
theorem dX1_add_11 : decode cX1_add 11 = .ok (.bipush 40, 2) := by decide +kernel
theorem dX1_add_13 : decode cX1_add 13 = .ok (.if_icmp .ge 31, 3) := by decide +kernel
theorem dX1_add_16 : decode cX1_add 16 = .ok (.aload_n 0, 1) := by decide +kernel
theorem dX1_add_17 : decode cX1_add 17 = .ok (.iload_n 1, 1) := by decide +kernel
theorem dX1_add_18 : decode cX1_add 18 = .ok (.invokevirtual 23, 3) := by decide +kernel
theorem dX1_add_21 : decode cX1_add 21 = .ok (.ifCond .ne 23, 3) := by decide +kernel
theorem dX1_add_24 : decode cX1_add 24 = .ok (.aload_n 0, 1) := by decide +kernel
theorem dX1_add_25 : decode cX1_add 25 = .ok (.getfield 9, 3) := by decide +kernel
theorem dX1_add_28 : decode cX1_add 28 = .ok (.aload_n 0, 1) := by decide +kernel
theorem dX1_add_29 : decode cX1_add 29 = .ok (.getfield 15, 3) := by decide +kernel
theorem dX1_add_32 : decode cX1_add 32 = .ok (.iload_n 1, 1) := by decide +kernel
theorem dX1_add_33 : decode cX1_add 33 = .ok (.iastore, 1) := by decide +kernel
theorem dX1_add_34 : decode cX1_add 34 = .ok (.aload_n 0, 1) := by decide +kernel
theorem dX1_add_35 : decode cX1_add 35 = .ok (.dup, 1) := by decide +kernel
theorem dX1_add_36 : decode cX1_add 36 = .ok (.getfield 15, 3) := by decide +kernel
theorem dX1_add_39 : decode cX1_add 39 = .ok (.iconst 1, 1) := by decide +kernel
theorem dX1_add_40 : decode cX1_add 40 = .ok (.iadd, 1) := by decide +kernel
theorem dX1_add_41 : decode cX1_add 41 = .ok (.putfield 15, 3) := by decide +kernel
theorem dX1_add_44 : decode cX1_add 44 = .ok (.return_, 1) := by decide +kernel
theorem dX1_addAll_0 : decode cX1_addAll 0 = .ok (.iconst 0, 1) := by decide +kernel
theorem dX1_addAll_1 : decode cX1_addAll 1 = .ok (.istore_n 2, 1) := by decide +kernel
theorem dX1_addAll_2 : decode cX1_addAll 2 = .ok (.iload_n 2, 1) := by decide +kernel
theorem dX1_addAll_3 : decode cX1_addAll 3 = .ok (.aload_n 1, 1) := by decide +kernel
theorem dX1_addAll_4 : decode cX1_addAll 4 = .ok (.getfield 15, 3) := by decide +kernel
theorem dX1_addAll_7 : decode cX1_addAll 7 = .ok (.if_icmp .ge 18, 3) := by decide +kernel
theorem dX1_addAll_10 : decode cX1_addAll 10 = .ok (.aload_n 0, 1) := by decide +kernel
theorem dX1_addAll_11 : decode cX1_addAll 11 = .ok (.aload_n 1, 1) := by decide +kernel
theorem dX1_addAll_12 : decode cX1_addAll 12 = .ok (.iload_n 2, 1) := by decide +kernel
theorem dX1_addAll_13 : decode cX1_addAll 13 = .ok (.invokevirtual 19, 3) := by decide +kernel
theorem dX1_addAll_16 : decode cX1_addAll 16 = .ok (.invokevirtual 27, 3) := by decide +kernel
theorem dX1_addAll_19 : decode cX1_addAll 19 = .ok (.iinc 2 1, 3) := by decide +kernel
theorem dX1_addAll_22 : decode cX1_addAll 22 = .ok (.goto (-20), 3) := by decide +kernel
theorem dX1_addAll_25 : decode cX1_addAll 25 = .ok (.return_, 1) := by decide +kernel
theorem dX2_init_0 : decode cX2_init 0 = .ok (.aload_n 0, 1) := by decide +kernel
theorem dX2_init_1 : decode cX2_init 1 = .ok (.invokespecial 3, 3) := by decide +kernel
theorem dX2_init_4 : decode cX2_init 4 = .ok (.aload_n 0, 1) := by decide +kernel
theorem dX2_init_5 : decode cX2_init 5 = .ok (.sipush 400, 3) := by decide +kernel
theorem dX2_init_8 : decode cX2_init 8 = .ok (.newarray .byte, 2) := by decide +kernel
theorem dX2_init_10 : decode cX2_init 10 = .ok (.putfield 9, 3) := by decide +kernel
theorem dX2_init_13 : decode cX2_init 13 = .ok (.return_, 1) := by decide +kernel
theorem dX2_at_0 : decode cX2_at 0 = .ok (.iload_n 1, 1) := by decide +kernel
theorem dX2_at_1 : decode cX2_at 1 = .ok (.ifCond .lt 27, 3) := by decide +kernel
theorem dX2_at_4 : decode cX2_at 4 = .ok (.iload_n 1, 1) := by decide +kernel
theorem dX2_at_5 : decode cX2_at 5 = .ok (.aload_n 0, 1) := by decide +kernel
theorem dX2_at_6 : decode cX2_at 6 = .ok (.getfield 15, 3) := by decide +kernel
theorem dX2_at_9 : decode cX2_at 9 = .ok (.if_icmp .ge 19, 3) := by decide +kernel
theorem dX2_at_12 : decode cX2_at 12 = .ok (.iload_n 1, 1) := by decide +kernel
theorem dX2_at_13 : decode cX2_at 13 = .ok (.sipush 400, 3) := by decide +kernel
theorem dX2_at_16 : decode cX2_at 16 = .ok (.if_icmp .ge 12, 3) := by decide +kernel
theorem dX2_at_19 : decode cX2_at 19 = .ok (.aload_n 0, 1) := by decide +kernel
theorem dX2_at_20 : decode cX2_at 20 = .ok (.getfield 9, 3) := by decide +kernel
theorem dX2_at_23 : decode cX2_at 23 = .ok (.iload_n 1, 1) := by decide +kernel
theorem dX2_at_24 : decode cX2_at 24 = .ok (.baload, 1) := by decide +kernel
theorem dX2_at_25 : decode cX2_at 25 = .ok (.goto 4, 3) := by decide +kernel
theorem dX2_at_28 : decode cX2_at 28 = .ok (.iconst (-1), 1) := by decide +kernel
theorem dX2_at_29 : decode cX2_at 29 = .ok (.ireturn, 1) := by decide +kernel
theorem dX2_add_0 : decode cX2_add 0 = .ok (.aload_n 0, 1) := by decide +kernel
theorem dX2_add_1 : decode cX2_add 1 = .ok (.getfield 15, 3) := by decide +kernel
theorem dX2_add_4 : decode cX2_add 4 = .ok (.ifCond .lt 34, 3) := by decide +kernel
theorem dX2_add_7 : decode cX2_add 7 = .ok (.aload_n 0, 1) := by decide +kernel
theorem dX2_add_8 : decode cX2_add 8 = .ok (.getfield 15, 3) := by decide +kernel
theorem dX2_add_11 : decode cX2_add 11 = .ok (.sipush 400, 3) := by decide +kernel
theorem dX2_add_14 : decode cX2_add 14 = .ok (.if_icmp .ge 24, 3) := by decide +kernel
theorem dX2_add_17 : decode cX2_add 17 = .ok (.aload_n 0, 1) := by decide +kernel
theorem dX2_add_18 : decode cX2_add 18 = .ok (.getfield 9, 3) := by decide +kernel
theorem dX2_add_21 : decode cX2_add 21 = .ok (.aload_n 0, 1) := by decide +kernel
theorem dX2_add_22 : decode cX2_add 22 = .ok (.getfield 15, 3) := by decide +kernel
theorem dX2_add_25 : decode cX2_add 25 = .ok (.iload_n 1, 1) := by decide +kernel
theorem dX2_add_26 : decode cX2_add 26 = .ok (.i2b, 1) := by decide +kernel
theorem dX2_add_27 : decode cX2_add 27 = .ok (.bastore, 1) := by decide +kernel
theorem dX2_add_28 : decode cX2_add 28 = .ok (.aload_n 0, 1) := by decide +kernel
theorem dX2_add_29 : decode cX2_add 29 = .ok (.dup, 1) := by decide +kernel
theorem dX2_add_30 : decode cX2_add 30 = .ok (.getfield 15, 3) := by decide +kernel
theorem dX2_add_33 : decode cX2_add 33 = .ok (.iconst 1, 1) := by decide +kernel
theorem dX2_add_34 : decode cX2_add 34 = .ok (.iadd, 1) := by decide +kernel
theorem dX2_add_35 : decode cX2_add 35 = .ok (.putfield 15, 3) := by decide +kernel
theorem dX2_add_38 : decode cX2_add 38 = .ok (.return_, 1) := by decide +kernel
theorem dX2_say_0 : decode cX2_say 0 = .ok (.iconst 0, 1) := by decide +kernel
theorem dX2_say_1 : decode cX2_say 1 = .ok (.istore_n 2, 1) := by decide +kernel
theorem dX2_say_2 : decode cX2_say 2 = .ok (.iload_n 2, 1) := by decide +kernel
theorem dX2_say_3 : decode cX2_say 3 = .ok (.aload_n 1, 1) := by decide +kernel
theorem dX2_say_4 : decode cX2_say 4 = .ok (.invokevirtual 19, 3) := by decide +kernel
theorem dX2_say_7 : decode cX2_say 7 = .ok (.if_icmp .ge 18, 3) := by decide +kernel
theorem dX2_say_10 : decode cX2_say 10 = .ok (.aload_n 0, 1) := by decide +kernel
theorem dX2_say_11 : decode cX2_say 11 = .ok (.aload_n 1, 1) := by decide +kernel
theorem dX2_say_12 : decode cX2_say 12 = .ok (.iload_n 2, 1) := by decide +kernel
theorem dX2_say_13 : decode cX2_say 13 = .ok (.invokevirtual 24, 3) := by decide +kernel
theorem dX2_say_16 : decode cX2_say 16 = .ok (.invokevirtual 28, 3) := by decide +kernel
theorem dX2_say_19 : decode cX2_say 19 = .ok (.iinc 2 1, 3) := by decide +kernel
theorem dX2_say_22 : decode cX2_say 22 = .ok (.goto (-20), 3) := by decide +kernel
theorem dX2_say_25 : decode cX2_say 25 = .ok (.return_, 1) := by decide +kernel
theorem dX2_say__0 : decode cX2_say_ 0 = .ok (.iconst 0, 1) := by decide +kernel
theorem dX2_say__1 : decode cX2_say_ 1 = .ok (.istore_n 2, 1) := by decide +kernel
theorem dX2_say__2 : decode cX2_say_ 2 = .ok (.iload_n 2, 1) := by decide +kernel
theorem dX2_say__3 : decode cX2_say_ 3 = .ok (.aload_n 1, 1) := by decide +kernel
theorem dX2_say__4 : decode cX2_say_ 4 = .ok (.getfield 32, 3) := by decide +kernel
theorem dX2_say__7 : decode cX2_say_ 7 = .ok (.if_icmp .ge 18, 3) := by decide +kernel
theorem dX2_say__10 : decode cX2_say_ 10 = .ok (.aload_n 0, 1) := by decide +kernel
theorem dX2_say__11 : decode cX2_say_ 11 = .ok (.aload_n 1, 1) := by decide +kernel
theorem dX2_say__12 : decode cX2_say_ 12 = .ok (.iload_n 2, 1) := by decide +kernel
theorem dX2_say__13 : decode cX2_say_ 13 = .ok (.invokevirtual 35, 3) := by decide +kernel
theorem dX2_say__16 : decode cX2_say_ 16 = .ok (.invokevirtual 28, 3) := by decide +kernel
theorem dX2_say__19 : decode cX2_say_ 19 = .ok (.iinc 2 1, 3) := by decide +kernel
theorem dX2_say__22 : decode cX2_say_ 22 = .ok (.goto (-20), 3) := by decide +kernel
theorem dX2_say__25 : decode cX2_say_ 25 = .ok (.return_, 1) := by decide +kernel
theorem dX2_sayNumber_0 : decode cX2_sayNumber 0 = .ok (.aload_n 0, 1) := by decide +kernel
theorem dX2_sayNumber_1 : decode cX2_sayNumber 1 = .ok (.bipush 40, 2) := by decide +kernel
theorem dX2_sayNumber_3 : decode cX2_sayNumber 3 = .ok (.invokevirtual 28, 3) := by decide +kernel
theorem dX2_sayNumber_6 : decode cX2_sayNumber 6 = .ok (.iload_n 1, 1) := by decide +kernel
theorem dX2_sayNumber_7 : decode cX2_sayNumber 7 = .ok (.bipush 10, 2) := by decide +kernel
theorem dX2_sayNumber_9 : decode cX2_sayNumber 9 = .ok (.if_icmp .lt 15, 3) := by decide +kernel
theorem dX2_sayNumber_12 : decode cX2_sayNumber 12 = .ok (.aload_n 0, 1) := by decide +kernel
theorem dX2_sayNumber_13 : decode cX2_sayNumber 13 = .ok (.bipush 48, 2) := by decide +kernel
theorem dX2_sayNumber_15 : decode cX2_sayNumber 15 = .ok (.iload_n 1, 1) := by decide +kernel
theorem dX2_sayNumber_16 : decode cX2_sayNumber 16 = .ok (.bipush 10, 2) := by decide +kernel
theorem dX2_sayNumber_18 : decode cX2_sayNumber 18 = .ok (.idiv, 1) := by decide +kernel
theorem dX2_sayNumber_19 : decode cX2_sayNumber 19 = .ok (.iadd, 1) := by decide +kernel
theorem dX2_sayNumber_20 : decode cX2_sayNumber 20 = .ok (.i2c, 1) := by decide +kernel
theorem dX2_sayNumber_21 : decode cX2_sayNumber 21 = .ok (.invokevirtual 28, 3) := by decide +kernel
theorem dX2_sayNumber_24 : decode cX2_sayNumber 24 = .ok (.aload_n 0, 1) := by decide +kernel
theorem dX2_sayNumber_25 : decode cX2_sayNumber 25 = .ok (.bipush 48, 2) := by decide +kernel
theorem dX2_sayNumber_27 : decode cX2_sayNumber 27 = .ok (.iload_n 1, 1) := by decide +kernel
theorem dX2_sayNumber_28 : decode cX2_sayNumber 28 = .ok (.bipush 10, 2) := by decide +kernel
theorem dX2_sayNumber_30 : decode cX2_sayNumber 30 = .ok (.irem, 1) := by decide +kernel
theorem dX2_sayNumber_31 : decode cX2_sayNumber 31 = .ok (.iadd, 1) := by decide +kernel
theorem dX2_sayNumber_32 : decode cX2_sayNumber 32 = .ok (.i2c, 1) := by decide +kernel
theorem dX2_sayNumber_33 : decode cX2_sayNumber 33 = .ok (.invokevirtual 28, 3) := by decide +kernel
theorem dX2_sayNumber_36 : decode cX2_sayNumber 36 = .ok (.aload_n 0, 1) := by decide +kernel
theorem dX2_sayNumber_37 : decode cX2_sayNumber 37 = .ok (.bipush 41, 2) := by decide +kernel
theorem dX2_sayNumber_39 : decode cX2_sayNumber 39 = .ok (.invokevirtual 28, 3) := by decide +kernel
theorem dX2_sayNumber_42 : decode cX2_sayNumber 42 = .ok (.return_, 1) := by decide +kernel
theorem dX3_init_0 : decode cX3_init 0 = .ok (.aload_n 0, 1) := by decide +kernel
theorem dX3_init_1 : decode cX3_init 1 = .ok (.invokespecial 3, 3) := by decide +kernel
theorem dX3_init_4 : decode cX3_init 4 = .ok (.aload_n 0, 1) := by decide +kernel
theorem dX3_init_5 : decode cX3_init 5 = .ok (.bipush 8, 2) := by decide +kernel
theorem dX3_init_7 : decode cX3_init 7 = .ok (.newarray .int, 2) := by decide +kernel
theorem dX3_init_9 : decode cX3_init 9 = .ok (.putfield 9, 3) := by decide +kernel
theorem dX3_init_12 : decode cX3_init 12 = .ok (.aload_n 0, 1) := by decide +kernel
theorem dX3_init_13 : decode cX3_init 13 = .ok (.bipush 8, 2) := by decide +kernel
theorem dX3_init_15 : decode cX3_init 15 = .ok (.newarray .int, 2) := by decide +kernel
theorem dX3_init_17 : decode cX3_init 17 = .ok (.putfield 15, 3) := by decide +kernel
theorem dX3_init_20 : decode cX3_init 20 = .ok (.aload_n 0, 1) := by decide +kernel
theorem dX3_init_21 : decode cX3_init 21 = .ok (.bipush 8, 2) := by decide +kernel
theorem dX3_init_23 : decode cX3_init 23 = .ok (.newarray .int, 2) := by decide +kernel
theorem dX3_init_25 : decode cX3_init 25 = .ok (.putfield 18, 3) := by decide +kernel
theorem dX3_init_28 : decode cX3_init 28 = .ok (.return_, 1) := by decide +kernel
theorem dX3_add_0 : decode cX3_add 0 = .ok (.aload_n 0, 1) := by decide +kernel
theorem dX3_add_1 : decode cX3_add 1 = .ok (.getfield 21, 3) := by decide +kernel
theorem dX3_add_4 : decode cX3_add 4 = .ok (.ifCond .lt 52, 3) := by decide +kernel
theorem dX3_add_7 : decode cX3_add 7 = .ok (.aload_n 0, 1) := by decide +kernel
theorem dX3_add_8 : decode cX3_add 8 = .ok (.getfield 21, 3) := by decide +kernel
theorem dX3_add_11 : decode cX3_add 11 = .ok (.bipush 8, 2) := by decide +kernel
theorem dX3_add_13 : decode cX3_add 13 = .ok (.if_icmp .ge 43, 3) := by decide +kernel
theorem dX3_add_16 : decode cX3_add 16 = .ok (.aload_n 0, 1) := by decide +kernel
theorem dX3_add_17 : decode cX3_add 17 = .ok (.getfield 9, 3) := by decide +kernel
theorem dX3_add_20 : decode cX3_add 20 = .ok (.aload_n 0, 1) := by decide +kernel
theorem dX3_add_21 : decode cX3_add 21 = .ok (.getfield 21, 3) := by decide +kernel
theorem dX3_add_24 : decode cX3_add 24 = .ok (.iload_n 1, 1) := by decide +kernel
theorem dX3_add_25 : decode cX3_add 25 = .ok (.iastore, 1) := by decide +kernel
theorem dX3_add_26 : decode cX3_add 26 = .ok (.aload_n 0, 1) := by decide +kernel
theorem dX3_add_27 : decode cX3_add 27 = .ok (.getfield 15, 3) := by decide +kernel
theorem dX3_add_30 : decode cX3_add 30 = .ok (.aload_n 0, 1) := by decide +kernel
theorem dX3_add_31 : decode cX3_add 31 = .ok (.getfield 21, 3) := by decide +kernel
theorem dX3_add_34 : decode cX3_add 34 = .ok (.iload_n 2, 1) := by decide +kernel
theorem dX3_add_35 : decode cX3_add 35 = .ok (.iastore, 1) := by decide +kernel
theorem dX3_add_36 : decode cX3_add 36 = .ok (.aload_n 0, 1) := by decide +kernel
theorem dX3_add_37 : decode cX3_add 37 = .ok (.getfield 18, 3) := by decide +kernel
theorem dX3_add_40 : decode cX3_add 40 = .ok (.aload_n 0, 1) := by decide +kernel
theorem dX3_add_41 : decode cX3_add 41 = .ok (.getfield 21, 3) := by decide +kernel
theorem dX3_add_44 : decode cX3_add 44 = .ok (.iload_n 3, 1) := by decide +kernel
theorem dX3_add_45 : decode cX3_add 45 = .ok (.iastore, 1) := by decide +kernel
theorem dX3_add_46 : decode cX3_add 46 = .ok (.aload_n 0, 1) := by decide +kernel
theorem dX3_add_47 : decode cX3_add 47 = .ok (.dup, 1) := by decide +kernel
theorem dX3_add_48 : decode cX3_add 48 = .ok (.getfield 21, 3) := by decide +kernel
theorem dX3_add_51 : decode cX3_add 51 = .ok (.iconst 1, 1) := by decide +kernel
theorem dX3_add_52 : decode cX3_add 52 = .ok (.iadd, 1) := by decide +kernel
theorem dX3_add_53 : decode cX3_add 53 = .ok (.putfield 21, 3) := by decide +kernel
theorem dX3_add_56 : decode cX3_add 56 = .ok (.return_, 1) := by decide +kernel
theorem dX3_has_0 : decode cX3_has 0 = .ok (.iload_n 1, 1) := by decide +kernel
theorem dX3_has_1 : decode cX3_has 1 = .ok (.ifCond .lt 21, 3) := by decide +kernel
theorem dX3_has_4 : decode cX3_has 4 = .ok (.iload_n 1, 1) := by decide +kernel
theorem dX3_has_5 : decode cX3_has 5 = .ok (.aload_n 0, 1) := by decide +kernel
theorem dX3_has_6 : decode cX3_has 6 = .ok (.getfield 21, 3) := by decide +kernel
theorem dX3_has_9 : decode cX3_has 9 = .ok (.if_icmp .ge 13, 3) := by decide +kernel
theorem dX3_has_12 : decode cX3_has 12 = .ok (.iload_n 1, 1) := by decide +kernel
theorem dX3_has_13 : decode cX3_has 13 = .ok (.bipush 8, 2) := by decide +kernel
theorem dX3_has_15 : decode cX3_has 15 = .ok (.if_icmp .ge 7, 3) := by decide +kernel
theorem dX3_has_18 : decode cX3_has 18 = .ok (.iconst 1, 1) := by decide +kernel
theorem dX3_has_19 : decode cX3_has 19 = .ok (.goto 4, 3) := by decide +kernel
theorem dX3_has_22 : decode cX3_has 22 = .ok (.iconst 0, 1) := by decide +kernel
theorem dX3_has_23 : decode cX3_has 23 = .ok (.ireturn, 1) := by decide +kernel
theorem dX3_opAt_0 : decode cX3_opAt 0 = .ok (.aload_n 0, 1) := by decide +kernel
theorem dX3_opAt_1 : decode cX3_opAt 1 = .ok (.iload_n 1, 1) := by decide +kernel
theorem dX3_opAt_2 : decode cX3_opAt 2 = .ok (.invokevirtual 25, 3) := by decide +kernel
theorem dX3_opAt_5 : decode cX3_opAt 5 = .ok (.ifCond .eq 12, 3) := by decide +kernel
theorem dX3_opAt_8 : decode cX3_opAt 8 = .ok (.aload_n 0, 1) := by decide +kernel
theorem dX3_opAt_9 : decode cX3_opAt 9 = .ok (.getfield 9, 3) := by decide +kernel
theorem dX3_opAt_12 : decode cX3_opAt 12 = .ok (.iload_n 1, 1) := by decide +kernel
theorem dX3_opAt_13 : decode cX3_opAt 13 = .ok (.iaload, 1) := by decide +kernel
theorem dX3_opAt_14 : decode cX3_opAt 14 = .ok (.goto 4, 3) := by decide +kernel
theorem dX3_opAt_17 : decode cX3_opAt 17 = .ok (.iconst (-1), 1) := by decide +kernel
theorem dX3_opAt_18 : decode cX3_opAt 18 = .ok (.ireturn, 1) := by decide +kernel
theorem dX3_firstAt_0 : decode cX3_firstAt 0 = .ok (.aload_n 0, 1) := by decide +kernel
theorem dX3_firstAt_1 : decode cX3_firstAt 1 = .ok (.iload_n 1, 1) := by decide +kernel
theorem dX3_firstAt_2 : decode cX3_firstAt 2 = .ok (.invokevirtual 25, 3) := by decide +kernel
theorem dX3_firstAt_5 : decode cX3_firstAt 5 = .ok (.ifCond .eq 12, 3) := by decide +kernel
theorem dX3_firstAt_8 : decode cX3_firstAt 8 = .ok (.aload_n 0, 1) := by decide +kernel
theorem dX3_firstAt_9 : decode cX3_firstAt 9 = .ok (.getfield 15, 3) := by decide +kernel
theorem dX3_firstAt_12 : decode cX3_firstAt 12 = .ok (.iload_n 1, 1) := by decide +kernel
theorem dX3_firstAt_13 : decode cX3_firstAt 13 = .ok (.iaload, 1) := by decide +kernel
theorem dX3_firstAt_14 : decode cX3_firstAt 14 = .ok (.goto 4, 3) := by decide +kernel
theorem dX3_firstAt_17 : decode cX3_firstAt 17 = .ok (.iconst 0, 1) := by decide +kernel
theorem dX3_firstAt_18 : decode cX3_firstAt 18 = .ok (.ireturn, 1) := by decide +kernel
theorem dX3_secondAt_0 : decode cX3_secondAt 0 = .ok (.aload_n 0, 1) := by decide +kernel
theorem dX3_secondAt_1 : decode cX3_secondAt 1 = .ok (.iload_n 1, 1) := by decide +kernel
theorem dX3_secondAt_2 : decode cX3_secondAt 2 = .ok (.invokevirtual 25, 3) := by decide +kernel
theorem dX3_secondAt_5 : decode cX3_secondAt 5 = .ok (.ifCond .eq 12, 3) := by decide +kernel
theorem dX3_secondAt_8 : decode cX3_secondAt 8 = .ok (.aload_n 0, 1) := by decide +kernel
theorem dX3_secondAt_9 : decode cX3_secondAt 9 = .ok (.getfield 18, 3) := by decide +kernel
theorem dX3_secondAt_12 : decode cX3_secondAt 12 = .ok (.iload_n 1, 1) := by decide +kernel
theorem dX3_secondAt_13 : decode cX3_secondAt 13 = .ok (.iaload, 1) := by decide +kernel
theorem dX3_secondAt_14 : decode cX3_secondAt 14 = .ok (.goto 4, 3) := by decide +kernel
theorem dX3_secondAt_17 : decode cX3_secondAt 17 = .ok (.iconst 0, 1) := by decide +kernel
theorem dX3_secondAt_18 : decode cX3_secondAt 18 = .ok (.ireturn, 1) := by decide +kernel
theorem dX4_init_0 : decode cX4_init 0 = .ok (.aload_n 0, 1) := by decide +kernel
theorem dX4_init_1 : decode cX4_init 1 = .ok (.invokespecial 3, 3) := by decide +kernel
theorem dX4_init_4 : decode cX4_init 4 = .ok (.aload_n 0, 1) := by decide +kernel
theorem dX4_init_5 : decode cX4_init 5 = .ok (.bipush 12, 2) := by decide +kernel
theorem dX4_init_7 : decode cX4_init 7 = .ok (.newarray .int, 2) := by decide +kernel
theorem dX4_init_9 : decode cX4_init 9 = .ok (.putfield 9, 3) := by decide +kernel
theorem dX4_init_12 : decode cX4_init 12 = .ok (.aload_n 0, 1) := by decide +kernel
theorem dX4_init_13 : decode cX4_init 13 = .ok (.bipush 48, 2) := by decide +kernel
theorem dX4_init_15 : decode cX4_init 15 = .ok (.newarray .int, 2) := by decide +kernel
theorem dX4_init_17 : decode cX4_init 17 = .ok (.putfield 15, 3) := by decide +kernel
theorem dX4_init_20 : decode cX4_init 20 = .ok (.return_, 1) := by decide +kernel
theorem dX4_isName_0 : decode cX4_isName 0 = .ok (.iload_n 0, 1) := by decide +kernel
theorem dX4_isName_1 : decode cX4_isName 1 = .ok (.ifCond .lt 13, 3) := by decide +kernel
theorem dX4_isName_4 : decode cX4_isName 4 = .ok (.iload_n 0, 1) := by decide +kernel
theorem dX4_isName_5 : decode cX4_isName 5 = .ok (.bipush 12, 2) := by decide +kernel
theorem dX4_isName_7 : decode cX4_isName 7 = .ok (.if_icmp .ge 7, 3) := by decide +kernel
theorem dX4_isName_10 : decode cX4_isName 10 = .ok (.iconst 1, 1) := by decide +kernel
theorem dX4_isName_11 : decode cX4_isName 11 = .ok (.goto 4, 3) := by decide +kernel
theorem dX4_isName_14 : decode cX4_isName 14 = .ok (.iconst 0, 1) := by decide +kernel
theorem dX4_isName_15 : decode cX4_isName 15 = .ok (.ireturn, 1) := by decide +kernel
theorem dX4_lengthOf_0 : decode cX4_lengthOf 0 = .ok (.iload_n 1, 1) := by decide +kernel
theorem dX4_lengthOf_1 : decode cX4_lengthOf 1 = .ok (.invokestatic 18, 3) := by decide +kernel
theorem dX4_lengthOf_4 : decode cX4_lengthOf 4 = .ok (.ifCond .eq 12, 3) := by decide +kernel
theorem dX4_lengthOf_7 : decode cX4_lengthOf 7 = .ok (.aload_n 0, 1) := by decide +kernel
theorem dX4_lengthOf_8 : decode cX4_lengthOf 8 = .ok (.getfield 9, 3) := by decide +kernel
theorem dX4_lengthOf_11 : decode cX4_lengthOf 11 = .ok (.iload_n 1, 1) := by decide +kernel
theorem dX4_lengthOf_12 : decode cX4_lengthOf 12 = .ok (.iaload, 1) := by decide +kernel
theorem dX4_lengthOf_13 : decode cX4_lengthOf 13 = .ok (.goto 4, 3) := by decide +kernel
theorem dX4_lengthOf_16 : decode cX4_lengthOf 16 = .ok (.iconst 0, 1) := by decide +kernel
theorem dX4_lengthOf_17 : decode cX4_lengthOf 17 = .ok (.ireturn, 1) := by decide +kernel
theorem dX4_has_0 : decode cX4_has 0 = .ok (.iload_n 1, 1) := by decide +kernel
theorem dX4_has_1 : decode cX4_has 1 = .ok (.invokestatic 18, 3) := by decide +kernel
theorem dX4_has_4 : decode cX4_has 4 = .ok (.ifCond .eq 26, 3) := by decide +kernel
theorem dX4_has_7 : decode cX4_has 7 = .ok (.iload_n 2, 1) := by decide +kernel
theorem dX4_has_8 : decode cX4_has 8 = .ok (.ifCond .lt 22, 3) := by decide +kernel
theorem dX4_has_11 : decode cX4_has 11 = .ok (.iload_n 2, 1) := by decide +kernel
theorem dX4_has_12 : decode cX4_has 12 = .ok (.aload_n 0, 1) := by decide +kernel
theorem dX4_has_13 : decode cX4_has 13 = .ok (.getfield 9, 3) := by decide +kernel
theorem dX4_has_16 : decode cX4_has 16 = .ok (.iload_n 1, 1) := by decide +kernel
theorem dX4_has_17 : decode cX4_has 17 = .ok (.iaload, 1) := by decide +kernel
theorem dX4_has_18 : decode cX4_has 18 = .ok (.if_icmp .ge 12, 3) := by decide +kernel
theorem dX4_has_21 : decode cX4_has 21 = .ok (.iload_n 2, 1) := by decide +kernel
theorem dX4_has_22 : decode cX4_has 22 = .ok (.iconst 4, 1) := by decide +kernel
theorem dX4_has_23 : decode cX4_has 23 = .ok (.if_icmp .ge 7, 3) := by decide +kernel
theorem dX4_has_26 : decode cX4_has 26 = .ok (.iconst 1, 1) := by decide +kernel
theorem dX4_has_27 : decode cX4_has 27 = .ok (.goto 4, 3) := by decide +kernel
theorem dX4_has_30 : decode cX4_has 30 = .ok (.iconst 0, 1) := by decide +kernel
theorem dX4_has_31 : decode cX4_has 31 = .ok (.ireturn, 1) := by decide +kernel
theorem dX4_at_0 : decode cX4_at 0 = .ok (.aload_n 0, 1) := by decide +kernel
theorem dX4_at_1 : decode cX4_at 1 = .ok (.iload_n 1, 1) := by decide +kernel
theorem dX4_at_2 : decode cX4_at 2 = .ok (.iload_n 2, 1) := by decide +kernel
theorem dX4_at_3 : decode cX4_at 3 = .ok (.invokevirtual 22, 3) := by decide +kernel
theorem dX4_at_6 : decode cX4_at 6 = .ok (.ifCond .eq 16, 3) := by decide +kernel
theorem dX4_at_9 : decode cX4_at 9 = .ok (.aload_n 0, 1) := by decide +kernel
theorem dX4_at_10 : decode cX4_at 10 = .ok (.getfield 15, 3) := by decide +kernel
theorem dX4_at_13 : decode cX4_at 13 = .ok (.iload_n 1, 1) := by decide +kernel
theorem dX4_at_14 : decode cX4_at 14 = .ok (.iconst 4, 1) := by decide +kernel
theorem dX4_at_15 : decode cX4_at 15 = .ok (.imul, 1) := by decide +kernel
theorem dX4_at_16 : decode cX4_at 16 = .ok (.iload_n 2, 1) := by decide +kernel
theorem dX4_at_17 : decode cX4_at 17 = .ok (.iadd, 1) := by decide +kernel
theorem dX4_at_18 : decode cX4_at 18 = .ok (.iaload, 1) := by decide +kernel
theorem dX4_at_19 : decode cX4_at 19 = .ok (.goto 4, 3) := by decide +kernel
theorem dX4_at_22 : decode cX4_at 22 = .ok (.iconst 0, 1) := by decide +kernel
theorem dX4_at_23 : decode cX4_at 23 = .ok (.ireturn, 1) := by decide +kernel
theorem dX4_put_0 : decode cX4_put 0 = .ok (.aload_n 0, 1) := by decide +kernel
theorem dX4_put_1 : decode cX4_put 1 = .ok (.iload_n 1, 1) := by decide +kernel
theorem dX4_put_2 : decode cX4_put 2 = .ok (.iload_n 2, 1) := by decide +kernel
theorem dX4_put_3 : decode cX4_put 3 = .ok (.invokevirtual 22, 3) := by decide +kernel
theorem dX4_put_6 : decode cX4_put 6 = .ok (.ifCond .eq 14, 3) := by decide +kernel
theorem dX4_put_9 : decode cX4_put 9 = .ok (.aload_n 0, 1) := by decide +kernel
theorem dX4_put_10 : decode cX4_put 10 = .ok (.getfield 15, 3) := by decide +kernel
theorem dX4_put_13 : decode cX4_put 13 = .ok (.iload_n 1, 1) := by decide +kernel
theorem dX4_put_14 : decode cX4_put 14 = .ok (.iconst 4, 1) := by decide +kernel
theorem dX4_put_15 : decode cX4_put 15 = .ok (.imul, 1) := by decide +kernel
theorem dX4_put_16 : decode cX4_put 16 = .ok (.iload_n 2, 1) := by decide +kernel
theorem dX4_put_17 : decode cX4_put 17 = .ok (.iadd, 1) := by decide +kernel
theorem dX4_put_18 : decode cX4_put 18 = .ok (.iload_n 3, 1) := by decide +kernel
theorem dX4_put_19 : decode cX4_put 19 = .ok (.iastore, 1) := by decide +kernel
theorem dX4_put_20 : decode cX4_put 20 = .ok (.return_, 1) := by decide +kernel
theorem dX4_add_0 : decode cX4_add 0 = .ok (.iload_n 1, 1) := by decide +kernel
theorem dX4_add_1 : decode cX4_add 1 = .ok (.invokestatic 18, 3) := by decide +kernel
theorem dX4_add_4 : decode cX4_add 4 = .ok (.ifCond .eq 37, 3) := by decide +kernel
theorem dX4_add_7 : decode cX4_add 7 = .ok (.aload_n 0, 1) := by decide +kernel
theorem dX4_add_8 : decode cX4_add 8 = .ok (.getfield 9, 3) := by decide +kernel
theorem dX4_add_11 : decode cX4_add 11 = .ok (.iload_n 1, 1) := by decide +kernel
theorem dX4_add_12 : decode cX4_add 12 = .ok (.iaload, 1) := by decide +kernel
theorem dX4_add_13 : decode cX4_add 13 = .ok (.iconst 4, 1) := by decide +kernel
theorem dX4_add_14 : decode cX4_add 14 = .ok (.if_icmp .ge 27, 3) := by decide +kernel
theorem dX4_add_17 : decode cX4_add 17 = .ok (.aload_n 0, 1) := by decide +kernel
theorem dX4_add_18 : decode cX4_add 18 = .ok (.getfield 9, 3) := by decide +kernel
theorem dX4_add_21 : decode cX4_add 21 = .ok (.iload_n 1, 1) := by decide +kernel
theorem dX4_add_22 : decode cX4_add 22 = .ok (.dup2, 1) := by decide +kernel
theorem dX4_add_23 : decode cX4_add 23 = .ok (.iaload, 1) := by decide +kernel
theorem dX4_add_24 : decode cX4_add 24 = .ok (.iconst 1, 1) := by decide +kernel
theorem dX4_add_25 : decode cX4_add 25 = .ok (.iadd, 1) := by decide +kernel
theorem dX4_add_26 : decode cX4_add 26 = .ok (.iastore, 1) := by decide +kernel
theorem dX4_add_27 : decode cX4_add 27 = .ok (.aload_n 0, 1) := by decide +kernel
theorem dX4_add_28 : decode cX4_add 28 = .ok (.iload_n 1, 1) := by decide +kernel
theorem dX4_add_29 : decode cX4_add 29 = .ok (.aload_n 0, 1) := by decide +kernel
theorem dX4_add_30 : decode cX4_add 30 = .ok (.getfield 9, 3) := by decide +kernel
theorem dX4_add_33 : decode cX4_add 33 = .ok (.iload_n 1, 1) := by decide +kernel
theorem dX4_add_34 : decode cX4_add 34 = .ok (.iaload, 1) := by decide +kernel
theorem dX4_add_35 : decode cX4_add 35 = .ok (.iconst 1, 1) := by decide +kernel
theorem dX4_add_36 : decode cX4_add 36 = .ok (.isub, 1) := by decide +kernel
theorem dX4_add_37 : decode cX4_add 37 = .ok (.iload_n 2, 1) := by decide +kernel
theorem dX4_add_38 : decode cX4_add 38 = .ok (.invokevirtual 26, 3) := by decide +kernel
theorem dX4_add_41 : decode cX4_add 41 = .ok (.return_, 1) := by decide +kernel
theorem dX4_clearAll_0 : decode cX4_clearAll 0 = .ok (.aload_n 0, 1) := by decide +kernel
theorem dX4_clearAll_1 : decode cX4_clearAll 1 = .ok (.getfield 9, 3) := by decide +kernel
theorem dX4_clearAll_4 : decode cX4_clearAll 4 = .ok (.iconst 0, 1) := by decide +kernel
theorem dX4_clearAll_5 : decode cX4_clearAll 5 = .ok (.invokestatic 30, 3) := by decide +kernel
theorem dX4_clearAll_8 : decode cX4_clearAll 8 = .ok (.return_, 1) := by decide +kernel
theorem dX4_inherit_0 : decode cX4_inherit 0 = .ok (.iconst 0, 1) := by decide +kernel
theorem dX4_inherit_1 : decode cX4_inherit 1 = .ok (.istore_n 2, 1) := by decide +kernel
theorem dX4_inherit_2 : decode cX4_inherit 2 = .ok (.iload_n 2, 1) := by decide +kernel
theorem dX4_inherit_3 : decode cX4_inherit 3 = .ok (.bipush 12, 2) := by decide +kernel
theorem dX4_inherit_5 : decode cX4_inherit 5 = .ok (.if_icmp .ge 28, 3) := by decide +kernel
theorem dX4_inherit_8 : decode cX4_inherit 8 = .ok (.iload_n 2, 1) := by decide +kernel
theorem dX4_inherit_9 : decode cX4_inherit 9 = .ok (.ifCond .eq 12, 3) := by decide +kernel
theorem dX4_inherit_12 : decode cX4_inherit 12 = .ok (.aload_n 0, 1) := by decide +kernel
theorem dX4_inherit_13 : decode cX4_inherit 13 = .ok (.getfield 9, 3) := by decide +kernel
theorem dX4_inherit_16 : decode cX4_inherit 16 = .ok (.iload_n 2, 1) := by decide +kernel
theorem dX4_inherit_17 : decode cX4_inherit 17 = .ok (.iaload, 1) := by decide +kernel
theorem dX4_inherit_18 : decode cX4_inherit 18 = .ok (.ifCond .ne 9, 3) := by decide +kernel
theorem dX4_inherit_21 : decode cX4_inherit 21 = .ok (.aload_n 0, 1) := by decide +kernel
theorem dX4_inherit_22 : decode cX4_inherit 22 = .ok (.aload_n 1, 1) := by decide +kernel
theorem dX4_inherit_23 : decode cX4_inherit 23 = .ok (.iload_n 2, 1) := by decide +kernel
theorem dX4_inherit_24 : decode cX4_inherit 24 = .ok (.invokevirtual 36, 3) := by decide +kernel
theorem dX4_inherit_27 : decode cX4_inherit 27 = .ok (.iinc 2 1, 3) := by decide +kernel
theorem dX4_inherit_30 : decode cX4_inherit 30 = .ok (.goto (-28), 3) := by decide +kernel
theorem dX4_inherit_33 : decode cX4_inherit 33 = .ok (.return_, 1) := by decide +kernel
theorem dX4_addRow_0 : decode cX4_addRow 0 = .ok (.iconst 0, 1) := by decide +kernel
theorem dX4_addRow_1 : decode cX4_addRow 1 = .ok (.istore_n 3, 1) := by decide +kernel
theorem dX4_addRow_2 : decode cX4_addRow 2 = .ok (.iload_n 3, 1) := by decide +kernel
theorem dX4_addRow_3 : decode cX4_addRow 3 = .ok (.aload_n 1, 1) := by decide +kernel
theorem dX4_addRow_4 : decode cX4_addRow 4 = .ok (.iload_n 2, 1) := by decide +kernel
theorem dX4_addRow_5 : decode cX4_addRow 5 = .ok (.invokevirtual 40, 3) := by decide +kernel
theorem dX4_addRow_8 : decode cX4_addRow 8 = .ok (.if_icmp .ge 20, 3) := by decide +kernel
theorem dX4_addRow_11 : decode cX4_addRow 11 = .ok (.aload_n 0, 1) := by decide +kernel
theorem dX4_addRow_12 : decode cX4_addRow 12 = .ok (.iload_n 2, 1) := by decide +kernel
theorem dX4_addRow_13 : decode cX4_addRow 13 = .ok (.aload_n 1, 1) := by decide +kernel
theorem dX4_addRow_14 : decode cX4_addRow 14 = .ok (.iload_n 2, 1) := by decide +kernel
theorem dX4_addRow_15 : decode cX4_addRow 15 = .ok (.iload_n 3, 1) := by decide +kernel
theorem dX4_addRow_16 : decode cX4_addRow 16 = .ok (.invokevirtual 44, 3) := by decide +kernel
theorem dX4_addRow_19 : decode cX4_addRow 19 = .ok (.invokevirtual 48, 3) := by decide +kernel
theorem dX4_addRow_22 : decode cX4_addRow 22 = .ok (.iinc 3 1, 3) := by decide +kernel
theorem dX4_addRow_25 : decode cX4_addRow 25 = .ok (.goto (-23), 3) := by decide +kernel
theorem dX4_addRow_28 : decode cX4_addRow 28 = .ok (.return_, 1) := by decide +kernel
theorem dX5_init_0 : decode cX5_init 0 = .ok (.aload_n 0, 1) := by decide +kernel
theorem dX5_init_1 : decode cX5_init 1 = .ok (.invokespecial 3, 3) := by decide +kernel
theorem dX5_init_4 : decode cX5_init 4 = .ok (.aload_n 0, 1) := by decide +kernel
theorem dX5_init_5 : decode cX5_init 5 = .ok (.bipush 20, 2) := by decide +kernel
theorem dX5_init_7 : decode cX5_init 7 = .ok (.newarray .byte, 2) := by decide +kernel
theorem dX5_init_9 : decode cX5_init 9 = .ok (.putfield 9, 3) := by decide +kernel
theorem dX5_init_12 : decode cX5_init 12 = .ok (.return_, 1) := by decide +kernel
theorem dX5_add_0 : decode cX5_add 0 = .ok (.aload_n 0, 1) := by decide +kernel
theorem dX5_add_1 : decode cX5_add 1 = .ok (.getfield 15, 3) := by decide +kernel
theorem dX5_add_4 : decode cX5_add 4 = .ok (.ifCond .lt 32, 3) := by decide +kernel
theorem dX5_add_7 : decode cX5_add 7 = .ok (.aload_n 0, 1) := by decide +kernel
theorem dX5_add_8 : decode cX5_add 8 = .ok (.getfield 15, 3) := by decide +kernel
theorem dX5_add_11 : decode cX5_add 11 = .ok (.bipush 20, 2) := by decide +kernel
theorem dX5_add_13 : decode cX5_add 13 = .ok (.if_icmp .ge 23, 3) := by decide +kernel
theorem dX5_add_16 : decode cX5_add 16 = .ok (.aload_n 0, 1) := by decide +kernel
theorem dX5_add_17 : decode cX5_add 17 = .ok (.getfield 9, 3) := by decide +kernel
theorem dX5_add_20 : decode cX5_add 20 = .ok (.aload_n 0, 1) := by decide +kernel
theorem dX5_add_21 : decode cX5_add 21 = .ok (.getfield 15, 3) := by decide +kernel
theorem dX5_add_24 : decode cX5_add 24 = .ok (.iload_n 1, 1) := by decide +kernel
theorem dX5_add_25 : decode cX5_add 25 = .ok (.bastore, 1) := by decide +kernel
theorem dX5_add_26 : decode cX5_add 26 = .ok (.aload_n 0, 1) := by decide +kernel
theorem dX5_add_27 : decode cX5_add 27 = .ok (.dup, 1) := by decide +kernel
theorem dX5_add_28 : decode cX5_add 28 = .ok (.getfield 15, 3) := by decide +kernel
theorem dX5_add_31 : decode cX5_add 31 = .ok (.iconst 1, 1) := by decide +kernel
theorem dX5_add_32 : decode cX5_add 32 = .ok (.iadd, 1) := by decide +kernel
theorem dX5_add_33 : decode cX5_add 33 = .ok (.putfield 15, 3) := by decide +kernel
theorem dX5_add_36 : decode cX5_add 36 = .ok (.return_, 1) := by decide +kernel
theorem dX5_at_0 : decode cX5_at 0 = .ok (.iload_n 1, 1) := by decide +kernel
theorem dX5_at_1 : decode cX5_at 1 = .ok (.ifCond .lt 27, 3) := by decide +kernel
theorem dX5_at_4 : decode cX5_at 4 = .ok (.iload_n 1, 1) := by decide +kernel
theorem dX5_at_5 : decode cX5_at 5 = .ok (.aload_n 0, 1) := by decide +kernel
theorem dX5_at_6 : decode cX5_at 6 = .ok (.getfield 15, 3) := by decide +kernel
theorem dX5_at_9 : decode cX5_at 9 = .ok (.if_icmp .ge 19, 3) := by decide +kernel
theorem dX5_at_12 : decode cX5_at 12 = .ok (.iload_n 1, 1) := by decide +kernel
theorem dX5_at_13 : decode cX5_at 13 = .ok (.bipush 20, 2) := by decide +kernel
theorem dX5_at_15 : decode cX5_at 15 = .ok (.if_icmp .ge 13, 3) := by decide +kernel
theorem dX5_at_18 : decode cX5_at 18 = .ok (.aload_n 0, 1) := by decide +kernel
theorem dX5_at_19 : decode cX5_at 19 = .ok (.getfield 9, 3) := by decide +kernel
theorem dX5_at_22 : decode cX5_at 22 = .ok (.iload_n 1, 1) := by decide +kernel
theorem dX5_at_23 : decode cX5_at 23 = .ok (.baload, 1) := by decide +kernel
theorem dX5_at_24 : decode cX5_at 24 = .ok (.i2c, 1) := by decide +kernel
theorem dX5_at_25 : decode cX5_at 25 = .ok (.goto 5, 3) := by decide +kernel
theorem dX5_at_28 : decode cX5_at 28 = .ok (.bipush 32, 2) := by decide +kernel
theorem dX5_at_30 : decode cX5_at 30 = .ok (.ireturn, 1) := by decide +kernel
theorem dX5_beginsWithVowel_0 : decode cX5_beginsWithVowel 0 = .ok (.aload_n 0, 1) := by decide +kernel
theorem dX5_beginsWithVowel_1 : decode cX5_beginsWithVowel 1 = .ok (.getfield 15, 3) := by decide +kernel
theorem dX5_beginsWithVowel_4 : decode cX5_beginsWithVowel 4 = .ok (.ifCond .le 20, 3) := by decide +kernel
theorem dX5_beginsWithVowel_7 : decode cX5_beginsWithVowel 7 = .ok (.ldc 19, 2) := by decide +kernel
theorem dX5_beginsWithVowel_9 : decode cX5_beginsWithVowel 9 = .ok (.aload_n 0, 1) := by decide +kernel
theorem dX5_beginsWithVowel_10 : decode cX5_beginsWithVowel 10 = .ok (.iconst 0, 1) := by decide +kernel
theorem dX5_beginsWithVowel_11 : decode cX5_beginsWithVowel 11 = .ok (.invokevirtual 21, 3) := by decide +kernel
theorem dX5_beginsWithVowel_14 : decode cX5_beginsWithVowel 14 = .ok (.invokevirtual 25, 3) := by decide +kernel
theorem dX5_beginsWithVowel_17 : decode cX5_beginsWithVowel 17 = .ok (.ifCond .lt 7, 3) := by decide +kernel
theorem dX5_beginsWithVowel_20 : decode cX5_beginsWithVowel 20 = .ok (.iconst 1, 1) := by decide +kernel
theorem dX5_beginsWithVowel_21 : decode cX5_beginsWithVowel 21 = .ok (.goto 4, 3) := by decide +kernel
theorem dX5_beginsWithVowel_24 : decode cX5_beginsWithVowel 24 = .ok (.iconst 0, 1) := by decide +kernel
theorem dX5_beginsWithVowel_25 : decode cX5_beginsWithVowel 25 = .ok (.ireturn, 1) := by decide +kernel
theorem dX6_init_0 : decode cX6_init 0 = .ok (.aload_n 0, 1) := by decide +kernel
theorem dX6_init_1 : decode cX6_init 1 = .ok (.invokespecial 1, 3) := by decide +kernel
theorem dX6_init_4 : decode cX6_init 4 = .ok (.aload_n 0, 1) := by decide +kernel
theorem dX6_init_5 : decode cX6_init 5 = .ok (.new 7, 3) := by decide +kernel
theorem dX6_init_8 : decode cX6_init 8 = .ok (.dup, 1) := by decide +kernel
theorem dX6_init_9 : decode cX6_init 9 = .ok (.invokespecial 9, 3) := by decide +kernel
theorem dX6_init_12 : decode cX6_init 12 = .ok (.putfield 10, 3) := by decide +kernel
theorem dX6_init_15 : decode cX6_init 15 = .ok (.aload_n 0, 1) := by decide +kernel
theorem dX6_init_16 : decode cX6_init 16 = .ok (.iload_n 1, 1) := by decide +kernel
theorem dX6_init_17 : decode cX6_init 17 = .ok (.putfield 16, 3) := by decide +kernel
theorem dX6_init_20 : decode cX6_init 20 = .ok (.aload_n 0, 1) := by decide +kernel
theorem dX6_init_21 : decode cX6_init 21 = .ok (.aload_n 2, 1) := by decide +kernel
theorem dX6_init_22 : decode cX6_init 22 = .ok (.putfield 20, 3) := by decide +kernel
theorem dX6_init_25 : decode cX6_init 25 = .ok (.aload_n 0, 1) := by decide +kernel
theorem dX6_init_26 : decode cX6_init 26 = .ok (.iload_n 3, 1) := by decide +kernel
theorem dX6_init_27 : decode cX6_init 27 = .ok (.putfield 24, 3) := by decide +kernel
theorem dX6_init_30 : decode cX6_init 30 = .ok (.return_, 1) := by decide +kernel
theorem dX7_init_0 : decode cX7_init 0 = .ok (.aload_n 0, 1) := by decide +kernel
theorem dX7_init_1 : decode cX7_init 1 = .ok (.invokespecial 3, 3) := by decide +kernel
theorem dX7_init_4 : decode cX7_init 4 = .ok (.aload_n 0, 1) := by decide +kernel
theorem dX7_init_5 : decode cX7_init 5 = .ok (.bipush 41, 2) := by decide +kernel
theorem dX7_init_7 : decode cX7_init 7 = .ok (.newarray .int, 2) := by decide +kernel
theorem dX7_init_9 : decode cX7_init 9 = .ok (.putfield 9, 3) := by decide +kernel
theorem dX7_init_12 : decode cX7_init 12 = .ok (.aload_n 0, 1) := by decide +kernel
theorem dX7_init_13 : decode cX7_init 13 = .ok (.bipush 41, 2) := by decide +kernel
theorem dX7_init_15 : decode cX7_init 15 = .ok (.newarray .int, 2) := by decide +kernel
theorem dX7_init_17 : decode cX7_init 17 = .ok (.putfield 15, 3) := by decide +kernel
theorem dX7_init_20 : decode cX7_init 20 = .ok (.aload_n 0, 1) := by decide +kernel
theorem dX7_init_21 : decode cX7_init 21 = .ok (.bipush 41, 2) := by decide +kernel
theorem dX7_init_23 : decode cX7_init 23 = .ok (.newarray .int, 2) := by decide +kernel
theorem dX7_init_25 : decode cX7_init 25 = .ok (.putfield 18, 3) := by decide +kernel
theorem dX7_init_28 : decode cX7_init 28 = .ok (.return_, 1) := by decide +kernel
theorem dX7_holds_0 : decode cX7_holds 0 = .ok (.iload_n 0, 1) := by decide +kernel
theorem dX7_holds_1 : decode cX7_holds 1 = .ok (.iconst 1, 1) := by decide +kernel
theorem dX7_holds_2 : decode cX7_holds 2 = .ok (.if_icmp .lt 13, 3) := by decide +kernel
theorem dX7_holds_5 : decode cX7_holds 5 = .ok (.iload_n 0, 1) := by decide +kernel
theorem dX7_holds_6 : decode cX7_holds 6 = .ok (.bipush 40, 2) := by decide +kernel
theorem dX7_holds_8 : decode cX7_holds 8 = .ok (.if_icmp .gt 7, 3) := by decide +kernel
theorem dX7_holds_11 : decode cX7_holds 11 = .ok (.iconst 1, 1) := by decide +kernel
theorem dX7_holds_12 : decode cX7_holds 12 = .ok (.goto 4, 3) := by decide +kernel
theorem dX7_holds_15 : decode cX7_holds 15 = .ok (.iconst 0, 1) := by decide +kernel
theorem dX7_holds_16 : decode cX7_holds 16 = .ok (.ireturn, 1) := by decide +kernel
theorem dX7_parentOf_0 : decode cX7_parentOf 0 = .ok (.iload_n 1, 1) := by decide +kernel
theorem dX7_parentOf_1 : decode cX7_parentOf 1 = .ok (.invokestatic 21, 3) := by decide +kernel
theorem dX7_parentOf_4 : decode cX7_parentOf 4 = .ok (.ifCond .eq 12, 3) := by decide +kernel
theorem dX7_parentOf_7 : decode cX7_parentOf 7 = .ok (.aload_n 0, 1) := by decide +kernel
theorem dX7_parentOf_8 : decode cX7_parentOf 8 = .ok (.getfield 9, 3) := by decide +kernel
theorem dX7_parentOf_11 : decode cX7_parentOf 11 = .ok (.iload_n 1, 1) := by decide +kernel
theorem dX7_parentOf_12 : decode cX7_parentOf 12 = .ok (.iaload, 1) := by decide +kernel
theorem dX7_parentOf_13 : decode cX7_parentOf 13 = .ok (.goto 4, 3) := by decide +kernel
theorem dX7_parentOf_16 : decode cX7_parentOf 16 = .ok (.iconst 0, 1) := by decide +kernel
theorem dX7_parentOf_17 : decode cX7_parentOf 17 = .ok (.ireturn, 1) := by decide +kernel
theorem dX7_childOf_0 : decode cX7_childOf 0 = .ok (.iload_n 1, 1) := by decide +kernel
theorem dX7_childOf_1 : decode cX7_childOf 1 = .ok (.invokestatic 21, 3) := by decide +kernel
theorem dX7_childOf_4 : decode cX7_childOf 4 = .ok (.ifCond .eq 12, 3) := by decide +kernel
theorem dX7_childOf_7 : decode cX7_childOf 7 = .ok (.aload_n 0, 1) := by decide +kernel
theorem dX7_childOf_8 : decode cX7_childOf 8 = .ok (.getfield 15, 3) := by decide +kernel
theorem dX7_childOf_11 : decode cX7_childOf 11 = .ok (.iload_n 1, 1) := by decide +kernel
theorem dX7_childOf_12 : decode cX7_childOf 12 = .ok (.iaload, 1) := by decide +kernel
theorem dX7_childOf_13 : decode cX7_childOf 13 = .ok (.goto 4, 3) := by decide +kernel
theorem dX7_childOf_16 : decode cX7_childOf 16 = .ok (.iconst 0, 1) := by decide +kernel
theorem dX7_childOf_17 : decode cX7_childOf 17 = .ok (.ireturn, 1) := by decide +kernel
theorem dX7_siblingOf_0 : decode cX7_siblingOf 0 = .ok (.iload_n 1, 1) := by decide +kernel
theorem dX7_siblingOf_1 : decode cX7_siblingOf 1 = .ok (.invokestatic 21, 3) := by decide +kernel
theorem dX7_siblingOf_4 : decode cX7_siblingOf 4 = .ok (.ifCond .eq 12, 3) := by decide +kernel
theorem dX7_siblingOf_7 : decode cX7_siblingOf 7 = .ok (.aload_n 0, 1) := by decide +kernel
theorem dX7_siblingOf_8 : decode cX7_siblingOf 8 = .ok (.getfield 18, 3) := by decide +kernel
theorem dX7_siblingOf_11 : decode cX7_siblingOf 11 = .ok (.iload_n 1, 1) := by decide +kernel
theorem dX7_siblingOf_12 : decode cX7_siblingOf 12 = .ok (.iaload, 1) := by decide +kernel
theorem dX7_siblingOf_13 : decode cX7_siblingOf 13 = .ok (.goto 4, 3) := by decide +kernel
theorem dX7_siblingOf_16 : decode cX7_siblingOf 16 = .ok (.iconst 0, 1) := by decide +kernel
theorem dX7_siblingOf_17 : decode cX7_siblingOf 17 = .ok (.ireturn, 1) := by decide +kernel
theorem dX7_childrenOf_0 : decode cX7_childrenOf 0 = .ok (.iconst 0, 1) := by decide +kernel
theorem dX7_childrenOf_1 : decode cX7_childrenOf 1 = .ok (.istore_n 2, 1) := by decide +kernel
theorem dX7_childrenOf_2 : decode cX7_childrenOf 2 = .ok (.aload_n 0, 1) := by decide +kernel
theorem dX7_childrenOf_3 : decode cX7_childrenOf 3 = .ok (.iload_n 1, 1) := by decide +kernel
theorem dX7_childrenOf_4 : decode cX7_childrenOf 4 = .ok (.invokevirtual 25, 3) := by decide +kernel
theorem dX7_childrenOf_7 : decode cX7_childrenOf 7 = .ok (.istore_n 3, 1) := by decide +kernel
theorem dX7_childrenOf_8 : decode cX7_childrenOf 8 = .ok (.iload_n 3, 1) := by decide +kernel
theorem dX7_childrenOf_9 : decode cX7_childrenOf 9 = .ok (.ifCond .eq 21, 3) := by decide +kernel
theorem dX7_childrenOf_12 : decode cX7_childrenOf 12 = .ok (.iload_n 2, 1) := by decide +kernel
theorem dX7_childrenOf_13 : decode cX7_childrenOf 13 = .ok (.bipush 40, 2) := by decide +kernel
theorem dX7_childrenOf_15 : decode cX7_childrenOf 15 = .ok (.if_icmp .ge 15, 3) := by decide +kernel
theorem dX7_childrenOf_18 : decode cX7_childrenOf 18 = .ok (.iinc 2 1, 3) := by decide +kernel
theorem dX7_childrenOf_21 : decode cX7_childrenOf 21 = .ok (.aload_n 0, 1) := by decide +kernel
theorem dX7_childrenOf_22 : decode cX7_childrenOf 22 = .ok (.iload_n 3, 1) := by decide +kernel
theorem dX7_childrenOf_23 : decode cX7_childrenOf 23 = .ok (.invokevirtual 29, 3) := by decide +kernel
theorem dX7_childrenOf_26 : decode cX7_childrenOf 26 = .ok (.istore_n 3, 1) := by decide +kernel
theorem dX7_childrenOf_27 : decode cX7_childrenOf 27 = .ok (.goto (-19), 3) := by decide +kernel
theorem dX7_childrenOf_30 : decode cX7_childrenOf 30 = .ok (.iload_n 2, 1) := by decide +kernel
theorem dX7_childrenOf_31 : decode cX7_childrenOf 31 = .ok (.ireturn, 1) := by decide +kernel
theorem dX7_isInOrAt_0 : decode cX7_isInOrAt 0 = .ok (.iload_n 1, 1) := by decide +kernel
theorem dX7_isInOrAt_1 : decode cX7_isInOrAt 1 = .ok (.istore_n 3, 1) := by decide +kernel
theorem dX7_isInOrAt_2 : decode cX7_isInOrAt 2 = .ok (.iconst 0, 1) := by decide +kernel
theorem dX7_isInOrAt_3 : decode cX7_isInOrAt 3 = .ok (.istore 4, 2) := by decide +kernel
theorem dX7_isInOrAt_5 : decode cX7_isInOrAt 5 = .ok (.iload_n 3, 1) := by decide +kernel
theorem dX7_isInOrAt_6 : decode cX7_isInOrAt 6 = .ok (.ifCond .eq 29, 3) := by decide +kernel
theorem dX7_isInOrAt_9 : decode cX7_isInOrAt 9 = .ok (.iload 4, 2) := by decide +kernel
theorem dX7_isInOrAt_11 : decode cX7_isInOrAt 11 = .ok (.bipush 40, 2) := by decide +kernel
theorem dX7_isInOrAt_13 : decode cX7_isInOrAt 13 = .ok (.if_icmp .gt 22, 3) := by decide +kernel
theorem dX7_isInOrAt_16 : decode cX7_isInOrAt 16 = .ok (.iload_n 3, 1) := by decide +kernel
theorem dX7_isInOrAt_17 : decode cX7_isInOrAt 17 = .ok (.iload_n 2, 1) := by decide +kernel
theorem dX7_isInOrAt_18 : decode cX7_isInOrAt 18 = .ok (.if_icmp .ne 5, 3) := by decide +kernel
theorem dX7_isInOrAt_21 : decode cX7_isInOrAt 21 = .ok (.iconst 1, 1) := by decide +kernel
theorem dX7_isInOrAt_22 : decode cX7_isInOrAt 22 = .ok (.ireturn, 1) := by decide +kernel
theorem dX7_isInOrAt_23 : decode cX7_isInOrAt 23 = .ok (.aload_n 0, 1) := by decide +kernel
theorem dX7_isInOrAt_24 : decode cX7_isInOrAt 24 = .ok (.iload_n 3, 1) := by decide +kernel
theorem dX7_isInOrAt_25 : decode cX7_isInOrAt 25 = .ok (.invokevirtual 32, 3) := by decide +kernel
theorem dX7_isInOrAt_28 : decode cX7_isInOrAt 28 = .ok (.istore_n 3, 1) := by decide +kernel
theorem dX7_isInOrAt_29 : decode cX7_isInOrAt 29 = .ok (.iinc 4 1, 3) := by decide +kernel
theorem dX7_isInOrAt_32 : decode cX7_isInOrAt 32 = .ok (.goto (-27), 3) := by decide +kernel
theorem dX7_isInOrAt_35 : decode cX7_isInOrAt 35 = .ok (.iconst 0, 1) := by decide +kernel
theorem dX7_isInOrAt_36 : decode cX7_isInOrAt 36 = .ok (.ireturn, 1) := by decide +kernel
theorem dX7_put_0 : decode cX7_put 0 = .ok (.iload_n 1, 1) := by decide +kernel
theorem dX7_put_1 : decode cX7_put 1 = .ok (.invokestatic 21, 3) := by decide +kernel
theorem dX7_put_4 : decode cX7_put 4 = .ok (.ifCond .eq 36, 3) := by decide +kernel
theorem dX7_put_7 : decode cX7_put 7 = .ok (.iload_n 2, 1) := by decide +kernel
theorem dX7_put_8 : decode cX7_put 8 = .ok (.invokestatic 21, 3) := by decide +kernel
theorem dX7_put_11 : decode cX7_put 11 = .ok (.ifCond .eq 29, 3) := by decide +kernel
theorem dX7_put_14 : decode cX7_put 14 = .ok (.aload_n 0, 1) := by decide +kernel
theorem dX7_put_15 : decode cX7_put 15 = .ok (.getfield 9, 3) := by decide +kernel
theorem dX7_put_18 : decode cX7_put 18 = .ok (.iload_n 1, 1) := by decide +kernel
theorem dX7_put_19 : decode cX7_put 19 = .ok (.iload_n 2, 1) := by decide +kernel
theorem dX7_put_20 : decode cX7_put 20 = .ok (.iastore, 1) := by decide +kernel
theorem dX7_put_21 : decode cX7_put 21 = .ok (.aload_n 0, 1) := by decide +kernel
theorem dX7_put_22 : decode cX7_put 22 = .ok (.getfield 18, 3) := by decide +kernel
theorem dX7_put_25 : decode cX7_put 25 = .ok (.iload_n 1, 1) := by decide +kernel
theorem dX7_put_26 : decode cX7_put 26 = .ok (.aload_n 0, 1) := by decide +kernel
theorem dX7_put_27 : decode cX7_put 27 = .ok (.getfield 15, 3) := by decide +kernel
theorem dX7_put_30 : decode cX7_put 30 = .ok (.iload_n 2, 1) := by decide +kernel
theorem dX7_put_31 : decode cX7_put 31 = .ok (.iaload, 1) := by decide +kernel
theorem dX7_put_32 : decode cX7_put 32 = .ok (.iastore, 1) := by decide +kernel
theorem dX7_put_33 : decode cX7_put 33 = .ok (.aload_n 0, 1) := by decide +kernel
theorem dX7_put_34 : decode cX7_put 34 = .ok (.getfield 15, 3) := by decide +kernel
theorem dX7_put_37 : decode cX7_put 37 = .ok (.iload_n 2, 1) := by decide +kernel
theorem dX7_put_38 : decode cX7_put 38 = .ok (.iload_n 1, 1) := by decide +kernel
theorem dX7_put_39 : decode cX7_put 39 = .ok (.iastore, 1) := by decide +kernel
theorem dX7_put_40 : decode cX7_put 40 = .ok (.return_, 1) := by decide +kernel
theorem dX7_lift_0 : decode cX7_lift 0 = .ok (.aload_n 0, 1) := by decide +kernel
theorem dX7_lift_1 : decode cX7_lift 1 = .ok (.iload_n 1, 1) := by decide +kernel
theorem dX7_lift_2 : decode cX7_lift 2 = .ok (.invokevirtual 32, 3) := by decide +kernel
theorem dX7_lift_5 : decode cX7_lift 5 = .ok (.istore_n 2, 1) := by decide +kernel
theorem dX7_lift_6 : decode cX7_lift 6 = .ok (.iload_n 1, 1) := by decide +kernel
theorem dX7_lift_7 : decode cX7_lift 7 = .ok (.invokestatic 21, 3) := by decide +kernel
theorem dX7_lift_10 : decode cX7_lift 10 = .ok (.ifCond .eq 10, 3) := by decide +kernel
theorem dX7_lift_13 : decode cX7_lift 13 = .ok (.iload_n 2, 1) := by decide +kernel
theorem dX7_lift_14 : decode cX7_lift 14 = .ok (.invokestatic 21, 3) := by decide +kernel
theorem dX7_lift_17 : decode cX7_lift 17 = .ok (.ifCond .ne 4, 3) := by decide +kernel
theorem dX7_lift_20 : decode cX7_lift 20 = .ok (.return_, 1) := by decide +kernel
theorem dX7_lift_21 : decode cX7_lift 21 = .ok (.aload_n 0, 1) := by decide +kernel
theorem dX7_lift_22 : decode cX7_lift 22 = .ok (.getfield 15, 3) := by decide +kernel
theorem dX7_lift_25 : decode cX7_lift 25 = .ok (.iload_n 2, 1) := by decide +kernel
theorem dX7_lift_26 : decode cX7_lift 26 = .ok (.iaload, 1) := by decide +kernel
theorem dX7_lift_27 : decode cX7_lift 27 = .ok (.iload_n 1, 1) := by decide +kernel
theorem dX7_lift_28 : decode cX7_lift 28 = .ok (.if_icmp .ne 18, 3) := by decide +kernel
theorem dX7_lift_31 : decode cX7_lift 31 = .ok (.aload_n 0, 1) := by decide +kernel
theorem dX7_lift_32 : decode cX7_lift 32 = .ok (.getfield 15, 3) := by decide +kernel
theorem dX7_lift_35 : decode cX7_lift 35 = .ok (.iload_n 2, 1) := by decide +kernel
theorem dX7_lift_36 : decode cX7_lift 36 = .ok (.aload_n 0, 1) := by decide +kernel
theorem dX7_lift_37 : decode cX7_lift 37 = .ok (.getfield 18, 3) := by decide +kernel
theorem dX7_lift_40 : decode cX7_lift 40 = .ok (.iload_n 1, 1) := by decide +kernel
theorem dX7_lift_41 : decode cX7_lift 41 = .ok (.iaload, 1) := by decide +kernel
theorem dX7_lift_42 : decode cX7_lift 42 = .ok (.iastore, 1) := by decide +kernel
theorem dX7_lift_43 : decode cX7_lift 43 = .ok (.goto 14, 3) := by decide +kernel
theorem dX7_lift_46 : decode cX7_lift 46 = .ok (.aload_n 0, 1) := by decide +kernel
theorem dX7_lift_47 : decode cX7_lift 47 = .ok (.aload_n 0, 1) := by decide +kernel
theorem dX7_lift_48 : decode cX7_lift 48 = .ok (.getfield 15, 3) := by decide +kernel
theorem dX7_lift_51 : decode cX7_lift 51 = .ok (.iload_n 2, 1) := by decide +kernel
theorem dX7_lift_52 : decode cX7_lift 52 = .ok (.iaload, 1) := by decide +kernel
theorem dX7_lift_53 : decode cX7_lift 53 = .ok (.iload_n 1, 1) := by decide +kernel
theorem dX7_lift_54 : decode cX7_lift 54 = .ok (.invokevirtual 35, 3) := by decide +kernel
theorem dX7_lift_57 : decode cX7_lift 57 = .ok (.aload_n 0, 1) := by decide +kernel
theorem dX7_lift_58 : decode cX7_lift 58 = .ok (.getfield 9, 3) := by decide +kernel
theorem dX7_lift_61 : decode cX7_lift 61 = .ok (.iload_n 1, 1) := by decide +kernel
theorem dX7_lift_62 : decode cX7_lift 62 = .ok (.iconst 0, 1) := by decide +kernel
theorem dX7_lift_63 : decode cX7_lift 63 = .ok (.iastore, 1) := by decide +kernel
theorem dX7_lift_64 : decode cX7_lift 64 = .ok (.aload_n 0, 1) := by decide +kernel
theorem dX7_lift_65 : decode cX7_lift 65 = .ok (.getfield 18, 3) := by decide +kernel
theorem dX7_lift_68 : decode cX7_lift 68 = .ok (.iload_n 1, 1) := by decide +kernel
theorem dX7_lift_69 : decode cX7_lift 69 = .ok (.iconst 0, 1) := by decide +kernel
theorem dX7_lift_70 : decode cX7_lift 70 = .ok (.iastore, 1) := by decide +kernel
theorem dX7_lift_71 : decode cX7_lift 71 = .ok (.return_, 1) := by decide +kernel
theorem dX7_closeGap_0 : decode cX7_closeGap 0 = .ok (.iload_n 1, 1) := by decide +kernel
theorem dX7_closeGap_1 : decode cX7_closeGap 1 = .ok (.istore_n 3, 1) := by decide +kernel
theorem dX7_closeGap_2 : decode cX7_closeGap 2 = .ok (.iconst 0, 1) := by decide +kernel
theorem dX7_closeGap_3 : decode cX7_closeGap 3 = .ok (.istore 4, 2) := by decide +kernel
theorem dX7_closeGap_5 : decode cX7_closeGap 5 = .ok (.iload_n 3, 1) := by decide +kernel
theorem dX7_closeGap_6 : decode cX7_closeGap 6 = .ok (.invokestatic 21, 3) := by decide +kernel
theorem dX7_closeGap_9 : decode cX7_closeGap 9 = .ok (.ifCond .eq 45, 3) := by decide +kernel
theorem dX7_closeGap_12 : decode cX7_closeGap 12 = .ok (.iload 4, 2) := by decide +kernel
theorem dX7_closeGap_14 : decode cX7_closeGap 14 = .ok (.bipush 40, 2) := by decide +kernel
theorem dX7_closeGap_16 : decode cX7_closeGap 16 = .ok (.if_icmp .ge 38, 3) := by decide +kernel
theorem dX7_closeGap_19 : decode cX7_closeGap 19 = .ok (.aload_n 0, 1) := by decide +kernel
theorem dX7_closeGap_20 : decode cX7_closeGap 20 = .ok (.getfield 18, 3) := by decide +kernel
theorem dX7_closeGap_23 : decode cX7_closeGap 23 = .ok (.iload_n 3, 1) := by decide +kernel
theorem dX7_closeGap_24 : decode cX7_closeGap 24 = .ok (.iaload, 1) := by decide +kernel
theorem dX7_closeGap_25 : decode cX7_closeGap 25 = .ok (.iload_n 2, 1) := by decide +kernel
theorem dX7_closeGap_26 : decode cX7_closeGap 26 = .ok (.if_icmp .ne 15, 3) := by decide +kernel
theorem dX7_closeGap_29 : decode cX7_closeGap 29 = .ok (.aload_n 0, 1) := by decide +kernel
theorem dX7_closeGap_30 : decode cX7_closeGap 30 = .ok (.getfield 18, 3) := by decide +kernel
theorem dX7_closeGap_33 : decode cX7_closeGap 33 = .ok (.iload_n 3, 1) := by decide +kernel
theorem dX7_closeGap_34 : decode cX7_closeGap 34 = .ok (.aload_n 0, 1) := by decide +kernel
theorem dX7_closeGap_35 : decode cX7_closeGap 35 = .ok (.iload_n 2, 1) := by decide +kernel
theorem dX7_closeGap_36 : decode cX7_closeGap 36 = .ok (.invokevirtual 29, 3) := by decide +kernel
theorem dX7_closeGap_39 : decode cX7_closeGap 39 = .ok (.iastore, 1) := by decide +kernel
theorem dX7_closeGap_40 : decode cX7_closeGap 40 = .ok (.return_, 1) := by decide +kernel
theorem dX7_closeGap_41 : decode cX7_closeGap 41 = .ok (.aload_n 0, 1) := by decide +kernel
theorem dX7_closeGap_42 : decode cX7_closeGap 42 = .ok (.getfield 18, 3) := by decide +kernel
theorem dX7_closeGap_45 : decode cX7_closeGap 45 = .ok (.iload_n 3, 1) := by decide +kernel
theorem dX7_closeGap_46 : decode cX7_closeGap 46 = .ok (.iaload, 1) := by decide +kernel
theorem dX7_closeGap_47 : decode cX7_closeGap 47 = .ok (.istore_n 3, 1) := by decide +kernel
theorem dX7_closeGap_48 : decode cX7_closeGap 48 = .ok (.iinc 4 1, 3) := by decide +kernel
theorem dX7_closeGap_51 : decode cX7_closeGap 51 = .ok (.goto (-46), 3) := by decide +kernel
theorem dX7_closeGap_54 : decode cX7_closeGap 54 = .ok (.return_, 1) := by decide +kernel
theorem dX7_liftChildren_0 : decode cX7_liftChildren 0 = .ok (.iconst 0, 1) := by decide +kernel
theorem dX7_liftChildren_1 : decode cX7_liftChildren 1 = .ok (.istore_n 2, 1) := by decide +kernel
theorem dX7_liftChildren_2 : decode cX7_liftChildren 2 = .ok (.aload_n 0, 1) := by decide +kernel
theorem dX7_liftChildren_3 : decode cX7_liftChildren 3 = .ok (.iload_n 1, 1) := by decide +kernel
theorem dX7_liftChildren_4 : decode cX7_liftChildren 4 = .ok (.invokevirtual 25, 3) := by decide +kernel
theorem dX7_liftChildren_7 : decode cX7_liftChildren 7 = .ok (.ifCond .eq 24, 3) := by decide +kernel
theorem dX7_liftChildren_10 : decode cX7_liftChildren 10 = .ok (.iload_n 2, 1) := by decide +kernel
theorem dX7_liftChildren_11 : decode cX7_liftChildren 11 = .ok (.bipush 40, 2) := by decide +kernel
theorem dX7_liftChildren_13 : decode cX7_liftChildren 13 = .ok (.if_icmp .ge 18, 3) := by decide +kernel
theorem dX7_liftChildren_16 : decode cX7_liftChildren 16 = .ok (.aload_n 0, 1) := by decide +kernel
theorem dX7_liftChildren_17 : decode cX7_liftChildren 17 = .ok (.aload_n 0, 1) := by decide +kernel
theorem dX7_liftChildren_18 : decode cX7_liftChildren 18 = .ok (.iload_n 1, 1) := by decide +kernel
theorem dX7_liftChildren_19 : decode cX7_liftChildren 19 = .ok (.invokevirtual 25, 3) := by decide +kernel
theorem dX7_liftChildren_22 : decode cX7_liftChildren 22 = .ok (.invokevirtual 39, 3) := by decide +kernel
theorem dX7_liftChildren_25 : decode cX7_liftChildren 25 = .ok (.iinc 2 1, 3) := by decide +kernel
theorem dX7_liftChildren_28 : decode cX7_liftChildren 28 = .ok (.goto (-26), 3) := by decide +kernel
theorem dX7_liftChildren_31 : decode cX7_liftChildren 31 = .ok (.return_, 1) := by decide +kernel
theorem dX8_init_0 : decode cX8_init 0 = .ok (.aload_n 0, 1) := by decide +kernel
theorem dX8_init_1 : decode cX8_init 1 = .ok (.invokespecial 3, 3) := by decide +kernel
theorem dX8_init_4 : decode cX8_init 4 = .ok (.aload_n 0, 1) := by decide +kernel
theorem dX8_init_5 : decode cX8_init 5 = .ok (.bipush 10, 2) := by decide +kernel
theorem dX8_init_7 : decode cX8_init 7 = .ok (.newarray .int, 2) := by decide +kernel
theorem dX8_init_9 : decode cX8_init 9 = .ok (.putfield 9, 3) := by decide +kernel
theorem dX8_init_12 : decode cX8_init 12 = .ok (.aload_n 0, 1) := by decide +kernel
theorem dX8_init_13 : decode cX8_init 13 = .ok (.iload_n 1, 1) := by decide +kernel
theorem dX8_init_14 : decode cX8_init 14 = .ok (.putfield 15, 3) := by decide +kernel
theorem dX8_init_17 : decode cX8_init 17 = .ok (.return_, 1) := by decide +kernel
theorem dX8_has_0 : decode cX8_has 0 = .ok (.iload_n 1, 1) := by decide +kernel
theorem dX8_has_1 : decode cX8_has 1 = .ok (.ifCond .lt 21, 3) := by decide +kernel
theorem dX8_has_4 : decode cX8_has 4 = .ok (.iload_n 1, 1) := by decide +kernel
theorem dX8_has_5 : decode cX8_has 5 = .ok (.aload_n 0, 1) := by decide +kernel
theorem dX8_has_6 : decode cX8_has 6 = .ok (.getfield 15, 3) := by decide +kernel
theorem dX8_has_9 : decode cX8_has 9 = .ok (.if_icmp .ge 13, 3) := by decide +kernel
theorem dX8_has_12 : decode cX8_has 12 = .ok (.iload_n 1, 1) := by decide +kernel
theorem dX8_has_13 : decode cX8_has 13 = .ok (.bipush 10, 2) := by decide +kernel
theorem dX8_has_15 : decode cX8_has 15 = .ok (.if_icmp .ge 7, 3) := by decide +kernel
theorem dX8_has_18 : decode cX8_has 18 = .ok (.iconst 1, 1) := by decide +kernel
theorem dX8_has_19 : decode cX8_has 19 = .ok (.goto 4, 3) := by decide +kernel
theorem dX8_has_22 : decode cX8_has 22 = .ok (.iconst 0, 1) := by decide +kernel
theorem dX8_has_23 : decode cX8_has 23 = .ok (.ireturn, 1) := by decide +kernel
theorem dX8_at_0 : decode cX8_at 0 = .ok (.aload_n 0, 1) := by decide +kernel
theorem dX8_at_1 : decode cX8_at 1 = .ok (.iload_n 1, 1) := by decide +kernel
theorem dX8_at_2 : decode cX8_at 2 = .ok (.invokevirtual 19, 3) := by decide +kernel
theorem dX8_at_5 : decode cX8_at 5 = .ok (.ifCond .eq 12, 3) := by decide +kernel
theorem dX8_at_8 : decode cX8_at 8 = .ok (.aload_n 0, 1) := by decide +kernel
theorem dX8_at_9 : decode cX8_at 9 = .ok (.getfield 9, 3) := by decide +kernel
theorem dX8_at_12 : decode cX8_at 12 = .ok (.iload_n 1, 1) := by decide +kernel
theorem dX8_at_13 : decode cX8_at 13 = .ok (.iaload, 1) := by decide +kernel
theorem dX8_at_14 : decode cX8_at 14 = .ok (.goto 4, 3) := by decide +kernel
theorem dX8_at_17 : decode cX8_at 17 = .ok (.iconst 0, 1) := by decide +kernel
theorem dX8_at_18 : decode cX8_at 18 = .ok (.ireturn, 1) := by decide +kernel
theorem dX8_put_0 : decode cX8_put 0 = .ok (.aload_n 0, 1) := by decide +kernel
theorem dX8_put_1 : decode cX8_put 1 = .ok (.iload_n 1, 1) := by decide +kernel
theorem dX8_put_2 : decode cX8_put 2 = .ok (.invokevirtual 19, 3) := by decide +kernel
theorem dX8_put_5 : decode cX8_put 5 = .ok (.ifCond .eq 10, 3) := by decide +kernel
theorem dX8_put_8 : decode cX8_put 8 = .ok (.aload_n 0, 1) := by decide +kernel
theorem dX8_put_9 : decode cX8_put 9 = .ok (.getfield 9, 3) := by decide +kernel
theorem dX8_put_12 : decode cX8_put 12 = .ok (.iload_n 1, 1) := by decide +kernel
theorem dX8_put_13 : decode cX8_put 13 = .ok (.iload_n 2, 1) := by decide +kernel
theorem dX8_put_14 : decode cX8_put 14 = .ok (.iastore, 1) := by decide +kernel
theorem dX8_put_15 : decode cX8_put 15 = .ok (.return_, 1) := by decide +kernel
theorem dX9_init_0 : decode cX9_init 0 = .ok (.aload_n 0, 1) := by decide +kernel
theorem dX9_init_1 : decode cX9_init 1 = .ok (.invokespecial 1, 3) := by decide +kernel
theorem dX9_init_4 : decode cX9_init 4 = .ok (.aload_n 0, 1) := by decide +kernel
theorem dX9_init_5 : decode cX9_init 5 = .ok (.bipush 40, 2) := by decide +kernel
theorem dX9_init_7 : decode cX9_init 7 = .ok (.anewarray 9, 3) := by decide +kernel
theorem dX9_init_10 : decode cX9_init 10 = .ok (.putfield 11, 3) := by decide +kernel
theorem dX9_init_13 : decode cX9_init 13 = .ok (.aload_n 0, 1) := by decide +kernel
theorem dX9_init_14 : decode cX9_init 14 = .ok (.bipush 20, 2) := by decide +kernel
theorem dX9_init_16 : decode cX9_init 16 = .ok (.anewarray 15, 3) := by decide +kernel
theorem dX9_init_19 : decode cX9_init 19 = .ok (.putfield 17, 3) := by decide +kernel
theorem dX9_init_22 : decode cX9_init 22 = .ok (.aload_n 0, 1) := by decide +kernel
theorem dX9_init_23 : decode cX9_init 23 = .ok (.bipush 20, 2) := by decide +kernel
theorem dX9_init_25 : decode cX9_init 25 = .ok (.anewarray 21, 3) := by decide +kernel
theorem dX9_init_28 : decode cX9_init 28 = .ok (.putfield 23, 3) := by decide +kernel
theorem dX9_init_31 : decode cX9_init 31 = .ok (.aload_n 0, 1) := by decide +kernel
theorem dX9_init_32 : decode cX9_init 32 = .ok (.bipush 10, 2) := by decide +kernel
theorem dX9_init_34 : decode cX9_init 34 = .ok (.anewarray 27, 3) := by decide +kernel
theorem dX9_init_37 : decode cX9_init 37 = .ok (.putfield 29, 3) := by decide +kernel
theorem dX9_init_40 : decode cX9_init 40 = .ok (.aload_n 0, 1) := by decide +kernel
theorem dX9_init_41 : decode cX9_init 41 = .ok (.new 33, 3) := by decide +kernel
theorem dX9_init_44 : decode cX9_init 44 = .ok (.dup, 1) := by decide +kernel
theorem dX9_init_45 : decode cX9_init 45 = .ok (.invokespecial 35, 3) := by decide +kernel
theorem dX9_init_48 : decode cX9_init 48 = .ok (.putfield 36, 3) := by decide +kernel
theorem dX9_init_51 : decode cX9_init 51 = .ok (.aload_n 0, 1) := by decide +kernel
theorem dX9_init_52 : decode cX9_init 52 = .ok (.new 40, 3) := by decide +kernel
theorem dX9_init_55 : decode cX9_init 55 = .ok (.dup, 1) := by decide +kernel
theorem dX9_init_56 : decode cX9_init 56 = .ok (.invokespecial 42, 3) := by decide +kernel
theorem dX9_init_59 : decode cX9_init 59 = .ok (.putfield 43, 3) := by decide +kernel
theorem dX9_init_62 : decode cX9_init 62 = .ok (.aload_n 0, 1) := by decide +kernel
theorem dX9_init_63 : decode cX9_init 63 = .ok (.new 15, 3) := by decide +kernel
theorem dX9_init_66 : decode cX9_init 66 = .ok (.dup, 1) := by decide +kernel
theorem dX9_init_67 : decode cX9_init 67 = .ok (.invokespecial 47, 3) := by decide +kernel
theorem dX9_init_70 : decode cX9_init 70 = .ok (.putfield 48, 3) := by decide +kernel
theorem dX9_init_73 : decode cX9_init 73 = .ok (.aload_n 0, 1) := by decide +kernel
theorem dX9_init_74 : decode cX9_init 74 = .ok (.new 52, 3) := by decide +kernel
theorem dX9_init_77 : decode cX9_init 77 = .ok (.dup, 1) := by decide +kernel
theorem dX9_init_78 : decode cX9_init 78 = .ok (.iload_n 1, 1) := by decide +kernel
theorem dX9_init_79 : decode cX9_init 79 = .ok (.ifCond .eq 7, 3) := by decide +kernel
theorem dX9_init_82 : decode cX9_init 82 = .ok (.iconst 1, 1) := by decide +kernel
theorem dX9_init_83 : decode cX9_init 83 = .ok (.goto 4, 3) := by decide +kernel
theorem dX9_init_86 : decode cX9_init 86 = .ok (.iconst 0, 1) := by decide +kernel
theorem dX9_init_87 : decode cX9_init 87 = .ok (.invokespecial 54, 3) := by decide +kernel
theorem dX9_init_90 : decode cX9_init 90 = .ok (.putfield 57, 3) := by decide +kernel
theorem dX9_init_93 : decode cX9_init 93 = .ok (.return_, 1) := by decide +kernel
theorem dX9_letter_0 : decode cX9_letter 0 = .ok (.iload_n 1, 1) := by decide +kernel
theorem dX9_letter_1 : decode cX9_letter 1 = .ok (.bipush 32, 2) := by decide +kernel
theorem dX9_letter_3 : decode cX9_letter 3 = .ok (.if_icmp .lt 9, 3) := by decide +kernel
theorem dX9_letter_6 : decode cX9_letter 6 = .ok (.iload_n 1, 1) := by decide +kernel
theorem dX9_letter_7 : decode cX9_letter 7 = .ok (.bipush 126, 2) := by decide +kernel
theorem dX9_letter_9 : decode cX9_letter 9 = .ok (.if_icmp .le 6, 3) := by decide +kernel
theorem dX9_letter_12 : decode cX9_letter 12 = .ok (.bipush (-3), 2) := by decide +kernel
theorem dX9_letter_14 : decode cX9_letter 14 = .ok (.ireturn, 1) := by decide +kernel
theorem dX9_letter_15 : decode cX9_letter 15 = .ok (.aload_n 0, 1) := by decide +kernel
theorem dX9_letter_16 : decode cX9_letter 16 = .ok (.getfield 48, 3) := by decide +kernel
theorem dX9_letter_19 : decode cX9_letter 19 = .ok (.getfield 61, 3) := by decide +kernel
theorem dX9_letter_22 : decode cX9_letter 22 = .ok (.bipush 20, 2) := by decide +kernel
theorem dX9_letter_24 : decode cX9_letter 24 = .ok (.if_icmp .lt 6, 3) := by decide +kernel
theorem dX9_letter_27 : decode cX9_letter 27 = .ok (.bipush (-4), 2) := by decide +kernel
theorem dX9_letter_29 : decode cX9_letter 29 = .ok (.ireturn, 1) := by decide +kernel
theorem dX9_letter_30 : decode cX9_letter 30 = .ok (.aload_n 0, 1) := by decide +kernel
theorem dX9_letter_31 : decode cX9_letter 31 = .ok (.getfield 48, 3) := by decide +kernel
theorem dX9_letter_34 : decode cX9_letter 34 = .ok (.iload_n 1, 1) := by decide +kernel
theorem dX9_letter_35 : decode cX9_letter 35 = .ok (.i2b, 1) := by decide +kernel
theorem dX9_letter_36 : decode cX9_letter 36 = .ok (.invokevirtual 65, 3) := by decide +kernel
theorem dX9_letter_39 : decode cX9_letter 39 = .ok (.aload_n 0, 1) := by decide +kernel
theorem dX9_letter_40 : decode cX9_letter 40 = .ok (.getfield 48, 3) := by decide +kernel
theorem dX9_letter_43 : decode cX9_letter 43 = .ok (.getfield 61, 3) := by decide +kernel
theorem dX9_letter_46 : decode cX9_letter 46 = .ok (.ireturn, 1) := by decide +kernel
theorem dX9_text_0 : decode cX9_text 0 = .ok (.aload_n 0, 1) := by decide +kernel
theorem dX9_text_1 : decode cX9_text 1 = .ok (.getfield 69, 3) := by decide +kernel
theorem dX9_text_4 : decode cX9_text 4 = .ok (.ifCond .lt 12, 3) := by decide +kernel
theorem dX9_text_7 : decode cX9_text 7 = .ok (.aload_n 0, 1) := by decide +kernel
theorem dX9_text_8 : decode cX9_text 8 = .ok (.getfield 69, 3) := by decide +kernel
theorem dX9_text_11 : decode cX9_text 11 = .ok (.bipush 20, 2) := by decide +kernel
theorem dX9_text_13 : decode cX9_text 13 = .ok (.if_icmp .lt 6, 3) := by decide +kernel
theorem dX9_text_16 : decode cX9_text 16 = .ok (.bipush (-4), 2) := by decide +kernel
theorem dX9_text_18 : decode cX9_text 18 = .ok (.ireturn, 1) := by decide +kernel
theorem dX9_text_19 : decode cX9_text 19 = .ok (.aload_n 0, 1) := by decide +kernel
theorem dX9_text_20 : decode cX9_text 20 = .ok (.getfield 17, 3) := by decide +kernel
theorem dX9_text_23 : decode cX9_text 23 = .ok (.aload_n 0, 1) := by decide +kernel
theorem dX9_text_24 : decode cX9_text 24 = .ok (.getfield 69, 3) := by decide +kernel
theorem dX9_text_27 : decode cX9_text 27 = .ok (.aload_n 0, 1) := by decide +kernel
theorem dX9_text_28 : decode cX9_text 28 = .ok (.getfield 48, 3) := by decide +kernel
theorem dX9_text_31 : decode cX9_text 31 = .ok (.aastore, 1) := by decide +kernel
theorem dX9_text_32 : decode cX9_text 32 = .ok (.aload_n 0, 1) := by decide +kernel
theorem dX9_text_33 : decode cX9_text 33 = .ok (.new 15, 3) := by decide +kernel
theorem dX9_text_36 : decode cX9_text 36 = .ok (.dup, 1) := by decide +kernel
theorem dX9_text_37 : decode cX9_text 37 = .ok (.invokespecial 47, 3) := by decide +kernel
theorem dX9_text_40 : decode cX9_text 40 = .ok (.putfield 48, 3) := by decide +kernel
theorem dX9_text_43 : decode cX9_text 43 = .ok (.aload_n 0, 1) := by decide +kernel
theorem dX9_text_44 : decode cX9_text 44 = .ok (.dup, 1) := by decide +kernel
theorem dX9_text_45 : decode cX9_text 45 = .ok (.getfield 69, 3) := by decide +kernel
theorem dX9_text_48 : decode cX9_text 48 = .ok (.iconst 1, 1) := by decide +kernel
theorem dX9_text_49 : decode cX9_text 49 = .ok (.iadd, 1) := by decide +kernel
theorem dX9_text_50 : decode cX9_text 50 = .ok (.putfield 69, 3) := by decide +kernel
theorem dX9_text_53 : decode cX9_text 53 = .ok (.bipush 101, 2) := by decide +kernel
theorem dX9_text_55 : decode cX9_text 55 = .ok (.aload_n 0, 1) := by decide +kernel
theorem dX9_text_56 : decode cX9_text 56 = .ok (.getfield 69, 3) := by decide +kernel
theorem dX9_text_59 : decode cX9_text 59 = .ok (.iadd, 1) := by decide +kernel
theorem dX9_text_60 : decode cX9_text 60 = .ok (.iconst 1, 1) := by decide +kernel
theorem dX9_text_61 : decode cX9_text 61 = .ok (.isub, 1) := by decide +kernel
theorem dX9_text_62 : decode cX9_text 62 = .ok (.ireturn, 1) := by decide +kernel
theorem dX9_routine_0 : decode cX9_routine 0 = .ok (.aload_n 0, 1) := by decide +kernel
theorem dX9_routine_1 : decode cX9_routine 1 = .ok (.getfield 72, 3) := by decide +kernel
theorem dX9_routine_4 : decode cX9_routine 4 = .ok (.ifCond .lt 12, 3) := by decide +kernel
theorem dX9_routine_7 : decode cX9_routine 7 = .ok (.aload_n 0, 1) := by decide +kernel
theorem dX9_routine_8 : decode cX9_routine 8 = .ok (.getfield 72, 3) := by decide +kernel
theorem dX9_routine_11 : decode cX9_routine 11 = .ok (.bipush 20, 2) := by decide +kernel
theorem dX9_routine_13 : decode cX9_routine 13 = .ok (.if_icmp .lt 6, 3) := by decide +kernel
theorem dX9_routine_16 : decode cX9_routine 16 = .ok (.bipush (-4), 2) := by decide +kernel
theorem dX9_routine_18 : decode cX9_routine 18 = .ok (.ireturn, 1) := by decide +kernel
theorem dX9_routine_19 : decode cX9_routine 19 = .ok (.aload_n 0, 1) := by decide +kernel
theorem dX9_routine_20 : decode cX9_routine 20 = .ok (.getfield 23, 3) := by decide +kernel
theorem dX9_routine_23 : decode cX9_routine 23 = .ok (.aload_n 0, 1) := by decide +kernel
theorem dX9_routine_24 : decode cX9_routine 24 = .ok (.getfield 72, 3) := by decide +kernel
theorem dX9_routine_27 : decode cX9_routine 27 = .ok (.new 21, 3) := by decide +kernel
theorem dX9_routine_30 : decode cX9_routine 30 = .ok (.dup, 1) := by decide +kernel
theorem dX9_routine_31 : decode cX9_routine 31 = .ok (.invokespecial 75, 3) := by decide +kernel
theorem dX9_routine_34 : decode cX9_routine 34 = .ok (.aastore, 1) := by decide +kernel
theorem dX9_routine_35 : decode cX9_routine 35 = .ok (.aload_n 0, 1) := by decide +kernel
theorem dX9_routine_36 : decode cX9_routine 36 = .ok (.dup, 1) := by decide +kernel
theorem dX9_routine_37 : decode cX9_routine 37 = .ok (.getfield 72, 3) := by decide +kernel
theorem dX9_routine_40 : decode cX9_routine 40 = .ok (.iconst 1, 1) := by decide +kernel
theorem dX9_routine_41 : decode cX9_routine 41 = .ok (.iadd, 1) := by decide +kernel
theorem dX9_routine_42 : decode cX9_routine 42 = .ok (.putfield 72, 3) := by decide +kernel
theorem dX9_routine_45 : decode cX9_routine 45 = .ok (.sipush 201, 3) := by decide +kernel
theorem dX9_routine_48 : decode cX9_routine 48 = .ok (.aload_n 0, 1) := by decide +kernel
theorem dX9_routine_49 : decode cX9_routine 49 = .ok (.getfield 72, 3) := by decide +kernel
theorem dX9_routine_52 : decode cX9_routine 52 = .ok (.iadd, 1) := by decide +kernel
theorem dX9_routine_53 : decode cX9_routine 53 = .ok (.iconst 1, 1) := by decide +kernel
theorem dX9_routine_54 : decode cX9_routine 54 = .ok (.isub, 1) := by decide +kernel
theorem dX9_routine_55 : decode cX9_routine 55 = .ok (.ireturn, 1) := by decide +kernel
theorem dX9_act_0 : decode cX9_act 0 = .ok (.aload_n 0, 1) := by decide +kernel
theorem dX9_act_1 : decode cX9_act 1 = .ok (.iload_n 1, 1) := by decide +kernel
theorem dX9_act_2 : decode cX9_act 2 = .ok (.invokevirtual 76, 3) := by decide +kernel
theorem dX9_act_5 : decode cX9_act 5 = .ok (.astore 5, 2) := by decide +kernel
theorem dX9_act_7 : decode cX9_act 7 = .ok (.aload 5, 2) := by decide +kernel
theorem dX9_act_9 : decode cX9_act 9 = .ok (.ifnonnull 6, 3) := by decide +kernel
theorem dX9_act_12 : decode cX9_act 12 = .ok (.bipush (-2), 2) := by decide +kernel
theorem dX9_act_14 : decode cX9_act 14 = .ok (.ireturn, 1) := by decide +kernel
theorem dX9_act_15 : decode cX9_act 15 = .ok (.iload_n 2, 1) := by decide +kernel
theorem dX9_act_16 : decode cX9_act 16 = .ok (.ifCond .lt 9, 3) := by decide +kernel
theorem dX9_act_19 : decode cX9_act 19 = .ok (.iload_n 2, 1) := by decide +kernel
theorem dX9_act_20 : decode cX9_act 20 = .ok (.bipush 14, 2) := by decide +kernel
theorem dX9_act_22 : decode cX9_act 22 = .ok (.if_icmp .le 6, 3) := by decide +kernel
theorem dX9_act_25 : decode cX9_act 25 = .ok (.bipush (-3), 2) := by decide +kernel
theorem dX9_act_27 : decode cX9_act 27 = .ok (.ireturn, 1) := by decide +kernel
theorem dX9_act_28 : decode cX9_act 28 = .ok (.aload 5, 2) := by decide +kernel
theorem dX9_act_30 : decode cX9_act 30 = .ok (.getfield 80, 3) := by decide +kernel
theorem dX9_act_33 : decode cX9_act 33 = .ok (.bipush 8, 2) := by decide +kernel
theorem dX9_act_35 : decode cX9_act 35 = .ok (.if_icmp .lt 6, 3) := by decide +kernel
theorem dX9_act_38 : decode cX9_act 38 = .ok (.bipush (-4), 2) := by decide +kernel
theorem dX9_act_40 : decode cX9_act 40 = .ok (.ireturn, 1) := by decide +kernel
theorem dX9_act_41 : decode cX9_act 41 = .ok (.aload 5, 2) := by decide +kernel
theorem dX9_act_43 : decode cX9_act 43 = .ok (.iload_n 2, 1) := by decide +kernel
theorem dX9_act_44 : decode cX9_act 44 = .ok (.iload_n 3, 1) := by decide +kernel
theorem dX9_act_45 : decode cX9_act 45 = .ok (.iload 4, 2) := by decide +kernel
theorem dX9_act_47 : decode cX9_act 47 = .ok (.invokevirtual 81, 3) := by decide +kernel
theorem dX9_act_50 : decode cX9_act 50 = .ok (.aload 5, 2) := by decide +kernel
theorem dX9_act_52 : decode cX9_act 52 = .ok (.getfield 80, 3) := by decide +kernel
theorem dX9_act_55 : decode cX9_act 55 = .ok (.ireturn, 1) := by decide +kernel
theorem dX9_group_0 : decode cX9_group 0 = .ok (.aload_n 0, 1) := by decide +kernel
theorem dX9_group_1 : decode cX9_group 1 = .ok (.iload_n 1, 1) := by decide +kernel
theorem dX9_group_2 : decode cX9_group 2 = .ok (.invokevirtual 84, 3) := by decide +kernel
theorem dX9_group_5 : decode cX9_group 5 = .ok (.ifCond .eq 11, 3) := by decide +kernel
theorem dX9_group_8 : decode cX9_group 8 = .ok (.aload_n 0, 1) := by decide +kernel
theorem dX9_group_9 : decode cX9_group 9 = .ok (.iload_n 2, 1) := by decide +kernel
theorem dX9_group_10 : decode cX9_group 10 = .ok (.invokevirtual 84, 3) := by decide +kernel
theorem dX9_group_13 : decode cX9_group 13 = .ok (.ifCond .ne 6, 3) := by decide +kernel
theorem dX9_group_16 : decode cX9_group 16 = .ok (.bipush (-2), 2) := by decide +kernel
theorem dX9_group_18 : decode cX9_group 18 = .ok (.ireturn, 1) := by decide +kernel
theorem dX9_group_19 : decode cX9_group 19 = .ok (.iload_n 3, 1) := by decide +kernel
theorem dX9_group_20 : decode cX9_group 20 = .ok (.ifCond .lt 9, 3) := by decide +kernel
theorem dX9_group_23 : decode cX9_group 23 = .ok (.iload_n 3, 1) := by decide +kernel
theorem dX9_group_24 : decode cX9_group 24 = .ok (.bipush 6, 2) := by decide +kernel
theorem dX9_group_26 : decode cX9_group 26 = .ok (.if_icmp .le 6, 3) := by decide +kernel
theorem dX9_group_29 : decode cX9_group 29 = .ok (.bipush (-3), 2) := by decide +kernel
theorem dX9_group_31 : decode cX9_group 31 = .ok (.ireturn, 1) := by decide +kernel
theorem dX9_group_32 : decode cX9_group 32 = .ok (.aload_n 0, 1) := by decide +kernel
theorem dX9_group_33 : decode cX9_group 33 = .ok (.getfield 88, 3) := by decide +kernel
theorem dX9_group_36 : decode cX9_group 36 = .ok (.iconst 1, 1) := by decide +kernel
theorem dX9_group_37 : decode cX9_group 37 = .ok (.iadd, 1) := by decide +kernel
theorem dX9_group_38 : decode cX9_group 38 = .ok (.iload_n 3, 1) := by decide +kernel
theorem dX9_group_39 : decode cX9_group 39 = .ok (.iadd, 1) := by decide +kernel
theorem dX9_group_40 : decode cX9_group 40 = .ok (.bipush 40, 2) := by decide +kernel
theorem dX9_group_42 : decode cX9_group 42 = .ok (.if_icmp .le 6, 3) := by decide +kernel
theorem dX9_group_45 : decode cX9_group 45 = .ok (.bipush (-4), 2) := by decide +kernel
theorem dX9_group_47 : decode cX9_group 47 = .ok (.ireturn, 1) := by decide +kernel
theorem dX9_group_48 : decode cX9_group 48 = .ok (.aload_n 0, 1) := by decide +kernel
theorem dX9_group_49 : decode cX9_group 49 = .ok (.getfield 88, 3) := by decide +kernel
theorem dX9_group_52 : decode cX9_group 52 = .ok (.iconst 1, 1) := by decide +kernel
theorem dX9_group_53 : decode cX9_group 53 = .ok (.iadd, 1) := by decide +kernel
theorem dX9_group_54 : decode cX9_group 54 = .ok (.istore 4, 2) := by decide +kernel
theorem dX9_group_56 : decode cX9_group 56 = .ok (.new 91, 3) := by decide +kernel
theorem dX9_group_59 : decode cX9_group 59 = .ok (.dup, 1) := by decide +kernel
theorem dX9_group_60 : decode cX9_group 60 = .ok (.invokespecial 93, 3) := by decide +kernel
theorem dX9_group_63 : decode cX9_group 63 = .ok (.astore 5, 2) := by decide +kernel
theorem dX9_group_65 : decode cX9_group 65 = .ok (.aload 5, 2) := by decide +kernel
theorem dX9_group_67 : decode cX9_group 67 = .ok (.iload 4, 2) := by decide +kernel
theorem dX9_group_69 : decode cX9_group 69 = .ok (.invokevirtual 94, 3) := by decide +kernel
theorem dX9_group_72 : decode cX9_group 72 = .ok (.aload_n 0, 1) := by decide +kernel
theorem dX9_group_73 : decode cX9_group 73 = .ok (.aload 5, 2) := by decide +kernel
theorem dX9_group_75 : decode cX9_group 75 = .ok (.iload_n 1, 1) := by decide +kernel
theorem dX9_group_76 : decode cX9_group 76 = .ok (.iload_n 2, 1) := by decide +kernel
theorem dX9_group_77 : decode cX9_group 77 = .ok (.invokevirtual 97, 3) := by decide +kernel
theorem dX9_group_80 : decode cX9_group 80 = .ok (.aload_n 0, 1) := by decide +kernel
theorem dX9_group_81 : decode cX9_group 81 = .ok (.new 9, 3) := by decide +kernel
theorem dX9_group_84 : decode cX9_group 84 = .ok (.dup, 1) := by decide +kernel
theorem dX9_group_85 : decode cX9_group 85 = .ok (.iconst 1, 1) := by decide +kernel
theorem dX9_group_86 : decode cX9_group 86 = .ok (.aload 5, 2) := by decide +kernel
theorem dX9_group_88 : decode cX9_group 88 = .ok (.iload_n 3, 1) := by decide +kernel
theorem dX9_group_89 : decode cX9_group 89 = .ok (.invokespecial 101, 3) := by decide +kernel
theorem dX9_group_92 : decode cX9_group 92 = .ok (.invokevirtual 104, 3) := by decide +kernel
theorem dX9_group_95 : decode cX9_group 95 = .ok (.iconst 0, 1) := by decide +kernel
theorem dX9_group_96 : decode cX9_group 96 = .ok (.istore 6, 2) := by decide +kernel
theorem dX9_group_98 : decode cX9_group 98 = .ok (.iload 6, 2) := by decide +kernel
theorem dX9_group_100 : decode cX9_group 100 = .ok (.iload_n 3, 1) := by decide +kernel
theorem dX9_group_101 : decode cX9_group 101 = .ok (.if_icmp .ge 34, 3) := by decide +kernel
theorem dX9_group_104 : decode cX9_group 104 = .ok (.new 9, 3) := by decide +kernel
theorem dX9_group_107 : decode cX9_group 107 = .ok (.dup, 1) := by decide +kernel
theorem dX9_group_108 : decode cX9_group 108 = .ok (.iconst 0, 1) := by decide +kernel
theorem dX9_group_109 : decode cX9_group 109 = .ok (.aload 5, 2) := by decide +kernel
theorem dX9_group_111 : decode cX9_group 111 = .ok (.iconst 0, 1) := by decide +kernel
theorem dX9_group_112 : decode cX9_group 112 = .ok (.invokespecial 101, 3) := by decide +kernel
theorem dX9_group_115 : decode cX9_group 115 = .ok (.astore 7, 2) := by decide +kernel
theorem dX9_group_117 : decode cX9_group 117 = .ok (.aload_n 0, 1) := by decide +kernel
theorem dX9_group_118 : decode cX9_group 118 = .ok (.aload 7, 2) := by decide +kernel
theorem dX9_group_120 : decode cX9_group 120 = .ok (.invokevirtual 108, 3) := by decide +kernel
theorem dX9_group_123 : decode cX9_group 123 = .ok (.aload_n 0, 1) := by decide +kernel
theorem dX9_group_124 : decode cX9_group 124 = .ok (.aload 7, 2) := by decide +kernel
theorem dX9_group_126 : decode cX9_group 126 = .ok (.invokevirtual 104, 3) := by decide +kernel
theorem dX9_group_129 : decode cX9_group 129 = .ok (.iinc 6 1, 3) := by decide +kernel
theorem dX9_group_132 : decode cX9_group 132 = .ok (.goto (-34), 3) := by decide +kernel
theorem dX9_group_135 : decode cX9_group 135 = .ok (.iload 4, 2) := by decide +kernel
theorem dX9_group_137 : decode cX9_group 137 = .ok (.ireturn, 1) := by decide +kernel
theorem dX9_object_0 : decode cX9_object 0 = .ok (.aload_n 0, 1) := by decide +kernel
theorem dX9_object_1 : decode cX9_object 1 = .ok (.iload_n 1, 1) := by decide +kernel
theorem dX9_object_2 : decode cX9_object 2 = .ok (.invokevirtual 84, 3) := by decide +kernel
theorem dX9_object_5 : decode cX9_object 5 = .ok (.ifCond .eq 11, 3) := by decide +kernel
theorem dX9_object_8 : decode cX9_object 8 = .ok (.aload_n 0, 1) := by decide +kernel
theorem dX9_object_9 : decode cX9_object 9 = .ok (.iload_n 2, 1) := by decide +kernel
theorem dX9_object_10 : decode cX9_object 10 = .ok (.invokevirtual 84, 3) := by decide +kernel
theorem dX9_object_13 : decode cX9_object 13 = .ok (.ifCond .ne 6, 3) := by decide +kernel
theorem dX9_object_16 : decode cX9_object 16 = .ok (.bipush (-2), 2) := by decide +kernel
theorem dX9_object_18 : decode cX9_object 18 = .ok (.ireturn, 1) := by decide +kernel
theorem dX9_object_19 : decode cX9_object 19 = .ok (.aload_n 0, 1) := by decide +kernel
theorem dX9_object_20 : decode cX9_object 20 = .ok (.getfield 88, 3) := by decide +kernel
theorem dX9_object_23 : decode cX9_object 23 = .ok (.bipush 40, 2) := by decide +kernel
theorem dX9_object_25 : decode cX9_object 25 = .ok (.if_icmp .lt 6, 3) := by decide +kernel
theorem dX9_object_28 : decode cX9_object 28 = .ok (.bipush (-4), 2) := by decide +kernel
theorem dX9_object_30 : decode cX9_object 30 = .ok (.ireturn, 1) := by decide +kernel
theorem dX9_object_31 : decode cX9_object 31 = .ok (.new 91, 3) := by decide +kernel
theorem dX9_object_34 : decode cX9_object 34 = .ok (.dup, 1) := by decide +kernel
theorem dX9_object_35 : decode cX9_object 35 = .ok (.invokespecial 93, 3) := by decide +kernel
theorem dX9_object_38 : decode cX9_object 38 = .ok (.astore_n 3, 1) := by decide +kernel
theorem dX9_object_39 : decode cX9_object 39 = .ok (.aload_n 0, 1) := by decide +kernel
theorem dX9_object_40 : decode cX9_object 40 = .ok (.aload_n 3, 1) := by decide +kernel
theorem dX9_object_41 : decode cX9_object 41 = .ok (.iload_n 1, 1) := by decide +kernel
theorem dX9_object_42 : decode cX9_object 42 = .ok (.iload_n 2, 1) := by decide +kernel
theorem dX9_object_43 : decode cX9_object 43 = .ok (.invokevirtual 97, 3) := by decide +kernel
theorem dX9_object_46 : decode cX9_object 46 = .ok (.new 9, 3) := by decide +kernel
theorem dX9_object_49 : decode cX9_object 49 = .ok (.dup, 1) := by decide +kernel
theorem dX9_object_50 : decode cX9_object 50 = .ok (.iconst 0, 1) := by decide +kernel
theorem dX9_object_51 : decode cX9_object 51 = .ok (.aload_n 3, 1) := by decide +kernel
theorem dX9_object_52 : decode cX9_object 52 = .ok (.iconst 0, 1) := by decide +kernel
theorem dX9_object_53 : decode cX9_object 53 = .ok (.invokespecial 101, 3) := by decide +kernel
theorem dX9_object_56 : decode cX9_object 56 = .ok (.astore 4, 2) := by decide +kernel
theorem dX9_object_58 : decode cX9_object 58 = .ok (.aload 4, 2) := by decide +kernel
theorem dX9_object_60 : decode cX9_object 60 = .ok (.iconst 1, 1) := by decide +kernel
theorem dX9_object_61 : decode cX9_object 61 = .ok (.putfield 111, 3) := by decide +kernel
theorem dX9_object_64 : decode cX9_object 64 = .ok (.aload_n 0, 1) := by decide +kernel
theorem dX9_object_65 : decode cX9_object 65 = .ok (.aload 4, 2) := by decide +kernel
theorem dX9_object_67 : decode cX9_object 67 = .ok (.invokevirtual 108, 3) := by decide +kernel
theorem dX9_object_70 : decode cX9_object 70 = .ok (.aload_n 0, 1) := by decide +kernel
theorem dX9_object_71 : decode cX9_object 71 = .ok (.aload 4, 2) := by decide +kernel
theorem dX9_object_73 : decode cX9_object 73 = .ok (.invokevirtual 104, 3) := by decide +kernel
theorem dX9_object_76 : decode cX9_object 76 = .ok (.aload_n 0, 1) := by decide +kernel
theorem dX9_object_77 : decode cX9_object 77 = .ok (.getfield 88, 3) := by decide +kernel
theorem dX9_object_80 : decode cX9_object 80 = .ok (.ireturn, 1) := by decide +kernel
theorem dX9_value_0 : decode cX9_value 0 = .ok (.aload_n 0, 1) := by decide +kernel
theorem dX9_value_1 : decode cX9_value 1 = .ok (.iload_n 1, 1) := by decide +kernel
theorem dX9_value_2 : decode cX9_value 2 = .ok (.invokevirtual 115, 3) := by decide +kernel
theorem dX9_value_5 : decode cX9_value 5 = .ok (.astore 5, 2) := by decide +kernel
theorem dX9_value_7 : decode cX9_value 7 = .ok (.aload 5, 2) := by decide +kernel
theorem dX9_value_9 : decode cX9_value 9 = .ok (.ifnonnull 6, 3) := by decide +kernel
theorem dX9_value_12 : decode cX9_value 12 = .ok (.bipush (-2), 2) := by decide +kernel
theorem dX9_value_14 : decode cX9_value 14 = .ok (.ireturn, 1) := by decide +kernel
theorem dX9_value_15 : decode cX9_value 15 = .ok (.iload_n 2, 1) := by decide +kernel
theorem dX9_value_16 : decode cX9_value 16 = .ok (.invokestatic 119, 3) := by decide +kernel
theorem dX9_value_19 : decode cX9_value 19 = .ok (.ifCond .eq 25, 3) := by decide +kernel
theorem dX9_value_22 : decode cX9_value 22 = .ok (.iload_n 3, 1) := by decide +kernel
theorem dX9_value_23 : decode cX9_value 23 = .ok (.ifCond .lt 21, 3) := by decide +kernel
theorem dX9_value_26 : decode cX9_value 26 = .ok (.iload_n 3, 1) := by decide +kernel
theorem dX9_value_27 : decode cX9_value 27 = .ok (.iconst 4, 1) := by decide +kernel
theorem dX9_value_28 : decode cX9_value 28 = .ok (.if_icmp .ge 16, 3) := by decide +kernel
theorem dX9_value_31 : decode cX9_value 31 = .ok (.iload_n 3, 1) := by decide +kernel
theorem dX9_value_32 : decode cX9_value 32 = .ok (.aload 5, 2) := by decide +kernel
theorem dX9_value_34 : decode cX9_value 34 = .ok (.getfield 124, 3) := by decide +kernel
theorem dX9_value_37 : decode cX9_value 37 = .ok (.iload_n 2, 1) := by decide +kernel
theorem dX9_value_38 : decode cX9_value 38 = .ok (.invokevirtual 128, 3) := by decide +kernel
theorem dX9_value_41 : decode cX9_value 41 = .ok (.if_icmp .le 6, 3) := by decide +kernel
theorem dX9_value_44 : decode cX9_value 44 = .ok (.bipush (-3), 2) := by decide +kernel
theorem dX9_value_46 : decode cX9_value 46 = .ok (.ireturn, 1) := by decide +kernel
theorem dX9_value_47 : decode cX9_value 47 = .ok (.iload_n 3, 1) := by decide +kernel
theorem dX9_value_48 : decode cX9_value 48 = .ok (.aload 5, 2) := by decide +kernel
theorem dX9_value_50 : decode cX9_value 50 = .ok (.getfield 124, 3) := by decide +kernel
theorem dX9_value_53 : decode cX9_value 53 = .ok (.iload_n 2, 1) := by decide +kernel
theorem dX9_value_54 : decode cX9_value 54 = .ok (.invokevirtual 128, 3) := by decide +kernel
theorem dX9_value_57 : decode cX9_value 57 = .ok (.if_icmp .ne 17, 3) := by decide +kernel
theorem dX9_value_60 : decode cX9_value 60 = .ok (.aload 5, 2) := by decide +kernel
theorem dX9_value_62 : decode cX9_value 62 = .ok (.getfield 124, 3) := by decide +kernel
theorem dX9_value_65 : decode cX9_value 65 = .ok (.iload_n 2, 1) := by decide +kernel
theorem dX9_value_66 : decode cX9_value 66 = .ok (.iload 4, 2) := by decide +kernel
theorem dX9_value_68 : decode cX9_value 68 = .ok (.invokevirtual 132, 3) := by decide +kernel
theorem dX9_value_71 : decode cX9_value 71 = .ok (.goto 15, 3) := by decide +kernel
theorem dX9_value_74 : decode cX9_value 74 = .ok (.aload 5, 2) := by decide +kernel
theorem dX9_value_76 : decode cX9_value 76 = .ok (.getfield 124, 3) := by decide +kernel
theorem dX9_value_79 : decode cX9_value 79 = .ok (.iload_n 2, 1) := by decide +kernel
theorem dX9_value_80 : decode cX9_value 80 = .ok (.iload_n 3, 1) := by decide +kernel
theorem dX9_value_81 : decode cX9_value 81 = .ok (.iload 4, 2) := by decide +kernel
theorem dX9_value_83 : decode cX9_value 83 = .ok (.invokevirtual 135, 3) := by decide +kernel
theorem dX9_value_86 : decode cX9_value 86 = .ok (.aload 5, 2) := by decide +kernel
theorem dX9_value_88 : decode cX9_value 88 = .ok (.getfield 124, 3) := by decide +kernel
theorem dX9_value_91 : decode cX9_value 91 = .ok (.iload_n 2, 1) := by decide +kernel
theorem dX9_value_92 : decode cX9_value 92 = .ok (.invokevirtual 128, 3) := by decide +kernel
theorem dX9_value_95 : decode cX9_value 95 = .ok (.ireturn, 1) := by decide +kernel
theorem dX9_array_0 : decode cX9_array 0 = .ok (.iload_n 1, 1) := by decide +kernel
theorem dX9_array_1 : decode cX9_array 1 = .ok (.iconst 1, 1) := by decide +kernel
theorem dX9_array_2 : decode cX9_array 2 = .ok (.if_icmp .lt 9, 3) := by decide +kernel
theorem dX9_array_5 : decode cX9_array 5 = .ok (.iload_n 1, 1) := by decide +kernel
theorem dX9_array_6 : decode cX9_array 6 = .ok (.bipush 10, 2) := by decide +kernel
theorem dX9_array_8 : decode cX9_array 8 = .ok (.if_icmp .le 6, 3) := by decide +kernel
theorem dX9_array_11 : decode cX9_array 11 = .ok (.bipush (-3), 2) := by decide +kernel
theorem dX9_array_13 : decode cX9_array 13 = .ok (.ireturn, 1) := by decide +kernel
theorem dX9_array_14 : decode cX9_array 14 = .ok (.aload_n 0, 1) := by decide +kernel
theorem dX9_array_15 : decode cX9_array 15 = .ok (.getfield 138, 3) := by decide +kernel
theorem dX9_array_18 : decode cX9_array 18 = .ok (.ifCond .lt 12, 3) := by decide +kernel
theorem dX9_array_21 : decode cX9_array 21 = .ok (.aload_n 0, 1) := by decide +kernel
theorem dX9_array_22 : decode cX9_array 22 = .ok (.getfield 138, 3) := by decide +kernel
theorem dX9_array_25 : decode cX9_array 25 = .ok (.bipush 10, 2) := by decide +kernel
theorem dX9_array_27 : decode cX9_array 27 = .ok (.if_icmp .lt 6, 3) := by decide +kernel
theorem dX9_array_30 : decode cX9_array 30 = .ok (.bipush (-4), 2) := by decide +kernel
theorem dX9_array_32 : decode cX9_array 32 = .ok (.ireturn, 1) := by decide +kernel
theorem dX9_array_33 : decode cX9_array 33 = .ok (.aload_n 0, 1) := by decide +kernel
theorem dX9_array_34 : decode cX9_array 34 = .ok (.getfield 29, 3) := by decide +kernel
theorem dX9_array_37 : decode cX9_array 37 = .ok (.aload_n 0, 1) := by decide +kernel
theorem dX9_array_38 : decode cX9_array 38 = .ok (.getfield 138, 3) := by decide +kernel
theorem dX9_array_41 : decode cX9_array 41 = .ok (.new 27, 3) := by decide +kernel
theorem dX9_array_44 : decode cX9_array 44 = .ok (.dup, 1) := by decide +kernel
theorem dX9_array_45 : decode cX9_array 45 = .ok (.iload_n 1, 1) := by decide +kernel
theorem dX9_array_46 : decode cX9_array 46 = .ok (.invokespecial 141, 3) := by decide +kernel
theorem dX9_array_49 : decode cX9_array 49 = .ok (.aastore, 1) := by decide +kernel
theorem dX9_array_50 : decode cX9_array 50 = .ok (.aload_n 0, 1) := by decide +kernel
theorem dX9_array_51 : decode cX9_array 51 = .ok (.dup, 1) := by decide +kernel
theorem dX9_array_52 : decode cX9_array 52 = .ok (.getfield 138, 3) := by decide +kernel
theorem dX9_array_55 : decode cX9_array 55 = .ok (.iconst 1, 1) := by decide +kernel
theorem dX9_array_56 : decode cX9_array 56 = .ok (.iadd, 1) := by decide +kernel
theorem dX9_array_57 : decode cX9_array 57 = .ok (.putfield 138, 3) := by decide +kernel
theorem dX9_array_60 : decode cX9_array 60 = .ok (.sipush 301, 3) := by decide +kernel
theorem dX9_array_63 : decode cX9_array 63 = .ok (.aload_n 0, 1) := by decide +kernel
theorem dX9_array_64 : decode cX9_array 64 = .ok (.getfield 138, 3) := by decide +kernel
theorem dX9_array_67 : decode cX9_array 67 = .ok (.iadd, 1) := by decide +kernel
theorem dX9_array_68 : decode cX9_array 68 = .ok (.iconst 1, 1) := by decide +kernel
theorem dX9_array_69 : decode cX9_array 69 = .ok (.isub, 1) := by decide +kernel
theorem dX9_array_70 : decode cX9_array 70 = .ok (.ireturn, 1) := by decide +kernel
theorem dX9_called_0 : decode cX9_called 0 = .ok (.aload_n 0, 1) := by decide +kernel
theorem dX9_called_1 : decode cX9_called 1 = .ok (.iload_n 1, 1) := by decide +kernel
theorem dX9_called_2 : decode cX9_called 2 = .ok (.invokevirtual 115, 3) := by decide +kernel
theorem dX9_called_5 : decode cX9_called 5 = .ok (.astore 4, 2) := by decide +kernel
theorem dX9_called_7 : decode cX9_called 7 = .ok (.aload_n 0, 1) := by decide +kernel
theorem dX9_called_8 : decode cX9_called 8 = .ok (.iload_n 2, 1) := by decide +kernel
theorem dX9_called_9 : decode cX9_called 9 = .ok (.invokevirtual 143, 3) := by decide +kernel
theorem dX9_called_12 : decode cX9_called 12 = .ok (.astore 5, 2) := by decide +kernel
theorem dX9_called_14 : decode cX9_called 14 = .ok (.aload 4, 2) := by decide +kernel
theorem dX9_called_16 : decode cX9_called 16 = .ok (.ifnull 12, 3) := by decide +kernel
theorem dX9_called_19 : decode cX9_called 19 = .ok (.iload_n 2, 1) := by decide +kernel
theorem dX9_called_20 : decode cX9_called 20 = .ok (.ifCond .eq 11, 3) := by decide +kernel
theorem dX9_called_23 : decode cX9_called 23 = .ok (.aload 5, 2) := by decide +kernel
theorem dX9_called_25 : decode cX9_called 25 = .ok (.ifnonnull 6, 3) := by decide +kernel
theorem dX9_called_28 : decode cX9_called 28 = .ok (.bipush (-2), 2) := by decide +kernel
theorem dX9_called_30 : decode cX9_called 30 = .ok (.ireturn, 1) := by decide +kernel
theorem dX9_called_31 : decode cX9_called 31 = .ok (.aload 4, 2) := by decide +kernel
theorem dX9_called_33 : decode cX9_called 33 = .ok (.aload 5, 2) := by decide +kernel
theorem dX9_called_35 : decode cX9_called 35 = .ok (.putfield 147, 3) := by decide +kernel
theorem dX9_called_38 : decode cX9_called 38 = .ok (.aload 4, 2) := by decide +kernel
theorem dX9_called_40 : decode cX9_called 40 = .ok (.iload_n 3, 1) := by decide +kernel
theorem dX9_called_41 : decode cX9_called 41 = .ok (.putfield 150, 3) := by decide +kernel
theorem dX9_called_44 : decode cX9_called 44 = .ok (.iconst 1, 1) := by decide +kernel
theorem dX9_called_45 : decode cX9_called 45 = .ok (.ireturn, 1) := by decide +kernel
theorem dX9_send_0 : decode cX9_send 0 = .ok (.aload_n 0, 1) := by decide +kernel
theorem dX9_send_1 : decode cX9_send 1 = .ok (.invokevirtual 153, 3) := by decide +kernel
theorem dX9_send_4 : decode cX9_send 4 = .ok (.aload_n 0, 1) := by decide +kernel
theorem dX9_send_5 : decode cX9_send 5 = .ok (.iload_n 1, 1) := by decide +kernel
theorem dX9_send_6 : decode cX9_send 6 = .ok (.iload_n 2, 1) := by decide +kernel
theorem dX9_send_7 : decode cX9_send 7 = .ok (.iload_n 3, 1) := by decide +kernel
theorem dX9_send_8 : decode cX9_send 8 = .ok (.iconst 0, 1) := by decide +kernel
theorem dX9_send_9 : decode cX9_send 9 = .ok (.invokevirtual 156, 3) := by decide +kernel
theorem dX9_send_12 : decode cX9_send 12 = .ok (.ireturn, 1) := by decide +kernel
theorem dX9_sendAs_0 : decode cX9_sendAs 0 = .ok (.aload_n 0, 1) := by decide +kernel
theorem dX9_sendAs_1 : decode cX9_sendAs 1 = .ok (.invokevirtual 153, 3) := by decide +kernel
theorem dX9_sendAs_4 : decode cX9_sendAs 4 = .ok (.aload_n 0, 1) := by decide +kernel
theorem dX9_sendAs_5 : decode cX9_sendAs 5 = .ok (.iload_n 1, 1) := by decide +kernel
theorem dX9_sendAs_6 : decode cX9_sendAs 6 = .ok (.iload_n 2, 1) := by decide +kernel
theorem dX9_sendAs_7 : decode cX9_sendAs 7 = .ok (.iload_n 3, 1) := by decide +kernel
theorem dX9_sendAs_8 : decode cX9_sendAs 8 = .ok (.iload 4, 2) := by decide +kernel
theorem dX9_sendAs_10 : decode cX9_sendAs 10 = .ok (.iconst 0, 1) := by decide +kernel
theorem dX9_sendAs_11 : decode cX9_sendAs 11 = .ok (.invokevirtual 160, 3) := by decide +kernel
theorem dX9_sendAs_14 : decode cX9_sendAs 14 = .ok (.ireturn, 1) := by decide +kernel
theorem dX9_read_0 : decode cX9_read 0 = .ok (.aload_n 0, 1) := by decide +kernel
theorem dX9_read_1 : decode cX9_read 1 = .ok (.iload_n 1, 1) := by decide +kernel
theorem dX9_read_2 : decode cX9_read 2 = .ok (.iload_n 2, 1) := by decide +kernel
theorem dX9_read_3 : decode cX9_read 3 = .ok (.iload_n 3, 1) := by decide +kernel
theorem dX9_read_4 : decode cX9_read 4 = .ok (.invokevirtual 164, 3) := by decide +kernel
theorem dX9_read_7 : decode cX9_read 7 = .ok (.astore 4, 2) := by decide +kernel
theorem dX9_read_9 : decode cX9_read 9 = .ok (.aload 4, 2) := by decide +kernel
theorem dX9_read_11 : decode cX9_read 11 = .ok (.ifnonnull 7, 3) := by decide +kernel
theorem dX9_read_14 : decode cX9_read 14 = .ok (.iconst 0, 1) := by decide +kernel
theorem dX9_read_15 : decode cX9_read 15 = .ok (.goto 13, 3) := by decide +kernel
theorem dX9_read_18 : decode cX9_read 18 = .ok (.aload 4, 2) := by decide +kernel
theorem dX9_read_20 : decode cX9_read 20 = .ok (.getfield 124, 3) := by decide +kernel
theorem dX9_read_23 : decode cX9_read 23 = .ok (.iload_n 2, 1) := by decide +kernel
theorem dX9_read_24 : decode cX9_read 24 = .ok (.iload_n 3, 1) := by decide +kernel
theorem dX9_read_25 : decode cX9_read 25 = .ok (.invokevirtual 168, 3) := by decide +kernel
theorem dX9_read_28 : decode cX9_read 28 = .ok (.ireturn, 1) := by decide +kernel
theorem dX9_write_0 : decode cX9_write 0 = .ok (.aload_n 0, 1) := by decide +kernel
theorem dX9_write_1 : decode cX9_write 1 = .ok (.iload_n 1, 1) := by decide +kernel
theorem dX9_write_2 : decode cX9_write 2 = .ok (.iload_n 2, 1) := by decide +kernel
theorem dX9_write_3 : decode cX9_write 3 = .ok (.iload_n 3, 1) := by decide +kernel
theorem dX9_write_4 : decode cX9_write 4 = .ok (.invokevirtual 164, 3) := by decide +kernel
theorem dX9_write_7 : decode cX9_write 7 = .ok (.astore 5, 2) := by decide +kernel
theorem dX9_write_9 : decode cX9_write 9 = .ok (.aload 5, 2) := by decide +kernel
theorem dX9_write_11 : decode cX9_write 11 = .ok (.ifnonnull 5, 3) := by decide +kernel
theorem dX9_write_14 : decode cX9_write 14 = .ok (.iconst 0, 1) := by decide +kernel
theorem dX9_write_15 : decode cX9_write 15 = .ok (.ireturn, 1) := by decide +kernel
theorem dX9_write_16 : decode cX9_write 16 = .ok (.aload 5, 2) := by decide +kernel
theorem dX9_write_18 : decode cX9_write 18 = .ok (.getfield 124, 3) := by decide +kernel
theorem dX9_write_21 : decode cX9_write 21 = .ok (.iload_n 2, 1) := by decide +kernel
theorem dX9_write_22 : decode cX9_write 22 = .ok (.iload_n 3, 1) := by decide +kernel
theorem dX9_write_23 : decode cX9_write 23 = .ok (.iload 4, 2) := by decide +kernel
theorem dX9_write_25 : decode cX9_write 25 = .ok (.invokevirtual 135, 3) := by decide +kernel
theorem dX9_write_28 : decode cX9_write 28 = .ok (.iload 4, 2) := by decide +kernel
theorem dX9_write_30 : decode cX9_write 30 = .ok (.ireturn, 1) := by decide +kernel
theorem dX9_move_0 : decode cX9_move 0 = .ok (.aload_n 0, 1) := by decide +kernel
theorem dX9_move_1 : decode cX9_move 1 = .ok (.iload_n 1, 1) := by decide +kernel
theorem dX9_move_2 : decode cX9_move 2 = .ok (.invokevirtual 172, 3) := by decide +kernel
theorem dX9_move_5 : decode cX9_move 5 = .ok (.iconst 2, 1) := by decide +kernel
theorem dX9_move_6 : decode cX9_move 6 = .ok (.if_icmp .ne 16, 3) := by decide +kernel
theorem dX9_move_9 : decode cX9_move 9 = .ok (.iload_n 2, 1) := by decide +kernel
theorem dX9_move_10 : decode cX9_move 10 = .ok (.ifCond .eq 24, 3) := by decide +kernel
theorem dX9_move_13 : decode cX9_move 13 = .ok (.aload_n 0, 1) := by decide +kernel
theorem dX9_move_14 : decode cX9_move 14 = .ok (.iload_n 2, 1) := by decide +kernel
theorem dX9_move_15 : decode cX9_move 15 = .ok (.invokevirtual 172, 3) := by decide +kernel
theorem dX9_move_18 : decode cX9_move 18 = .ok (.iconst 2, 1) := by decide +kernel
theorem dX9_move_19 : decode cX9_move 19 = .ok (.if_icmp .eq 15, 3) := by decide +kernel
theorem dX9_move_22 : decode cX9_move 22 = .ok (.aload_n 0, 1) := by decide +kernel
theorem dX9_move_23 : decode cX9_move 23 = .ok (.getfield 57, 3) := by decide +kernel
theorem dX9_move_26 : decode cX9_move 26 = .ok (.bipush 6, 2) := by decide +kernel
theorem dX9_move_28 : decode cX9_move 28 = .ok (.iload_n 1, 1) := by decide +kernel
theorem dX9_move_29 : decode cX9_move 29 = .ok (.iload_n 2, 1) := by decide +kernel
theorem dX9_move_30 : decode cX9_move 30 = .ok (.invokevirtual 175, 3) := by decide +kernel
theorem dX9_move_33 : decode cX9_move 33 = .ok (.ireturn, 1) := by decide +kernel
theorem dX9_move_34 : decode cX9_move 34 = .ok (.aload_n 0, 1) := by decide +kernel
theorem dX9_move_35 : decode cX9_move 35 = .ok (.getfield 36, 3) := by decide +kernel
theorem dX9_move_38 : decode cX9_move 38 = .ok (.iload_n 2, 1) := by decide +kernel
theorem dX9_move_39 : decode cX9_move 39 = .ok (.iload_n 1, 1) := by decide +kernel
theorem dX9_move_40 : decode cX9_move 40 = .ok (.invokevirtual 179, 3) := by decide +kernel
theorem dX9_move_43 : decode cX9_move 43 = .ok (.ifCond .eq 15, 3) := by decide +kernel
theorem dX9_move_46 : decode cX9_move 46 = .ok (.aload_n 0, 1) := by decide +kernel
theorem dX9_move_47 : decode cX9_move 47 = .ok (.getfield 57, 3) := by decide +kernel
theorem dX9_move_50 : decode cX9_move 50 = .ok (.bipush 7, 2) := by decide +kernel
theorem dX9_move_52 : decode cX9_move 52 = .ok (.iload_n 1, 1) := by decide +kernel
theorem dX9_move_53 : decode cX9_move 53 = .ok (.iload_n 2, 1) := by decide +kernel
theorem dX9_move_54 : decode cX9_move 54 = .ok (.invokevirtual 175, 3) := by decide +kernel
theorem dX9_move_57 : decode cX9_move 57 = .ok (.ireturn, 1) := by decide +kernel
theorem dX9_move_58 : decode cX9_move 58 = .ok (.aload_n 0, 1) := by decide +kernel
theorem dX9_move_59 : decode cX9_move 59 = .ok (.getfield 36, 3) := by decide +kernel
theorem dX9_move_62 : decode cX9_move 62 = .ok (.iload_n 1, 1) := by decide +kernel
theorem dX9_move_63 : decode cX9_move 63 = .ok (.invokevirtual 183, 3) := by decide +kernel
theorem dX9_move_66 : decode cX9_move 66 = .ok (.aload_n 0, 1) := by decide +kernel
theorem dX9_move_67 : decode cX9_move 67 = .ok (.getfield 36, 3) := by decide +kernel
theorem dX9_move_70 : decode cX9_move 70 = .ok (.iload_n 1, 1) := by decide +kernel
theorem dX9_move_71 : decode cX9_move 71 = .ok (.iload_n 2, 1) := by decide +kernel
theorem dX9_move_72 : decode cX9_move 72 = .ok (.invokevirtual 186, 3) := by decide +kernel
theorem dX9_move_75 : decode cX9_move 75 = .ok (.iconst 1, 1) := by decide +kernel
theorem dX9_move_76 : decode cX9_move 76 = .ok (.ireturn, 1) := by decide +kernel
theorem dX9_tree_0 : decode cX9_tree 0 = .ok (.aload_n 0, 1) := by decide +kernel
theorem dX9_tree_1 : decode cX9_tree 1 = .ok (.iload_n 1, 1) := by decide +kernel
theorem dX9_tree_2 : decode cX9_tree 2 = .ok (.invokevirtual 172, 3) := by decide +kernel
theorem dX9_tree_5 : decode cX9_tree 5 = .ok (.iconst 2, 1) := by decide +kernel
theorem dX9_tree_6 : decode cX9_tree 6 = .ok (.if_icmp .eq 15, 3) := by decide +kernel
theorem dX9_tree_9 : decode cX9_tree 9 = .ok (.aload_n 0, 1) := by decide +kernel
theorem dX9_tree_10 : decode cX9_tree 10 = .ok (.getfield 57, 3) := by decide +kernel
theorem dX9_tree_13 : decode cX9_tree 13 = .ok (.bipush 6, 2) := by decide +kernel
theorem dX9_tree_15 : decode cX9_tree 15 = .ok (.iload_n 1, 1) := by decide +kernel
theorem dX9_tree_16 : decode cX9_tree 16 = .ok (.iconst 0, 1) := by decide +kernel
theorem dX9_tree_17 : decode cX9_tree 17 = .ok (.invokevirtual 175, 3) := by decide +kernel
theorem dX9_tree_20 : decode cX9_tree 20 = .ok (.ireturn, 1) := by decide +kernel
theorem dX9_tree_21 : decode cX9_tree 21 = .ok (.iload_n 2, 1) := by decide +kernel
theorem dX9_tree_22 : decode cX9_tree 22 = .ok (.tableswitch 53 0 2 #[26, 35, 44], 26) := by decide +kernel
theorem dX9_tree_48 : decode cX9_tree 48 = .ok (.aload_n 0, 1) := by decide +kernel
theorem dX9_tree_49 : decode cX9_tree 49 = .ok (.getfield 36, 3) := by decide +kernel
theorem dX9_tree_52 : decode cX9_tree 52 = .ok (.iload_n 1, 1) := by decide +kernel
theorem dX9_tree_53 : decode cX9_tree 53 = .ok (.invokevirtual 188, 3) := by decide +kernel
theorem dX9_tree_56 : decode cX9_tree 56 = .ok (.ireturn, 1) := by decide +kernel
theorem dX9_tree_57 : decode cX9_tree 57 = .ok (.aload_n 0, 1) := by decide +kernel
theorem dX9_tree_58 : decode cX9_tree 58 = .ok (.getfield 36, 3) := by decide +kernel
theorem dX9_tree_61 : decode cX9_tree 61 = .ok (.iload_n 1, 1) := by decide +kernel
theorem dX9_tree_62 : decode cX9_tree 62 = .ok (.invokevirtual 191, 3) := by decide +kernel
theorem dX9_tree_65 : decode cX9_tree 65 = .ok (.ireturn, 1) := by decide +kernel
theorem dX9_tree_66 : decode cX9_tree 66 = .ok (.aload_n 0, 1) := by decide +kernel
theorem dX9_tree_67 : decode cX9_tree 67 = .ok (.getfield 36, 3) := by decide +kernel
theorem dX9_tree_70 : decode cX9_tree 70 = .ok (.iload_n 1, 1) := by decide +kernel
theorem dX9_tree_71 : decode cX9_tree 71 = .ok (.invokevirtual 194, 3) := by decide +kernel
theorem dX9_tree_74 : decode cX9_tree 74 = .ok (.ireturn, 1) := by decide +kernel
theorem dX9_tree_75 : decode cX9_tree 75 = .ok (.aload_n 0, 1) := by decide +kernel
theorem dX9_tree_76 : decode cX9_tree 76 = .ok (.getfield 36, 3) := by decide +kernel
theorem dX9_tree_79 : decode cX9_tree 79 = .ok (.iload_n 1, 1) := by decide +kernel
theorem dX9_tree_80 : decode cX9_tree 80 = .ok (.invokevirtual 197, 3) := by decide +kernel
theorem dX9_tree_83 : decode cX9_tree 83 = .ok (.ireturn, 1) := by decide +kernel
theorem dX9_loop_0 : decode cX9_loop 0 = .ok (.aload_n 0, 1) := by decide +kernel
theorem dX9_loop_1 : decode cX9_loop 1 = .ok (.invokevirtual 153, 3) := by decide +kernel
theorem dX9_loop_4 : decode cX9_loop 4 = .ok (.aload_n 0, 1) := by decide +kernel
theorem dX9_loop_5 : decode cX9_loop 5 = .ok (.iload_n 1, 1) := by decide +kernel
theorem dX9_loop_6 : decode cX9_loop 6 = .ok (.invokevirtual 172, 3) := by decide +kernel
theorem dX9_loop_9 : decode cX9_loop 9 = .ok (.iconst 2, 1) := by decide +kernel
theorem dX9_loop_10 : decode cX9_loop 10 = .ok (.if_icmp .eq 15, 3) := by decide +kernel
theorem dX9_loop_13 : decode cX9_loop 13 = .ok (.aload_n 0, 1) := by decide +kernel
theorem dX9_loop_14 : decode cX9_loop 14 = .ok (.getfield 57, 3) := by decide +kernel
theorem dX9_loop_17 : decode cX9_loop 17 = .ok (.bipush 6, 2) := by decide +kernel
theorem dX9_loop_19 : decode cX9_loop 19 = .ok (.iload_n 1, 1) := by decide +kernel
theorem dX9_loop_20 : decode cX9_loop 20 = .ok (.iconst 0, 1) := by decide +kernel
theorem dX9_loop_21 : decode cX9_loop 21 = .ok (.invokevirtual 175, 3) := by decide +kernel
theorem dX9_loop_24 : decode cX9_loop 24 = .ok (.ireturn, 1) := by decide +kernel
theorem dX9_loop_25 : decode cX9_loop 25 = .ok (.aload_n 0, 1) := by decide +kernel
theorem dX9_loop_26 : decode cX9_loop 26 = .ok (.iload_n 2, 1) := by decide +kernel
theorem dX9_loop_27 : decode cX9_loop 27 = .ok (.invokevirtual 172, 3) := by decide +kernel
theorem dX9_loop_30 : decode cX9_loop 30 = .ok (.iconst 4, 1) := by decide +kernel
theorem dX9_loop_31 : decode cX9_loop 31 = .ok (.if_icmp .eq 15, 3) := by decide +kernel
theorem dX9_loop_34 : decode cX9_loop 34 = .ok (.aload_n 0, 1) := by decide +kernel
theorem dX9_loop_35 : decode cX9_loop 35 = .ok (.getfield 57, 3) := by decide +kernel
theorem dX9_loop_38 : decode cX9_loop 38 = .ok (.bipush 13, 2) := by decide +kernel
theorem dX9_loop_40 : decode cX9_loop 40 = .ok (.iload_n 1, 1) := by decide +kernel
theorem dX9_loop_41 : decode cX9_loop 41 = .ok (.iload_n 2, 1) := by decide +kernel
theorem dX9_loop_42 : decode cX9_loop 42 = .ok (.invokevirtual 175, 3) := by decide +kernel
theorem dX9_loop_45 : decode cX9_loop 45 = .ok (.ireturn, 1) := by decide +kernel
theorem dX9_loop_46 : decode cX9_loop 46 = .ok (.aload_n 0, 1) := by decide +kernel
theorem dX9_loop_47 : decode cX9_loop 47 = .ok (.getfield 36, 3) := by decide +kernel
theorem dX9_loop_50 : decode cX9_loop 50 = .ok (.iload_n 1, 1) := by decide +kernel
theorem dX9_loop_51 : decode cX9_loop 51 = .ok (.invokevirtual 191, 3) := by decide +kernel
theorem dX9_loop_54 : decode cX9_loop 54 = .ok (.istore_n 3, 1) := by decide +kernel
theorem dX9_loop_55 : decode cX9_loop 55 = .ok (.iconst 0, 1) := by decide +kernel
theorem dX9_loop_56 : decode cX9_loop 56 = .ok (.istore 4, 2) := by decide +kernel
theorem dX9_loop_58 : decode cX9_loop 58 = .ok (.iload_n 3, 1) := by decide +kernel
theorem dX9_loop_59 : decode cX9_loop 59 = .ok (.ifCond .eq 72, 3) := by decide +kernel
theorem dX9_loop_62 : decode cX9_loop 62 = .ok (.iload 4, 2) := by decide +kernel
theorem dX9_loop_64 : decode cX9_loop 64 = .ok (.bipush 40, 2) := by decide +kernel
theorem dX9_loop_66 : decode cX9_loop 66 = .ok (.if_icmp .ge 65, 3) := by decide +kernel
theorem dX9_loop_69 : decode cX9_loop 69 = .ok (.aload_n 0, 1) := by decide +kernel
theorem dX9_loop_70 : decode cX9_loop 70 = .ok (.getfield 36, 3) := by decide +kernel
theorem dX9_loop_73 : decode cX9_loop 73 = .ok (.iload_n 3, 1) := by decide +kernel
theorem dX9_loop_74 : decode cX9_loop 74 = .ok (.invokevirtual 194, 3) := by decide +kernel
theorem dX9_loop_77 : decode cX9_loop 77 = .ok (.istore 5, 2) := by decide +kernel
theorem dX9_loop_79 : decode cX9_loop 79 = .ok (.aload_n 0, 1) := by decide +kernel
theorem dX9_loop_80 : decode cX9_loop 80 = .ok (.iload_n 2, 1) := by decide +kernel
theorem dX9_loop_81 : decode cX9_loop 81 = .ok (.iload_n 3, 1) := by decide +kernel
theorem dX9_loop_82 : decode cX9_loop 82 = .ok (.iload_n 1, 1) := by decide +kernel
theorem dX9_loop_83 : decode cX9_loop 83 = .ok (.iconst 0, 1) := by decide +kernel
