theorem dX0_init_0 : decode cX0_init 0 = .ok (.aload_n 0, 1) := by decide +kernel
theorem dX0_init_1 : decode cX0_init 1 = .ok (.invokespecial 1, 3) := by decide +kernel
theorem dX0_init_4 : decode cX0_init 4 = .ok (.aload_n 0, 1) := by decide +kernel
theorem dX0_init_5 : decode cX0_init 5 = .ok (.iconst 0, 1) := by decide +kernel
theorem dX0_init_6 : decode cX0_init 6 = .ok (.putfield 7, 3) := by decide +kernel
theorem dX0_init_9 : decode cX0_init 9 = .ok (.aload_n 0, 1) := by decide +kernel
theorem dX0_init_10 : decode cX0_init 10 = .ok (.sipush 512, 3) := by decide +kernel
theorem dX0_init_13 : decode cX0_init 13 = .ok (.newarray .int, 2) := by decide +kernel
theorem dX0_init_15 : decode cX0_init 15 = .ok (.putfield 13, 3) := by decide +kernel
theorem dX0_init_18 : decode cX0_init 18 = .ok (.aload_n 0, 1) := by decide +kernel
theorem dX0_init_19 : decode cX0_init 19 = .ok (.sipush 512, 3) := by decide +kernel
theorem dX0_init_22 : decode cX0_init 22 = .ok (.newarray .int, 2) := by decide +kernel
theorem dX0_init_24 : decode cX0_init 24 = .ok (.putfield 17, 3) := by decide +kernel
theorem dX0_init_27 : decode cX0_init 27 = .ok (.aload_n 0, 1) := by decide +kernel
theorem dX0_init_28 : decode cX0_init 28 = .ok (.sipush 512, 3) := by decide +kernel
theorem dX0_init_31 : decode cX0_init 31 = .ok (.newarray .boolean, 2) := by decide +kernel
theorem dX0_init_33 : decode cX0_init 33 = .ok (.putfield 20, 3) := by decide +kernel
theorem dX0_init_36 : decode cX0_init 36 = .ok (.aload_n 0, 1) := by decide +kernel
theorem dX0_init_37 : decode cX0_init 37 = .ok (.iconst 0, 1) := by decide +kernel
theorem dX0_init_38 : decode cX0_init 38 = .ok (.putfield 24, 3) := by decide +kernel
theorem dX0_init_41 : decode cX0_init 41 = .ok (.aload_n 0, 1) := by decide +kernel
theorem dX0_init_42 : decode cX0_init 42 = .ok (.iconst 0, 1) := by decide +kernel
theorem dX0_init_43 : decode cX0_init 43 = .ok (.putfield 27, 3) := by decide +kernel
theorem dX0_init_46 : decode cX0_init 46 = .ok (.return_, 1) := by decide +kernel
theorem dX0_add_0 : decode cX0_add 0 = .ok (.aload_n 0, 1) := by decide +kernel
theorem dX0_add_1 : decode cX0_add 1 = .ok (.getfield 27, 3) := by decide +kernel
theorem dX0_add_4 : decode cX0_add 4 = .ok (.ifCond .lt 13, 3) := by decide +kernel
theorem dX0_add_7 : decode cX0_add 7 = .ok (.aload_n 0, 1) := by decide +kernel
theorem dX0_add_8 : decode cX0_add 8 = .ok (.getfield 27, 3) := by decide +kernel
theorem dX0_add_11 : decode cX0_add 11 = .ok (.sipush 512, 3) := by decide +kernel
theorem dX0_add_14 : decode cX0_add 14 = .ok (.if_icmp .lt 8, 3) := by decide +kernel
theorem dX0_add_17 : decode cX0_add 17 = .ok (.aload_n 0, 1) := by decide +kernel
theorem dX0_add_18 : decode cX0_add 18 = .ok (.iconst 0, 1) := by decide +kernel
theorem dX0_add_19 : decode cX0_add 19 = .ok (.putfield 27, 3) := by decide +kernel
theorem dX0_add_22 : decode cX0_add 22 = .ok (.aload_n 0, 1) := by decide +kernel
theorem dX0_add_23 : decode cX0_add 23 = .ok (.getfield 13, 3) := by decide +kernel
theorem dX0_add_26 : decode cX0_add 26 = .ok (.aload_n 0, 1) := by decide +kernel
theorem dX0_add_27 : decode cX0_add 27 = .ok (.getfield 27, 3) := by decide +kernel
theorem dX0_add_30 : decode cX0_add 30 = .ok (.iload_n 1, 1) := by decide +kernel
theorem dX0_add_31 : decode cX0_add 31 = .ok (.iastore, 1) := by decide +kernel
theorem dX0_add_32 : decode cX0_add 32 = .ok (.aload_n 0, 1) := by decide +kernel
theorem dX0_add_33 : decode cX0_add 33 = .ok (.getfield 17, 3) := by decide +kernel
theorem dX0_add_36 : decode cX0_add 36 = .ok (.aload_n 0, 1) := by decide +kernel
theorem dX0_add_37 : decode cX0_add 37 = .ok (.getfield 27, 3) := by decide +kernel
theorem dX0_add_40 : decode cX0_add 40 = .ok (.iload_n 2, 1) := by decide +kernel
theorem dX0_add_41 : decode cX0_add 41 = .ok (.iastore, 1) := by decide +kernel
theorem dX0_add_42 : decode cX0_add 42 = .ok (.aload_n 0, 1) := by decide +kernel
theorem dX0_add_43 : decode cX0_add 43 = .ok (.getfield 20, 3) := by decide +kernel
theorem dX0_add_46 : decode cX0_add 46 = .ok (.aload_n 0, 1) := by decide +kernel
theorem dX0_add_47 : decode cX0_add 47 = .ok (.getfield 27, 3) := by decide +kernel
theorem dX0_add_50 : decode cX0_add 50 = .ok (.iload_n 3, 1) := by decide +kernel
theorem dX0_add_51 : decode cX0_add 51 = .ok (.bastore, 1) := by decide +kernel
theorem dX0_add_52 : decode cX0_add 52 = .ok (.aload_n 0, 1) := by decide +kernel
theorem dX0_add_53 : decode cX0_add 53 = .ok (.dup, 1) := by decide +kernel
theorem dX0_add_54 : decode cX0_add 54 = .ok (.getfield 27, 3) := by decide +kernel
theorem dX0_add_57 : decode cX0_add 57 = .ok (.iconst 1, 1) := by decide +kernel
theorem dX0_add_58 : decode cX0_add 58 = .ok (.iadd, 1) := by decide +kernel
theorem dX0_add_59 : decode cX0_add 59 = .ok (.putfield 27, 3) := by decide +kernel
theorem dX0_add_62 : decode cX0_add 62 = .ok (.aload_n 0, 1) := by decide +kernel
theorem dX0_add_63 : decode cX0_add 63 = .ok (.aload_n 0, 1) := by decide +kernel
theorem dX0_add_64 : decode cX0_add 64 = .ok (.getfield 24, 3) := by decide +kernel
theorem dX0_add_67 : decode cX0_add 67 = .ok (.aload_n 0, 1) := by decide +kernel
theorem dX0_add_68 : decode cX0_add 68 = .ok (.getfield 27, 3) := by decide +kernel
theorem dX0_add_71 : decode cX0_add 71 = .ok (.invokestatic 30, 3) := by decide +kernel
theorem dX0_add_74 : decode cX0_add 74 = .ok (.putfield 24, 3) := by decide +kernel
theorem dX0_add_77 : decode cX0_add 77 = .ok (.aload_n 0, 1) := by decide +kernel
theorem dX0_add_78 : decode cX0_add 78 = .ok (.dup, 1) := by decide +kernel
theorem dX0_add_79 : decode cX0_add 79 = .ok (.getfield 7, 3) := by decide +kernel
theorem dX0_add_82 : decode cX0_add 82 = .ok (.iconst 1, 1) := by decide +kernel
theorem dX0_add_83 : decode cX0_add 83 = .ok (.iadd, 1) := by decide +kernel
theorem dX0_add_84 : decode cX0_add 84 = .ok (.putfield 7, 3) := by decide +kernel
theorem dX0_add_87 : decode cX0_add 87 = .ok (.return_, 1) := by decide +kernel
theorem dX0_countBehind_0 : decode cX0_countBehind 0 = .ok (.iconst 0, 1) := by decide +kernel
theorem dX0_countBehind_1 : decode cX0_countBehind 1 = .ok (.istore_n 3, 1) := by decide +kernel
theorem dX0_countBehind_2 : decode cX0_countBehind 2 = .ok (.iconst 0, 1) := by decide +kernel
theorem dX0_countBehind_3 : decode cX0_countBehind 3 = .ok (.istore 4, 2) := by decide +kernel
theorem dX0_countBehind_5 : decode cX0_countBehind 5 = .ok (.iload 4, 2) := by decide +kernel
theorem dX0_countBehind_7 : decode cX0_countBehind 7 = .ok (.aload_n 0, 1) := by decide +kernel
theorem dX0_countBehind_8 : decode cX0_countBehind 8 = .ok (.getfield 24, 3) := by decide +kernel
theorem dX0_countBehind_11 : decode cX0_countBehind 11 = .ok (.if_icmp .ge 52, 3) := by decide +kernel
theorem dX0_countBehind_14 : decode cX0_countBehind 14 = .ok (.iload 4, 2) := by decide +kernel
theorem dX0_countBehind_16 : decode cX0_countBehind 16 = .ok (.sipush 512, 3) := by decide +kernel
theorem dX0_countBehind_19 : decode cX0_countBehind 19 = .ok (.if_icmp .ge 44, 3) := by decide +kernel
theorem dX0_countBehind_22 : decode cX0_countBehind 22 = .ok (.aload_n 0, 1) := by decide +kernel
theorem dX0_countBehind_23 : decode cX0_countBehind 23 = .ok (.getfield 13, 3) := by decide +kernel
theorem dX0_countBehind_26 : decode cX0_countBehind 26 = .ok (.iload 4, 2) := by decide +kernel
theorem dX0_countBehind_28 : decode cX0_countBehind 28 = .ok (.iaload, 1) := by decide +kernel
theorem dX0_countBehind_29 : decode cX0_countBehind 29 = .ok (.iload_n 1, 1) := by decide +kernel
theorem dX0_countBehind_30 : decode cX0_countBehind 30 = .ok (.if_icmp .ne 27, 3) := by decide +kernel
theorem dX0_countBehind_33 : decode cX0_countBehind 33 = .ok (.aload_n 0, 1) := by decide +kernel
theorem dX0_countBehind_34 : decode cX0_countBehind 34 = .ok (.getfield 17, 3) := by decide +kernel
theorem dX0_countBehind_37 : decode cX0_countBehind 37 = .ok (.iload 4, 2) := by decide +kernel
theorem dX0_countBehind_39 : decode cX0_countBehind 39 = .ok (.iaload, 1) := by decide +kernel
theorem dX0_countBehind_40 : decode cX0_countBehind 40 = .ok (.iload_n 2, 1) := by decide +kernel
theorem dX0_countBehind_41 : decode cX0_countBehind 41 = .ok (.if_icmp .le 16, 3) := by decide +kernel
theorem dX0_countBehind_44 : decode cX0_countBehind 44 = .ok (.aload_n 0, 1) := by decide +kernel
theorem dX0_countBehind_45 : decode cX0_countBehind 45 = .ok (.getfield 20, 3) := by decide +kernel
theorem dX0_countBehind_48 : decode cX0_countBehind 48 = .ok (.iload 4, 2) := by decide +kernel
theorem dX0_countBehind_50 : decode cX0_countBehind 50 = .ok (.baload, 1) := by decide +kernel
theorem dX0_countBehind_51 : decode cX0_countBehind 51 = .ok (.ifCond .ne 6, 3) := by decide +kernel
theorem dX0_countBehind_54 : decode cX0_countBehind 54 = .ok (.iinc 3 1, 3) := by decide +kernel
theorem dX0_countBehind_57 : decode cX0_countBehind 57 = .ok (.iinc 4 1, 3) := by decide +kernel
theorem dX0_countBehind_60 : decode cX0_countBehind 60 = .ok (.goto (-55), 3) := by decide +kernel
theorem dX0_countBehind_63 : decode cX0_countBehind 63 = .ok (.iload_n 3, 1) := by decide +kernel
theorem dX0_countBehind_64 : decode cX0_countBehind 64 = .ok (.ireturn, 1) := by decide +kernel
theorem dX1_init_0 : decode cX1_init 0 = .ok (.aload_n 0, 1) := by decide +kernel
theorem dX1_init_1 : decode cX1_init 1 = .ok (.invokespecial 3, 3) := by decide +kernel
theorem dX1_init_4 : decode cX1_init 4 = .ok (.aload_n 0, 1) := by decide +kernel
theorem dX1_init_5 : decode cX1_init 5 = .ok (.iconst 1, 1) := by decide +kernel
theorem dX1_init_6 : decode cX1_init 6 = .ok (.putfield 9, 3) := by decide +kernel
theorem dX1_init_9 : decode cX1_init 9 = .ok (.aload_n 0, 1) := by decide +kernel
theorem dX1_init_10 : decode cX1_init 10 = .ok (.iconst 0, 1) := by decide +kernel
theorem dX1_init_11 : decode cX1_init 11 = .ok (.putfield 15, 3) := by decide +kernel
theorem dX1_init_14 : decode cX1_init 14 = .ok (.aload_n 0, 1) := by decide +kernel
theorem dX1_init_15 : decode cX1_init 15 = .ok (.iconst 0, 1) := by decide +kernel
theorem dX1_init_16 : decode cX1_init 16 = .ok (.putfield 19, 3) := by decide +kernel
theorem dX1_init_19 : decode cX1_init 19 = .ok (.aload_n 0, 1) := by decide +kernel
theorem dX1_init_20 : decode cX1_init 20 = .ok (.new 22, 3) := by decide +kernel
theorem dX1_init_23 : decode cX1_init 23 = .ok (.dup, 1) := by decide +kernel
theorem dX1_init_24 : decode cX1_init 24 = .ok (.sipush 500, 3) := by decide +kernel
theorem dX1_init_27 : decode cX1_init 27 = .ok (.bipush 100, 2) := by decide +kernel
theorem dX1_init_29 : decode cX1_init 29 = .ok (.bipush 20, 2) := by decide +kernel
theorem dX1_init_31 : decode cX1_init 31 = .ok (.invokespecial 24, 3) := by decide +kernel
theorem dX1_init_34 : decode cX1_init 34 = .ok (.putfield 27, 3) := by decide +kernel
theorem dX1_init_37 : decode cX1_init 37 = .ok (.aload_n 0, 1) := by decide +kernel
theorem dX1_init_38 : decode cX1_init 38 = .ok (.iconst 0, 1) := by decide +kernel
theorem dX1_init_39 : decode cX1_init 39 = .ok (.putfield 31, 3) := by decide +kernel
theorem dX1_init_42 : decode cX1_init 42 = .ok (.aload_n 0, 1) := by decide +kernel
theorem dX1_init_43 : decode cX1_init 43 = .ok (.iconst 0, 1) := by decide +kernel
theorem dX1_init_44 : decode cX1_init 44 = .ok (.putfield 34, 3) := by decide +kernel
theorem dX1_init_47 : decode cX1_init 47 = .ok (.aload_n 0, 1) := by decide +kernel
theorem dX1_init_48 : decode cX1_init 48 = .ok (.iconst 0, 1) := by decide +kernel
theorem dX1_init_49 : decode cX1_init 49 = .ok (.putfield 37, 3) := by decide +kernel
theorem dX1_init_52 : decode cX1_init 52 = .ok (.return_, 1) := by decide +kernel
theorem dX1_circuitAt_0 : decode cX1_circuitAt 0 = .ok (.aload_n 0, 1) := by decide +kernel
theorem dX1_circuitAt_1 : decode cX1_circuitAt 1 = .ok (.getfield 34, 3) := by decide +kernel
theorem dX1_circuitAt_4 : decode cX1_circuitAt 4 = .ok (.ifCond .ne 5, 3) := by decide +kernel
theorem dX1_circuitAt_7 : decode cX1_circuitAt 7 = .ok (.iconst 0, 1) := by decide +kernel
theorem dX1_circuitAt_8 : decode cX1_circuitAt 8 = .ok (.ireturn, 1) := by decide +kernel
theorem dX1_circuitAt_9 : decode cX1_circuitAt 9 = .ok (.iload_n 1, 1) := by decide +kernel
theorem dX1_circuitAt_10 : decode cX1_circuitAt 10 = .ok (.aload_n 0, 1) := by decide +kernel
theorem dX1_circuitAt_11 : decode cX1_circuitAt 11 = .ok (.getfield 37, 3) := by decide +kernel
theorem dX1_circuitAt_14 : decode cX1_circuitAt 14 = .ok (.if_icmp .ge 7, 3) := by decide +kernel
theorem dX1_circuitAt_17 : decode cX1_circuitAt 17 = .ok (.iconst 1, 1) := by decide +kernel
theorem dX1_circuitAt_18 : decode cX1_circuitAt 18 = .ok (.goto 4, 3) := by decide +kernel
theorem dX1_circuitAt_21 : decode cX1_circuitAt 21 = .ok (.iconst 2, 1) := by decide +kernel
theorem dX1_circuitAt_22 : decode cX1_circuitAt 22 = .ok (.ireturn, 1) := by decide +kernel
theorem dX1_answersAt_0 : decode cX1_answersAt 0 = .ok (.iconst 0, 1) := by decide +kernel
theorem dX1_answersAt_1 : decode cX1_answersAt 1 = .ok (.istore_n 2, 1) := by decide +kernel
theorem dX1_answersAt_2 : decode cX1_answersAt 2 = .ok (.iload_n 2, 1) := by decide +kernel
theorem dX1_answersAt_3 : decode cX1_answersAt 3 = .ok (.iconst 3, 1) := by decide +kernel
theorem dX1_answersAt_4 : decode cX1_answersAt 4 = .ok (.if_icmp .ge 28, 3) := by decide +kernel
theorem dX1_answersAt_7 : decode cX1_answersAt 7 = .ok (.aload_n 0, 1) := by decide +kernel
theorem dX1_answersAt_8 : decode cX1_answersAt 8 = .ok (.iload_n 1, 1) := by decide +kernel
theorem dX1_answersAt_9 : decode cX1_answersAt 9 = .ok (.invokevirtual 40, 3) := by decide +kernel
theorem dX1_answersAt_12 : decode cX1_answersAt 12 = .ok (.iconst 1, 1) := by decide +kernel
theorem dX1_answersAt_13 : decode cX1_answersAt 13 = .ok (.if_icmp .eq 19, 3) := by decide +kernel
theorem dX1_answersAt_16 : decode cX1_answersAt 16 = .ok (.aload_n 0, 1) := by decide +kernel
theorem dX1_answersAt_17 : decode cX1_answersAt 17 = .ok (.iload_n 1, 1) := by decide +kernel
theorem dX1_answersAt_18 : decode cX1_answersAt 18 = .ok (.invokevirtual 44, 3) := by decide +kernel
theorem dX1_answersAt_21 : decode cX1_answersAt 21 = .ok (.ifCond .eq 5, 3) := by decide +kernel
theorem dX1_answersAt_24 : decode cX1_answersAt 24 = .ok (.iconst 1, 1) := by decide +kernel
theorem dX1_answersAt_25 : decode cX1_answersAt 25 = .ok (.ireturn, 1) := by decide +kernel
theorem dX1_answersAt_26 : decode cX1_answersAt 26 = .ok (.iinc 2 1, 3) := by decide +kernel
theorem dX1_answersAt_29 : decode cX1_answersAt 29 = .ok (.goto (-27), 3) := by decide +kernel
theorem dX1_answersAt_32 : decode cX1_answersAt 32 = .ok (.iconst 0, 1) := by decide +kernel
theorem dX1_answersAt_33 : decode cX1_answersAt 33 = .ok (.ireturn, 1) := by decide +kernel
theorem dX1_succeedsAt_0 : decode cX1_succeedsAt 0 = .ok (.aload_n 0, 1) := by decide +kernel
theorem dX1_succeedsAt_1 : decode cX1_succeedsAt 1 = .ok (.dup, 1) := by decide +kernel
theorem dX1_succeedsAt_2 : decode cX1_succeedsAt 2 = .ok (.getfield 19, 3) := by decide +kernel
theorem dX1_succeedsAt_5 : decode cX1_succeedsAt 5 = .ok (.iconst 1, 1) := by decide +kernel
theorem dX1_succeedsAt_6 : decode cX1_succeedsAt 6 = .ok (.iadd, 1) := by decide +kernel
theorem dX1_succeedsAt_7 : decode cX1_succeedsAt 7 = .ok (.putfield 19, 3) := by decide +kernel
theorem dX1_succeedsAt_10 : decode cX1_succeedsAt 10 = .ok (.aload_n 0, 1) := by decide +kernel
theorem dX1_succeedsAt_11 : decode cX1_succeedsAt 11 = .ok (.getfield 15, 3) := by decide +kernel
theorem dX1_succeedsAt_14 : decode cX1_succeedsAt 14 = .ok (.ifCond .le 19, 3) := by decide +kernel
theorem dX1_succeedsAt_17 : decode cX1_succeedsAt 17 = .ok (.aload_n 0, 1) := by decide +kernel
theorem dX1_succeedsAt_18 : decode cX1_succeedsAt 18 = .ok (.getfield 19, 3) := by decide +kernel
theorem dX1_succeedsAt_21 : decode cX1_succeedsAt 21 = .ok (.aload_n 0, 1) := by decide +kernel
theorem dX1_succeedsAt_22 : decode cX1_succeedsAt 22 = .ok (.getfield 15, 3) := by decide +kernel
theorem dX1_succeedsAt_25 : decode cX1_succeedsAt 25 = .ok (.irem, 1) := by decide +kernel
theorem dX1_succeedsAt_26 : decode cX1_succeedsAt 26 = .ok (.ifCond .ne 7, 3) := by decide +kernel
theorem dX1_succeedsAt_29 : decode cX1_succeedsAt 29 = .ok (.iconst 1, 1) := by decide +kernel
theorem dX1_succeedsAt_30 : decode cX1_succeedsAt 30 = .ok (.goto 4, 3) := by decide +kernel
theorem dX1_succeedsAt_33 : decode cX1_succeedsAt 33 = .ok (.iconst 0, 1) := by decide +kernel
theorem dX1_succeedsAt_34 : decode cX1_succeedsAt 34 = .ok (.istore_n 2, 1) := by decide +kernel
theorem dX1_succeedsAt_35 : decode cX1_succeedsAt 35 = .ok (.aload_n 0, 1) := by decide +kernel
theorem dX1_succeedsAt_36 : decode cX1_succeedsAt 36 = .ok (.getfield 9, 3) := by decide +kernel
theorem dX1_succeedsAt_39 : decode cX1_succeedsAt 39 = .ok (.ifCond .eq 19, 3) := by decide +kernel
theorem dX1_succeedsAt_42 : decode cX1_succeedsAt 42 = .ok (.iload_n 2, 1) := by decide +kernel
theorem dX1_succeedsAt_43 : decode cX1_succeedsAt 43 = .ok (.ifCond .ne 15, 3) := by decide +kernel
theorem dX1_succeedsAt_46 : decode cX1_succeedsAt 46 = .ok (.aload_n 0, 1) := by decide +kernel
theorem dX1_succeedsAt_47 : decode cX1_succeedsAt 47 = .ok (.iconst 0, 1) := by decide +kernel
theorem dX1_succeedsAt_48 : decode cX1_succeedsAt 48 = .ok (.putfield 31, 3) := by decide +kernel
theorem dX1_succeedsAt_51 : decode cX1_succeedsAt 51 = .ok (.aload_n 0, 1) := by decide +kernel
theorem dX1_succeedsAt_52 : decode cX1_succeedsAt 52 = .ok (.iconst 0, 1) := by decide +kernel
theorem dX1_succeedsAt_53 : decode cX1_succeedsAt 53 = .ok (.putfield 34, 3) := by decide +kernel
theorem dX1_succeedsAt_56 : decode cX1_succeedsAt 56 = .ok (.iconst 1, 1) := by decide +kernel
theorem dX1_succeedsAt_57 : decode cX1_succeedsAt 57 = .ok (.ireturn, 1) := by decide +kernel
theorem dX1_succeedsAt_58 : decode cX1_succeedsAt 58 = .ok (.aload_n 0, 1) := by decide +kernel
theorem dX1_succeedsAt_59 : decode cX1_succeedsAt 59 = .ok (.dup, 1) := by decide +kernel
theorem dX1_succeedsAt_60 : decode cX1_succeedsAt 60 = .ok (.getfield 31, 3) := by decide +kernel
theorem dX1_succeedsAt_63 : decode cX1_succeedsAt 63 = .ok (.iconst 1, 1) := by decide +kernel
theorem dX1_succeedsAt_64 : decode cX1_succeedsAt 64 = .ok (.iadd, 1) := by decide +kernel
theorem dX1_succeedsAt_65 : decode cX1_succeedsAt 65 = .ok (.putfield 31, 3) := by decide +kernel
theorem dX1_succeedsAt_68 : decode cX1_succeedsAt 68 = .ok (.aload_n 0, 1) := by decide +kernel
theorem dX1_succeedsAt_69 : decode cX1_succeedsAt 69 = .ok (.getfield 31, 3) := by decide +kernel
theorem dX1_succeedsAt_72 : decode cX1_succeedsAt 72 = .ok (.iconst 5, 1) := by decide +kernel
theorem dX1_succeedsAt_73 : decode cX1_succeedsAt 73 = .ok (.if_icmp .ge 12, 3) := by decide +kernel
theorem dX1_succeedsAt_76 : decode cX1_succeedsAt 76 = .ok (.aload_n 0, 1) := by decide +kernel
theorem dX1_succeedsAt_77 : decode cX1_succeedsAt 77 = .ok (.iload_n 1, 1) := by decide +kernel
theorem dX1_succeedsAt_78 : decode cX1_succeedsAt 78 = .ok (.invokevirtual 40, 3) := by decide +kernel
theorem dX1_succeedsAt_81 : decode cX1_succeedsAt 81 = .ok (.iconst 2, 1) := by decide +kernel
theorem dX1_succeedsAt_82 : decode cX1_succeedsAt 82 = .ok (.if_icmp .ne 16, 3) := by decide +kernel
theorem dX1_succeedsAt_85 : decode cX1_succeedsAt 85 = .ok (.aload_n 0, 1) := by decide +kernel
theorem dX1_succeedsAt_86 : decode cX1_succeedsAt 86 = .ok (.iconst 1, 1) := by decide +kernel
theorem dX1_succeedsAt_87 : decode cX1_succeedsAt 87 = .ok (.putfield 34, 3) := by decide +kernel
theorem dX1_succeedsAt_90 : decode cX1_succeedsAt 90 = .ok (.aload_n 0, 1) := by decide +kernel
theorem dX1_succeedsAt_91 : decode cX1_succeedsAt 91 = .ok (.iload_n 1, 1) := by decide +kernel
theorem dX1_succeedsAt_92 : decode cX1_succeedsAt 92 = .ok (.bipush 10, 2) := by decide +kernel
theorem dX1_succeedsAt_94 : decode cX1_succeedsAt 94 = .ok (.iadd, 1) := by decide +kernel
theorem dX1_succeedsAt_95 : decode cX1_succeedsAt 95 = .ok (.putfield 37, 3) := by decide +kernel
theorem dX1_succeedsAt_98 : decode cX1_succeedsAt 98 = .ok (.iconst 0, 1) := by decide +kernel
theorem dX1_succeedsAt_99 : decode cX1_succeedsAt 99 = .ok (.ireturn, 1) := by decide +kernel
theorem dX2_init_0 : decode cX2_init 0 = .ok (.aload_n 0, 1) := by decide +kernel
theorem dX2_init_1 : decode cX2_init 1 = .ok (.invokespecial 3, 3) := by decide +kernel
theorem dX2_init_4 : decode cX2_init 4 = .ok (.aload_n 0, 1) := by decide +kernel
theorem dX2_init_5 : decode cX2_init 5 = .ok (.iconst 0, 1) := by decide +kernel
theorem dX2_init_6 : decode cX2_init 6 = .ok (.putfield 9, 3) := by decide +kernel
theorem dX2_init_9 : decode cX2_init 9 = .ok (.aload_n 0, 1) := by decide +kernel
theorem dX2_init_10 : decode cX2_init 10 = .ok (.aload_n 1, 1) := by decide +kernel
theorem dX2_init_11 : decode cX2_init 11 = .ok (.putfield 15, 3) := by decide +kernel
theorem dX2_init_14 : decode cX2_init 14 = .ok (.aload_n 0, 1) := by decide +kernel
theorem dX2_init_15 : decode cX2_init 15 = .ok (.iload_n 2, 1) := by decide +kernel
theorem dX2_init_16 : decode cX2_init 16 = .ok (.putfield 19, 3) := by decide +kernel
theorem dX2_init_19 : decode cX2_init 19 = .ok (.aload_n 0, 1) := by decide +kernel
theorem dX2_init_20 : decode cX2_init 20 = .ok (.iload_n 3, 1) := by decide +kernel
theorem dX2_init_21 : decode cX2_init 21 = .ok (.putfield 22, 3) := by decide +kernel
theorem dX2_init_24 : decode cX2_init 24 = .ok (.return_, 1) := by decide +kernel
theorem dX2_isSettledAt_0 : decode cX2_isSettledAt 0 = .ok (.iload_n 1, 1) := by decide +kernel
theorem dX2_isSettledAt_1 : decode cX2_isSettledAt 1 = .ok (.aload_n 0, 1) := by decide +kernel
theorem dX2_isSettledAt_2 : decode cX2_isSettledAt 2 = .ok (.getfield 22, 3) := by decide +kernel
theorem dX2_isSettledAt_5 : decode cX2_isSettledAt 5 = .ok (.bipush 30, 2) := by decide +kernel
theorem dX2_isSettledAt_7 : decode cX2_isSettledAt 7 = .ok (.iadd, 1) := by decide +kernel
theorem dX2_isSettledAt_8 : decode cX2_isSettledAt 8 = .ok (.if_icmp .le 7, 3) := by decide +kernel
theorem dX2_isSettledAt_11 : decode cX2_isSettledAt 11 = .ok (.iconst 1, 1) := by decide +kernel
theorem dX2_isSettledAt_12 : decode cX2_isSettledAt 12 = .ok (.goto 4, 3) := by decide +kernel
theorem dX2_isSettledAt_15 : decode cX2_isSettledAt 15 = .ok (.iconst 0, 1) := by decide +kernel
theorem dX2_isSettledAt_16 : decode cX2_isSettledAt 16 = .ok (.ireturn, 1) := by decide +kernel
theorem dX2_isDueFrom_0 : decode cX2_isDueFrom 0 = .ok (.aload_n 0, 1) := by decide +kernel
theorem dX2_isDueFrom_1 : decode cX2_isDueFrom 1 = .ok (.getfield 9, 3) := by decide +kernel
theorem dX2_isDueFrom_4 : decode cX2_isDueFrom 4 = .ok (.ifCond .ne 26, 3) := by decide +kernel
theorem dX2_isDueFrom_7 : decode cX2_isDueFrom 7 = .ok (.aload_n 0, 1) := by decide +kernel
theorem dX2_isDueFrom_8 : decode cX2_isDueFrom 8 = .ok (.getfield 15, 3) := by decide +kernel
theorem dX2_isDueFrom_11 : decode cX2_isDueFrom 11 = .ok (.getfield 25, 3) := by decide +kernel
theorem dX2_isDueFrom_14 : decode cX2_isDueFrom 14 = .ok (.iload_n 1, 1) := by decide +kernel
theorem dX2_isDueFrom_15 : decode cX2_isDueFrom 15 = .ok (.if_icmp .ne 15, 3) := by decide +kernel
theorem dX2_isDueFrom_18 : decode cX2_isDueFrom 18 = .ok (.aload_n 0, 1) := by decide +kernel
theorem dX2_isDueFrom_19 : decode cX2_isDueFrom 19 = .ok (.iload_n 2, 1) := by decide +kernel
theorem dX2_isDueFrom_20 : decode cX2_isDueFrom 20 = .ok (.invokevirtual 30, 3) := by decide +kernel
theorem dX2_isDueFrom_23 : decode cX2_isDueFrom 23 = .ok (.ifCond .eq 7, 3) := by decide +kernel
theorem dX2_isDueFrom_26 : decode cX2_isDueFrom 26 = .ok (.iconst 1, 1) := by decide +kernel
theorem dX2_isDueFrom_27 : decode cX2_isDueFrom 27 = .ok (.goto 4, 3) := by decide +kernel
theorem dX2_isDueFrom_30 : decode cX2_isDueFrom 30 = .ok (.iconst 0, 1) := by decide +kernel
theorem dX2_isDueFrom_31 : decode cX2_isDueFrom 31 = .ok (.ireturn, 1) := by decide +kernel
theorem dX3_init_0 : decode cX3_init 0 = .ok (.aload_n 0, 1) := by decide +kernel
theorem dX3_init_1 : decode cX3_init 1 = .ok (.invokespecial 1, 3) := by decide +kernel
theorem dX3_init_4 : decode cX3_init 4 = .ok (.aload_n 0, 1) := by decide +kernel
theorem dX3_init_5 : decode cX3_init 5 = .ok (.aload_n 1, 1) := by decide +kernel
theorem dX3_init_6 : decode cX3_init 6 = .ok (.iconst 0, 1) := by decide +kernel
theorem dX3_init_7 : decode cX3_init 7 = .ok (.invokevirtual 9, 3) := by decide +kernel
theorem dX3_init_10 : decode cX3_init 10 = .ok (.putfield 13, 3) := by decide +kernel
theorem dX3_init_13 : decode cX3_init 13 = .ok (.aload_n 0, 1) := by decide +kernel
theorem dX3_init_14 : decode cX3_init 14 = .ok (.aload_n 1, 1) := by decide +kernel
theorem dX3_init_15 : decode cX3_init 15 = .ok (.iconst 1, 1) := by decide +kernel
theorem dX3_init_16 : decode cX3_init 16 = .ok (.invokevirtual 9, 3) := by decide +kernel
theorem dX3_init_19 : decode cX3_init 19 = .ok (.putfield 19, 3) := by decide +kernel
theorem dX3_init_22 : decode cX3_init 22 = .ok (.aload_n 0, 1) := by decide +kernel
theorem dX3_init_23 : decode cX3_init 23 = .ok (.aload_n 1, 1) := by decide +kernel
theorem dX3_init_24 : decode cX3_init 24 = .ok (.iconst 2, 1) := by decide +kernel
theorem dX3_init_25 : decode cX3_init 25 = .ok (.invokevirtual 9, 3) := by decide +kernel
theorem dX3_init_28 : decode cX3_init 28 = .ok (.putfield 22, 3) := by decide +kernel
theorem dX3_init_31 : decode cX3_init 31 = .ok (.aload_n 0, 1) := by decide +kernel
theorem dX3_init_32 : decode cX3_init 32 = .ok (.aload_n 1, 1) := by decide +kernel
theorem dX3_init_33 : decode cX3_init 33 = .ok (.iconst 3, 1) := by decide +kernel
theorem dX3_init_34 : decode cX3_init 34 = .ok (.invokevirtual 9, 3) := by decide +kernel
theorem dX3_init_37 : decode cX3_init 37 = .ok (.putfield 25, 3) := by decide +kernel
theorem dX3_init_40 : decode cX3_init 40 = .ok (.aload_n 0, 1) := by decide +kernel
theorem dX3_init_41 : decode cX3_init 41 = .ok (.aload_n 1, 1) := by decide +kernel
theorem dX3_init_42 : decode cX3_init 42 = .ok (.iconst 4, 1) := by decide +kernel
theorem dX3_init_43 : decode cX3_init 43 = .ok (.invokevirtual 9, 3) := by decide +kernel
theorem dX3_init_46 : decode cX3_init 46 = .ok (.putfield 28, 3) := by decide +kernel
theorem dX3_init_49 : decode cX3_init 49 = .ok (.aload_n 0, 1) := by decide +kernel
theorem dX3_init_50 : decode cX3_init 50 = .ok (.aload_n 1, 1) := by decide +kernel
theorem dX3_init_51 : decode cX3_init 51 = .ok (.iconst 5, 1) := by decide +kernel
theorem dX3_init_52 : decode cX3_init 52 = .ok (.invokevirtual 9, 3) := by decide +kernel
theorem dX3_init_55 : decode cX3_init 55 = .ok (.iconst 1, 1) := by decide +kernel
theorem dX3_init_56 : decode cX3_init 56 = .ok (.if_icmp .ne 7, 3) := by decide +kernel
theorem dX3_init_59 : decode cX3_init 59 = .ok (.iconst 1, 1) := by decide +kernel
theorem dX3_init_60 : decode cX3_init 60 = .ok (.goto 4, 3) := by decide +kernel
theorem dX3_init_63 : decode cX3_init 63 = .ok (.iconst 0, 1) := by decide +kernel
theorem dX3_init_64 : decode cX3_init 64 = .ok (.putfield 31, 3) := by decide +kernel
theorem dX3_init_67 : decode cX3_init 67 = .ok (.aload_n 0, 1) := by decide +kernel
theorem dX3_init_68 : decode cX3_init 68 = .ok (.aload_n 2, 1) := by decide +kernel
theorem dX3_init_69 : decode cX3_init 69 = .ok (.putfield 35, 3) := by decide +kernel
theorem dX3_init_72 : decode cX3_init 72 = .ok (.aload_n 0, 1) := by decide +kernel
theorem dX3_init_73 : decode cX3_init 73 = .ok (.iload_n 3, 1) := by decide +kernel
theorem dX3_init_74 : decode cX3_init 74 = .ok (.putfield 39, 3) := by decide +kernel
theorem dX3_init_77 : decode cX3_init 77 = .ok (.return_, 1) := by decide +kernel
theorem dX3_isFixedAt_0 : decode cX3_isFixedAt 0 = .ok (.iload_n 1, 1) := by decide +kernel
theorem dX3_isFixedAt_1 : decode cX3_isFixedAt 1 = .ok (.aload_n 0, 1) := by decide +kernel
theorem dX3_isFixedAt_2 : decode cX3_isFixedAt 2 = .ok (.getfield 39, 3) := by decide +kernel
theorem dX3_isFixedAt_5 : decode cX3_isFixedAt 5 = .ok (.if_icmp .ge 7, 3) := by decide +kernel
theorem dX3_isFixedAt_8 : decode cX3_isFixedAt 8 = .ok (.iconst 1, 1) := by decide +kernel
theorem dX3_isFixedAt_9 : decode cX3_isFixedAt 9 = .ok (.goto 4, 3) := by decide +kernel
theorem dX3_isFixedAt_12 : decode cX3_isFixedAt 12 = .ok (.iconst 0, 1) := by decide +kernel
theorem dX3_isFixedAt_13 : decode cX3_isFixedAt 13 = .ok (.ireturn, 1) := by decide +kernel
theorem dX3_isOnLaneOf_0 : decode cX3_isOnLaneOf 0 = .ok (.aload_n 0, 1) := by decide +kernel
theorem dX3_isOnLaneOf_1 : decode cX3_isOnLaneOf 1 = .ok (.getfield 13, 3) := by decide +kernel
theorem dX3_isOnLaneOf_4 : decode cX3_isOnLaneOf 4 = .ok (.aload_n 1, 1) := by decide +kernel
theorem dX3_isOnLaneOf_5 : decode cX3_isOnLaneOf 5 = .ok (.iconst 0, 1) := by decide +kernel
theorem dX3_isOnLaneOf_6 : decode cX3_isOnLaneOf 6 = .ok (.invokevirtual 9, 3) := by decide +kernel
theorem dX3_isOnLaneOf_9 : decode cX3_isOnLaneOf 9 = .ok (.if_icmp .ne 43, 3) := by decide +kernel
theorem dX3_isOnLaneOf_12 : decode cX3_isOnLaneOf 12 = .ok (.aload_n 0, 1) := by decide +kernel
theorem dX3_isOnLaneOf_13 : decode cX3_isOnLaneOf 13 = .ok (.getfield 19, 3) := by decide +kernel
theorem dX3_isOnLaneOf_16 : decode cX3_isOnLaneOf 16 = .ok (.aload_n 1, 1) := by decide +kernel
theorem dX3_isOnLaneOf_17 : decode cX3_isOnLaneOf 17 = .ok (.iconst 1, 1) := by decide +kernel
theorem dX3_isOnLaneOf_18 : decode cX3_isOnLaneOf 18 = .ok (.invokevirtual 9, 3) := by decide +kernel
theorem dX3_isOnLaneOf_21 : decode cX3_isOnLaneOf 21 = .ok (.if_icmp .ne 31, 3) := by decide +kernel
theorem dX3_isOnLaneOf_24 : decode cX3_isOnLaneOf 24 = .ok (.aload_n 0, 1) := by decide +kernel
theorem dX3_isOnLaneOf_25 : decode cX3_isOnLaneOf 25 = .ok (.getfield 22, 3) := by decide +kernel
theorem dX3_isOnLaneOf_28 : decode cX3_isOnLaneOf 28 = .ok (.aload_n 1, 1) := by decide +kernel
theorem dX3_isOnLaneOf_29 : decode cX3_isOnLaneOf 29 = .ok (.iconst 2, 1) := by decide +kernel
theorem dX3_isOnLaneOf_30 : decode cX3_isOnLaneOf 30 = .ok (.invokevirtual 9, 3) := by decide +kernel
theorem dX3_isOnLaneOf_33 : decode cX3_isOnLaneOf 33 = .ok (.if_icmp .ne 19, 3) := by decide +kernel
theorem dX3_isOnLaneOf_36 : decode cX3_isOnLaneOf 36 = .ok (.aload_n 0, 1) := by decide +kernel
theorem dX3_isOnLaneOf_37 : decode cX3_isOnLaneOf 37 = .ok (.getfield 25, 3) := by decide +kernel
theorem dX3_isOnLaneOf_40 : decode cX3_isOnLaneOf 40 = .ok (.aload_n 1, 1) := by decide +kernel
theorem dX3_isOnLaneOf_41 : decode cX3_isOnLaneOf 41 = .ok (.iconst 3, 1) := by decide +kernel
theorem dX3_isOnLaneOf_42 : decode cX3_isOnLaneOf 42 = .ok (.invokevirtual 9, 3) := by decide +kernel
theorem dX3_isOnLaneOf_45 : decode cX3_isOnLaneOf 45 = .ok (.if_icmp .ne 7, 3) := by decide +kernel
theorem dX3_isOnLaneOf_48 : decode cX3_isOnLaneOf 48 = .ok (.iconst 1, 1) := by decide +kernel
theorem dX3_isOnLaneOf_49 : decode cX3_isOnLaneOf 49 = .ok (.goto 4, 3) := by decide +kernel
theorem dX3_isOnLaneOf_52 : decode cX3_isOnLaneOf 52 = .ok (.iconst 0, 1) := by decide +kernel
theorem dX3_isOnLaneOf_53 : decode cX3_isOnLaneOf 53 = .ok (.ireturn, 1) := by decide +kernel
theorem dX3_priceBy_0 : decode cX3_priceBy 0 = .ok (.iload_n 2, 1) := by decide +kernel
theorem dX3_priceBy_1 : decode cX3_priceBy 1 = .ok (.bipush 99, 2) := by decide +kernel
theorem dX3_priceBy_3 : decode cX3_priceBy 3 = .ok (.iadd, 1) := by decide +kernel
theorem dX3_priceBy_4 : decode cX3_priceBy 4 = .ok (.bipush 100, 2) := by decide +kernel
theorem dX3_priceBy_6 : decode cX3_priceBy 6 = .ok (.idiv, 1) := by decide +kernel
theorem dX3_priceBy_7 : decode cX3_priceBy 7 = .ok (.istore_n 3, 1) := by decide +kernel
theorem dX3_priceBy_8 : decode cX3_priceBy 8 = .ok (.aload_n 1, 1) := by decide +kernel
theorem dX3_priceBy_9 : decode cX3_priceBy 9 = .ok (.getfield 42, 3) := by decide +kernel
theorem dX3_priceBy_12 : decode cX3_priceBy 12 = .ok (.aload_n 1, 1) := by decide +kernel
theorem dX3_priceBy_13 : decode cX3_priceBy 13 = .ok (.getfield 47, 3) := by decide +kernel
theorem dX3_priceBy_16 : decode cX3_priceBy 16 = .ok (.aload_n 0, 1) := by decide +kernel
theorem dX3_priceBy_17 : decode cX3_priceBy 17 = .ok (.getfield 22, 3) := by decide +kernel
theorem dX3_priceBy_20 : decode cX3_priceBy 20 = .ok (.aload_n 0, 1) := by decide +kernel
theorem dX3_priceBy_21 : decode cX3_priceBy 21 = .ok (.getfield 25, 3) := by decide +kernel
theorem dX3_priceBy_24 : decode cX3_priceBy 24 = .ok (.isub, 1) := by decide +kernel
theorem dX3_priceBy_25 : decode cX3_priceBy 25 = .ok (.invokestatic 50, 3) := by decide +kernel
theorem dX3_priceBy_28 : decode cX3_priceBy 28 = .ok (.imul, 1) := by decide +kernel
theorem dX3_priceBy_29 : decode cX3_priceBy 29 = .ok (.iadd, 1) := by decide +kernel
theorem dX3_priceBy_30 : decode cX3_priceBy 30 = .ok (.aload_n 1, 1) := by decide +kernel
theorem dX3_priceBy_31 : decode cX3_priceBy 31 = .ok (.getfield 55, 3) := by decide +kernel
theorem dX3_priceBy_34 : decode cX3_priceBy 34 = .ok (.iload_n 3, 1) := by decide +kernel
theorem dX3_priceBy_35 : decode cX3_priceBy 35 = .ok (.imul, 1) := by decide +kernel
theorem dX3_priceBy_36 : decode cX3_priceBy 36 = .ok (.iadd, 1) := by decide +kernel
theorem dX3_priceBy_37 : decode cX3_priceBy 37 = .ok (.istore 4, 2) := by decide +kernel
theorem dX3_priceBy_39 : decode cX3_priceBy 39 = .ok (.aload_n 0, 1) := by decide +kernel
theorem dX3_priceBy_40 : decode cX3_priceBy 40 = .ok (.getfield 31, 3) := by decide +kernel
theorem dX3_priceBy_43 : decode cX3_priceBy 43 = .ok (.ifCond .eq 12, 3) := by decide +kernel
theorem dX3_priceBy_46 : decode cX3_priceBy 46 = .ok (.iload 4, 2) := by decide +kernel
theorem dX3_priceBy_48 : decode cX3_priceBy 48 = .ok (.iconst 3, 1) := by decide +kernel
theorem dX3_priceBy_49 : decode cX3_priceBy 49 = .ok (.imul, 1) := by decide +kernel
theorem dX3_priceBy_50 : decode cX3_priceBy 50 = .ok (.iconst 2, 1) := by decide +kernel
theorem dX3_priceBy_51 : decode cX3_priceBy 51 = .ok (.idiv, 1) := by decide +kernel
theorem dX3_priceBy_52 : decode cX3_priceBy 52 = .ok (.goto 5, 3) := by decide +kernel
theorem dX3_priceBy_55 : decode cX3_priceBy 55 = .ok (.iload 4, 2) := by decide +kernel
theorem dX3_priceBy_57 : decode cX3_priceBy 57 = .ok (.ireturn, 1) := by decide +kernel
theorem dX4_init_0 : decode cX4_init 0 = .ok (.aload_n 0, 1) := by decide +kernel
theorem dX4_init_1 : decode cX4_init 1 = .ok (.invokespecial 3, 3) := by decide +kernel
theorem dX4_init_4 : decode cX4_init 4 = .ok (.aload_n 0, 1) := by decide +kernel
theorem dX4_init_5 : decode cX4_init 5 = .ok (.bipush 60, 2) := by decide +kernel
theorem dX4_init_7 : decode cX4_init 7 = .ok (.newarray .char, 2) := by decide +kernel
theorem dX4_init_9 : decode cX4_init 9 = .ok (.putfield 11, 3) := by decide +kernel
theorem dX4_init_12 : decode cX4_init 12 = .ok (.aload_n 0, 1) := by decide +kernel
theorem dX4_init_13 : decode cX4_init 13 = .ok (.bipush 6, 2) := by decide +kernel
theorem dX4_init_15 : decode cX4_init 15 = .ok (.newarray .int, 2) := by decide +kernel
theorem dX4_init_17 : decode cX4_init 17 = .ok (.putfield 15, 3) := by decide +kernel
theorem dX4_init_20 : decode cX4_init 20 = .ok (.aload_n 0, 1) := by decide +kernel
theorem dX4_init_21 : decode cX4_init 21 = .ok (.iconst 0, 1) := by decide +kernel
theorem dX4_init_22 : decode cX4_init 22 = .ok (.putfield 19, 3) := by decide +kernel
theorem dX4_init_25 : decode cX4_init 25 = .ok (.aload_n 0, 1) := by decide +kernel
theorem dX4_init_26 : decode cX4_init 26 = .ok (.ldc 23, 2) := by decide +kernel
theorem dX4_init_28 : decode cX4_init 28 = .ok (.putfield 25, 3) := by decide +kernel
theorem dX4_init_31 : decode cX4_init 31 = .ok (.aload_n 0, 1) := by decide +kernel
theorem dX4_init_32 : decode cX4_init 32 = .ok (.bipush 32, 2) := by decide +kernel
theorem dX4_init_34 : decode cX4_init 34 = .ok (.putfield 29, 3) := by decide +kernel
theorem dX4_init_37 : decode cX4_init 37 = .ok (.return_, 1) := by decide +kernel
theorem dX4_isTypable_0 : decode cX4_isTypable 0 = .ok (.iload_n 0, 1) := by decide +kernel
theorem dX4_isTypable_1 : decode cX4_isTypable 1 = .ok (.bipush 65, 2) := by decide +kernel
theorem dX4_isTypable_3 : decode cX4_isTypable 3 = .ok (.if_icmp .lt 9, 3) := by decide +kernel
theorem dX4_isTypable_6 : decode cX4_isTypable 6 = .ok (.iload_n 0, 1) := by decide +kernel
theorem dX4_isTypable_7 : decode cX4_isTypable 7 = .ok (.bipush 90, 2) := by decide +kernel
theorem dX4_isTypable_9 : decode cX4_isTypable 9 = .ok (.if_icmp .le 22, 3) := by decide +kernel
theorem dX4_isTypable_12 : decode cX4_isTypable 12 = .ok (.iload_n 0, 1) := by decide +kernel
theorem dX4_isTypable_13 : decode cX4_isTypable 13 = .ok (.invokestatic 33, 3) := by decide +kernel
theorem dX4_isTypable_16 : decode cX4_isTypable 16 = .ok (.ifCond .ne 15, 3) := by decide +kernel
theorem dX4_isTypable_19 : decode cX4_isTypable 19 = .ok (.iload_n 0, 1) := by decide +kernel
theorem dX4_isTypable_20 : decode cX4_isTypable 20 = .ok (.bipush 61, 2) := by decide +kernel
theorem dX4_isTypable_22 : decode cX4_isTypable 22 = .ok (.if_icmp .eq 9, 3) := by decide +kernel
theorem dX4_isTypable_25 : decode cX4_isTypable 25 = .ok (.iload_n 0, 1) := by decide +kernel
theorem dX4_isTypable_26 : decode cX4_isTypable 26 = .ok (.bipush 59, 2) := by decide +kernel
theorem dX4_isTypable_28 : decode cX4_isTypable 28 = .ok (.if_icmp .ne 7, 3) := by decide +kernel
theorem dX4_isTypable_31 : decode cX4_isTypable 31 = .ok (.iconst 1, 1) := by decide +kernel
theorem dX4_isTypable_32 : decode cX4_isTypable 32 = .ok (.goto 4, 3) := by decide +kernel
theorem dX4_isTypable_35 : decode cX4_isTypable 35 = .ok (.iconst 0, 1) := by decide +kernel
theorem dX4_isTypable_36 : decode cX4_isTypable 36 = .ok (.ireturn, 1) := by decide +kernel
theorem dX4_isFull_0 : decode cX4_isFull 0 = .ok (.aload_n 0, 1) := by decide +kernel
theorem dX4_isFull_1 : decode cX4_isFull 1 = .ok (.getfield 19, 3) := by decide +kernel
theorem dX4_isFull_4 : decode cX4_isFull 4 = .ok (.aload_n 0, 1) := by decide +kernel
theorem dX4_isFull_5 : decode cX4_isFull 5 = .ok (.getfield 11, 3) := by decide +kernel
theorem dX4_isFull_8 : decode cX4_isFull 8 = .ok (.arraylength, 1) := by decide +kernel
theorem dX4_isFull_9 : decode cX4_isFull 9 = .ok (.if_icmp .lt 7, 3) := by decide +kernel
theorem dX4_isFull_12 : decode cX4_isFull 12 = .ok (.iconst 1, 1) := by decide +kernel
theorem dX4_isFull_13 : decode cX4_isFull 13 = .ok (.goto 4, 3) := by decide +kernel
theorem dX4_isFull_16 : decode cX4_isFull 16 = .ok (.iconst 0, 1) := by decide +kernel
theorem dX4_isFull_17 : decode cX4_isFull 17 = .ok (.ireturn, 1) := by decide +kernel
theorem dX4_append_0 : decode cX4_append 0 = .ok (.aload_n 0, 1) := by decide +kernel
theorem dX4_append_1 : decode cX4_append 1 = .ok (.getfield 19, 3) := by decide +kernel
theorem dX4_append_4 : decode cX4_append 4 = .ok (.aload_n 0, 1) := by decide +kernel
theorem dX4_append_5 : decode cX4_append 5 = .ok (.getfield 11, 3) := by decide +kernel
theorem dX4_append_8 : decode cX4_append 8 = .ok (.arraylength, 1) := by decide +kernel
theorem dX4_append_9 : decode cX4_append 9 = .ok (.if_icmp .ge 23, 3) := by decide +kernel
theorem dX4_append_12 : decode cX4_append 12 = .ok (.aload_n 0, 1) := by decide +kernel
theorem dX4_append_13 : decode cX4_append 13 = .ok (.getfield 11, 3) := by decide +kernel
theorem dX4_append_16 : decode cX4_append 16 = .ok (.aload_n 0, 1) := by decide +kernel
theorem dX4_append_17 : decode cX4_append 17 = .ok (.getfield 19, 3) := by decide +kernel
theorem dX4_append_20 : decode cX4_append 20 = .ok (.iload_n 1, 1) := by decide +kernel
theorem dX4_append_21 : decode cX4_append 21 = .ok (.castore, 1) := by decide +kernel
theorem dX4_append_22 : decode cX4_append 22 = .ok (.aload_n 0, 1) := by decide +kernel
theorem dX4_append_23 : decode cX4_append 23 = .ok (.dup, 1) := by decide +kernel
theorem dX4_append_24 : decode cX4_append 24 = .ok (.getfield 19, 3) := by decide +kernel
theorem dX4_append_27 : decode cX4_append 27 = .ok (.iconst 1, 1) := by decide +kernel
theorem dX4_append_28 : decode cX4_append 28 = .ok (.iadd, 1) := by decide +kernel
theorem dX4_append_29 : decode cX4_append 29 = .ok (.putfield 19, 3) := by decide +kernel
theorem dX4_append_32 : decode cX4_append 32 = .ok (.aload_n 0, 1) := by decide +kernel
theorem dX4_append_33 : decode cX4_append 33 = .ok (.getfield 19, 3) := by decide +kernel
theorem dX4_append_36 : decode cX4_append 36 = .ok (.ireturn, 1) := by decide +kernel
theorem dX4_empty_0 : decode cX4_empty 0 = .ok (.aload_n 0, 1) := by decide +kernel
theorem dX4_empty_1 : decode cX4_empty 1 = .ok (.getfield 19, 3) := by decide +kernel
theorem dX4_empty_4 : decode cX4_empty 4 = .ok (.istore_n 1, 1) := by decide +kernel
theorem dX4_empty_5 : decode cX4_empty 5 = .ok (.aload_n 0, 1) := by decide +kernel
theorem dX4_empty_6 : decode cX4_empty 6 = .ok (.iconst 0, 1) := by decide +kernel
theorem dX4_empty_7 : decode cX4_empty 7 = .ok (.putfield 19, 3) := by decide +kernel
theorem dX4_empty_10 : decode cX4_empty 10 = .ok (.iload_n 1, 1) := by decide +kernel
theorem dX4_empty_11 : decode cX4_empty 11 = .ok (.ireturn, 1) := by decide +kernel
theorem dX4_faultText_0 : decode cX4_faultText 0 = .ok (.aload_n 0, 1) := by decide +kernel
theorem dX4_faultText_1 : decode cX4_faultText 1 = .ok (.invokevirtual 37, 3) := by decide +kernel
theorem dX4_faultText_4 : decode cX4_faultText 4 = .ok (.aload_n 0, 1) := by decide +kernel
theorem dX4_faultText_5 : decode cX4_faultText 5 = .ok (.getfield 25, 3) := by decide +kernel
theorem dX4_faultText_8 : decode cX4_faultText 8 = .ok (.invokevirtual 40, 3) := by decide +kernel
theorem dX4_faultText_11 : decode cX4_faultText 11 = .ok (.ifCond .eq 6, 3) := by decide +kernel
theorem dX4_faultText_14 : decode cX4_faultText 14 = .ok (.ldc 23, 2) := by decide +kernel
theorem dX4_faultText_16 : decode cX4_faultText 16 = .ok (.areturn, 1) := by decide +kernel
theorem dX4_faultText_17 : decode cX4_faultText 17 = .ok (.new 46, 3) := by decide +kernel
theorem dX4_faultText_20 : decode cX4_faultText 20 = .ok (.dup, 1) := by decide +kernel
theorem dX4_faultText_21 : decode cX4_faultText 21 = .ok (.invokespecial 48, 3) := by decide +kernel
theorem dX4_faultText_24 : decode cX4_faultText 24 = .ok (.astore_n 1, 1) := by decide +kernel
theorem dX4_faultText_25 : decode cX4_faultText 25 = .ok (.aload_n 1, 1) := by decide +kernel
theorem dX4_faultText_26 : decode cX4_faultText 26 = .ok (.aload_n 0, 1) := by decide +kernel
theorem dX4_faultText_27 : decode cX4_faultText 27 = .ok (.getfield 25, 3) := by decide +kernel
theorem dX4_faultText_30 : decode cX4_faultText 30 = .ok (.invokevirtual 49, 3) := by decide +kernel
theorem dX4_faultText_33 : decode cX4_faultText 33 = .ok (.pop, 1) := by decide +kernel
theorem dX4_faultText_34 : decode cX4_faultText 34 = .ok (.aload_n 1, 1) := by decide +kernel
theorem dX4_faultText_35 : decode cX4_faultText 35 = .ok (.bipush 32, 2) := by decide +kernel
theorem dX4_faultText_37 : decode cX4_faultText 37 = .ok (.invokevirtual 53, 3) := by decide +kernel
theorem dX4_faultText_40 : decode cX4_faultText 40 = .ok (.pop, 1) := by decide +kernel
theorem dX4_faultText_41 : decode cX4_faultText 41 = .ok (.aload_n 1, 1) := by decide +kernel
theorem dX4_faultText_42 : decode cX4_faultText 42 = .ok (.aload_n 0, 1) := by decide +kernel
theorem dX4_faultText_43 : decode cX4_faultText 43 = .ok (.getfield 29, 3) := by decide +kernel
theorem dX4_faultText_46 : decode cX4_faultText 46 = .ok (.invokevirtual 53, 3) := by decide +kernel
theorem dX4_faultText_49 : decode cX4_faultText 49 = .ok (.pop, 1) := by decide +kernel
theorem dX4_faultText_50 : decode cX4_faultText 50 = .ok (.aload_n 1, 1) := by decide +kernel
theorem dX4_faultText_51 : decode cX4_faultText 51 = .ok (.invokevirtual 56, 3) := by decide +kernel
theorem dX4_faultText_54 : decode cX4_faultText 54 = .ok (.areturn, 1) := by decide +kernel
theorem dX4_valueOf_0 : decode cX4_valueOf 0 = .ok (.iload_n 1, 1) := by decide +kernel
theorem dX4_valueOf_1 : decode cX4_valueOf 1 = .ok (.ifCond .lt 21, 3) := by decide +kernel
theorem dX4_valueOf_4 : decode cX4_valueOf 4 = .ok (.iload_n 1, 1) := by decide +kernel
theorem dX4_valueOf_5 : decode cX4_valueOf 5 = .ok (.aload_n 0, 1) := by decide +kernel
theorem dX4_valueOf_6 : decode cX4_valueOf 6 = .ok (.getfield 15, 3) := by decide +kernel
theorem dX4_valueOf_9 : decode cX4_valueOf 9 = .ok (.arraylength, 1) := by decide +kernel
theorem dX4_valueOf_10 : decode cX4_valueOf 10 = .ok (.if_icmp .ge 12, 3) := by decide +kernel
theorem dX4_valueOf_13 : decode cX4_valueOf 13 = .ok (.aload_n 0, 1) := by decide +kernel
theorem dX4_valueOf_14 : decode cX4_valueOf 14 = .ok (.getfield 15, 3) := by decide +kernel
theorem dX4_valueOf_17 : decode cX4_valueOf 17 = .ok (.iload_n 1, 1) := by decide +kernel
theorem dX4_valueOf_18 : decode cX4_valueOf 18 = .ok (.iaload, 1) := by decide +kernel
theorem dX4_valueOf_19 : decode cX4_valueOf 19 = .ok (.goto 4, 3) := by decide +kernel
theorem dX4_valueOf_22 : decode cX4_valueOf 22 = .ok (.iconst (-1), 1) := by decide +kernel
theorem dX4_valueOf_23 : decode cX4_valueOf 23 = .ok (.ireturn, 1) := by decide +kernel
theorem dX4_readText_0 : decode cX4_readText 0 = .ok (.aload_n 0, 1) := by decide +kernel
theorem dX4_readText_1 : decode cX4_readText 1 = .ok (.getfield 15, 3) := by decide +kernel
theorem dX4_readText_4 : decode cX4_readText 4 = .ok (.iconst (-1), 1) := by decide +kernel
theorem dX4_readText_5 : decode cX4_readText 5 = .ok (.invokestatic 60, 3) := by decide +kernel
theorem dX4_readText_8 : decode cX4_readText 8 = .ok (.aload_n 0, 1) := by decide +kernel
theorem dX4_readText_9 : decode cX4_readText 9 = .ok (.ldc 23, 2) := by decide +kernel
theorem dX4_readText_11 : decode cX4_readText 11 = .ok (.putfield 25, 3) := by decide +kernel
theorem dX4_readText_14 : decode cX4_readText 14 = .ok (.iconst 0, 1) := by decide +kernel
theorem dX4_readText_15 : decode cX4_readText 15 = .ok (.istore_n 1, 1) := by decide +kernel
theorem dX4_readText_16 : decode cX4_readText 16 = .ok (.iconst 0, 1) := by decide +kernel
theorem dX4_readText_17 : decode cX4_readText 17 = .ok (.istore_n 2, 1) := by decide +kernel
theorem dX4_readText_18 : decode cX4_readText 18 = .ok (.iload_n 2, 1) := by decide +kernel
theorem dX4_readText_19 : decode cX4_readText 19 = .ok (.aload_n 0, 1) := by decide +kernel
theorem dX4_readText_20 : decode cX4_readText 20 = .ok (.getfield 19, 3) := by decide +kernel
theorem dX4_readText_23 : decode cX4_readText 23 = .ok (.if_icmp .gt 44, 3) := by decide +kernel
theorem dX4_readText_26 : decode cX4_readText 26 = .ok (.iload_n 1, 1) := by decide +kernel
theorem dX4_readText_27 : decode cX4_readText 27 = .ok (.aload_n 0, 1) := by decide +kernel
theorem dX4_readText_28 : decode cX4_readText 28 = .ok (.getfield 19, 3) := by decide +kernel
theorem dX4_readText_31 : decode cX4_readText 31 = .ok (.if_icmp .gt 36, 3) := by decide +kernel
theorem dX4_readText_34 : decode cX4_readText 34 = .ok (.aload_n 0, 1) := by decide +kernel
theorem dX4_readText_35 : decode cX4_readText 35 = .ok (.getfield 25, 3) := by decide +kernel
theorem dX4_readText_38 : decode cX4_readText 38 = .ok (.invokevirtual 40, 3) := by decide +kernel
theorem dX4_readText_41 : decode cX4_readText 41 = .ok (.ifCond .eq 26, 3) := by decide +kernel
theorem dX4_readText_44 : decode cX4_readText 44 = .ok (.aload_n 0, 1) := by decide +kernel
theorem dX4_readText_45 : decode cX4_readText 45 = .ok (.iload_n 1, 1) := by decide +kernel
theorem dX4_readText_46 : decode cX4_readText 46 = .ok (.invokevirtual 66, 3) := by decide +kernel
theorem dX4_readText_49 : decode cX4_readText 49 = .ok (.istore_n 3, 1) := by decide +kernel
theorem dX4_readText_50 : decode cX4_readText 50 = .ok (.aload_n 0, 1) := by decide +kernel
theorem dX4_readText_51 : decode cX4_readText 51 = .ok (.iload_n 2, 1) := by decide +kernel
theorem dX4_readText_52 : decode cX4_readText 52 = .ok (.iload_n 1, 1) := by decide +kernel
theorem dX4_readText_53 : decode cX4_readText 53 = .ok (.iload_n 3, 1) := by decide +kernel
theorem dX4_readText_54 : decode cX4_readText 54 = .ok (.invokevirtual 70, 3) := by decide +kernel
theorem dX4_readText_57 : decode cX4_readText 57 = .ok (.iload_n 3, 1) := by decide +kernel
theorem dX4_readText_58 : decode cX4_readText 58 = .ok (.iconst 1, 1) := by decide +kernel
theorem dX4_readText_59 : decode cX4_readText 59 = .ok (.iadd, 1) := by decide +kernel
theorem dX4_readText_60 : decode cX4_readText 60 = .ok (.istore_n 1, 1) := by decide +kernel
theorem dX4_readText_61 : decode cX4_readText 61 = .ok (.iinc 2 1, 3) := by decide +kernel
theorem dX4_readText_64 : decode cX4_readText 64 = .ok (.goto (-46), 3) := by decide +kernel
theorem dX4_readText_67 : decode cX4_readText 67 = .ok (.aload_n 0, 1) := by decide +kernel
theorem dX4_readText_68 : decode cX4_readText 68 = .ok (.getfield 25, 3) := by decide +kernel
theorem dX4_readText_71 : decode cX4_readText 71 = .ok (.invokevirtual 40, 3) := by decide +kernel
theorem dX4_readText_74 : decode cX4_readText 74 = .ok (.ifCond .eq 7, 3) := by decide +kernel
theorem dX4_readText_77 : decode cX4_readText 77 = .ok (.aload_n 0, 1) := by decide +kernel
theorem dX4_readText_78 : decode cX4_readText 78 = .ok (.invokevirtual 74, 3) := by decide +kernel
theorem dX4_readText_81 : decode cX4_readText 81 = .ok (.return_, 1) := by decide +kernel
theorem dX4_endOfPart_0 : decode cX4_endOfPart 0 = .ok (.iload_n 1, 1) := by decide +kernel
theorem dX4_endOfPart_1 : decode cX4_endOfPart 1 = .ok (.istore_n 2, 1) := by decide +kernel
theorem dX4_endOfPart_2 : decode cX4_endOfPart 2 = .ok (.iload_n 2, 1) := by decide +kernel
theorem dX4_endOfPart_3 : decode cX4_endOfPart 3 = .ok (.aload_n 0, 1) := by decide +kernel
theorem dX4_endOfPart_4 : decode cX4_endOfPart 4 = .ok (.getfield 19, 3) := by decide +kernel
theorem dX4_endOfPart_7 : decode cX4_endOfPart 7 = .ok (.if_icmp .ge 19, 3) := by decide +kernel
theorem dX4_endOfPart_10 : decode cX4_endOfPart 10 = .ok (.aload_n 0, 1) := by decide +kernel
theorem dX4_endOfPart_11 : decode cX4_endOfPart 11 = .ok (.iload_n 2, 1) := by decide +kernel
theorem dX4_endOfPart_12 : decode cX4_endOfPart 12 = .ok (.invokevirtual 77, 3) := by decide +kernel
theorem dX4_endOfPart_15 : decode cX4_endOfPart 15 = .ok (.bipush 59, 2) := by decide +kernel
theorem dX4_endOfPart_17 : decode cX4_endOfPart 17 = .ok (.if_icmp .eq 9, 3) := by decide +kernel
theorem dX4_endOfPart_20 : decode cX4_endOfPart 20 = .ok (.iinc 2 1, 3) := by decide +kernel
theorem dX4_endOfPart_23 : decode cX4_endOfPart 23 = .ok (.goto (-21), 3) := by decide +kernel
theorem dX4_endOfPart_26 : decode cX4_endOfPart 26 = .ok (.iload_n 2, 1) := by decide +kernel
theorem dX4_endOfPart_27 : decode cX4_endOfPart 27 = .ok (.ireturn, 1) := by decide +kernel
theorem dX4_readPart_0 : decode cX4_readPart 0 = .ok (.aload_n 0, 1) := by decide +kernel
theorem dX4_readPart_1 : decode cX4_readPart 1 = .ok (.iload_n 2, 1) := by decide +kernel
theorem dX4_readPart_2 : decode cX4_readPart 2 = .ok (.iload_n 3, 1) := by decide +kernel
theorem dX4_readPart_3 : decode cX4_readPart 3 = .ok (.invokevirtual 81, 3) := by decide +kernel
theorem dX4_readPart_6 : decode cX4_readPart 6 = .ok (.istore 4, 2) := by decide +kernel
theorem dX4_readPart_8 : decode cX4_readPart 8 = .ok (.iload 4, 2) := by decide +kernel
theorem dX4_readPart_10 : decode cX4_readPart 10 = .ok (.ifCond .lt 13, 3) := by decide +kernel
theorem dX4_readPart_13 : decode cX4_readPart 13 = .ok (.iload 4, 2) := by decide +kernel
theorem dX4_readPart_15 : decode cX4_readPart 15 = .ok (.aload_n 0, 1) := by decide +kernel
theorem dX4_readPart_16 : decode cX4_readPart 16 = .ok (.getfield 15, 3) := by decide +kernel
theorem dX4_readPart_19 : decode cX4_readPart 19 = .ok (.arraylength, 1) := by decide +kernel
theorem dX4_readPart_20 : decode cX4_readPart 20 = .ok (.if_icmp .lt 15, 3) := by decide +kernel
theorem dX4_readPart_23 : decode cX4_readPart 23 = .ok (.aload_n 0, 1) := by decide +kernel
theorem dX4_readPart_24 : decode cX4_readPart 24 = .ok (.ldc 85, 2) := by decide +kernel
theorem dX4_readPart_26 : decode cX4_readPart 26 = .ok (.bipush 48, 2) := by decide +kernel
theorem dX4_readPart_28 : decode cX4_readPart 28 = .ok (.iload_n 1, 1) := by decide +kernel
theorem dX4_readPart_29 : decode cX4_readPart 29 = .ok (.iadd, 1) := by decide +kernel
theorem dX4_readPart_30 : decode cX4_readPart 30 = .ok (.i2c, 1) := by decide +kernel
theorem dX4_readPart_31 : decode cX4_readPart 31 = .ok (.invokevirtual 87, 3) := by decide +kernel
theorem dX4_readPart_34 : decode cX4_readPart 34 = .ok (.return_, 1) := by decide +kernel
theorem dX4_readPart_35 : decode cX4_readPart 35 = .ok (.aload_n 0, 1) := by decide +kernel
theorem dX4_readPart_36 : decode cX4_readPart 36 = .ok (.getfield 15, 3) := by decide +kernel
theorem dX4_readPart_39 : decode cX4_readPart 39 = .ok (.iload 4, 2) := by decide +kernel
theorem dX4_readPart_41 : decode cX4_readPart 41 = .ok (.iaload, 1) := by decide +kernel
theorem dX4_readPart_42 : decode cX4_readPart 42 = .ok (.iconst (-1), 1) := by decide +kernel
theorem dX4_readPart_43 : decode cX4_readPart 43 = .ok (.if_icmp .eq 17, 3) := by decide +kernel
theorem dX4_readPart_46 : decode cX4_readPart 46 = .ok (.aload_n 0, 1) := by decide +kernel
theorem dX4_readPart_47 : decode cX4_readPart 47 = .ok (.ldc 91, 2) := by decide +kernel
theorem dX4_readPart_49 : decode cX4_readPart 49 = .ok (.ldc 93, 2) := by decide +kernel
theorem dX4_readPart_51 : decode cX4_readPart 51 = .ok (.iload 4, 2) := by decide +kernel
theorem dX4_readPart_53 : decode cX4_readPart 53 = .ok (.invokevirtual 95, 3) := by decide +kernel
theorem dX4_readPart_56 : decode cX4_readPart 56 = .ok (.invokevirtual 87, 3) := by decide +kernel
theorem dX4_readPart_59 : decode cX4_readPart 59 = .ok (.return_, 1) := by decide +kernel
theorem dX4_readPart_60 : decode cX4_readPart 60 = .ok (.aload_n 0, 1) := by decide +kernel
theorem dX4_readPart_61 : decode cX4_readPart 61 = .ok (.getfield 15, 3) := by decide +kernel
theorem dX4_readPart_64 : decode cX4_readPart 64 = .ok (.iload 4, 2) := by decide +kernel
theorem dX4_readPart_66 : decode cX4_readPart 66 = .ok (.aload_n 0, 1) := by decide +kernel
theorem dX4_readPart_67 : decode cX4_readPart 67 = .ok (.iload 4, 2) := by decide +kernel
theorem dX4_readPart_69 : decode cX4_readPart 69 = .ok (.iload_n 2, 1) := by decide +kernel
theorem dX4_readPart_70 : decode cX4_readPart 70 = .ok (.iconst 2, 1) := by decide +kernel
theorem dX4_readPart_71 : decode cX4_readPart 71 = .ok (.iadd, 1) := by decide +kernel
theorem dX4_readPart_72 : decode cX4_readPart 72 = .ok (.iload_n 3, 1) := by decide +kernel
theorem dX4_readPart_73 : decode cX4_readPart 73 = .ok (.invokevirtual 98, 3) := by decide +kernel
theorem dX4_readPart_76 : decode cX4_readPart 76 = .ok (.iastore, 1) := by decide +kernel
theorem dX4_readPart_77 : decode cX4_readPart 77 = .ok (.aload_n 0, 1) := by decide +kernel
theorem dX4_readPart_78 : decode cX4_readPart 78 = .ok (.getfield 15, 3) := by decide +kernel
theorem dX4_readPart_81 : decode cX4_readPart 81 = .ok (.iload 4, 2) := by decide +kernel
theorem dX4_readPart_83 : decode cX4_readPart 83 = .ok (.iaload, 1) := by decide +kernel
theorem dX4_readPart_84 : decode cX4_readPart 84 = .ok (.iconst (-1), 1) := by decide +kernel
theorem dX4_readPart_85 : decode cX4_readPart 85 = .ok (.if_icmp .ne 16, 3) := by decide +kernel
theorem dX4_readPart_88 : decode cX4_readPart 88 = .ok (.aload_n 0, 1) := by decide +kernel
theorem dX4_readPart_89 : decode cX4_readPart 89 = .ok (.ldc 102, 2) := by decide +kernel
theorem dX4_readPart_91 : decode cX4_readPart 91 = .ok (.ldc 93, 2) := by decide +kernel
theorem dX4_readPart_93 : decode cX4_readPart 93 = .ok (.iload 4, 2) := by decide +kernel
theorem dX4_readPart_95 : decode cX4_readPart 95 = .ok (.invokevirtual 95, 3) := by decide +kernel
theorem dX4_readPart_98 : decode cX4_readPart 98 = .ok (.invokevirtual 87, 3) := by decide +kernel
theorem dX4_readPart_101 : decode cX4_readPart 101 = .ok (.return_, 1) := by decide +kernel
theorem dX4_keyIn_0 : decode cX4_keyIn 0 = .ok (.iload_n 2, 1) := by decide +kernel
theorem dX4_keyIn_1 : decode cX4_keyIn 1 = .ok (.iload_n 1, 1) := by decide +kernel
theorem dX4_keyIn_2 : decode cX4_keyIn 2 = .ok (.isub, 1) := by decide +kernel
theorem dX4_keyIn_3 : decode cX4_keyIn 3 = .ok (.iconst 2, 1) := by decide +kernel
theorem dX4_keyIn_4 : decode cX4_keyIn 4 = .ok (.if_icmp .lt 15, 3) := by decide +kernel
theorem dX4_keyIn_7 : decode cX4_keyIn 7 = .ok (.aload_n 0, 1) := by decide +kernel
theorem dX4_keyIn_8 : decode cX4_keyIn 8 = .ok (.iload_n 1, 1) := by decide +kernel
theorem dX4_keyIn_9 : decode cX4_keyIn 9 = .ok (.iconst 1, 1) := by decide +kernel
theorem dX4_keyIn_10 : decode cX4_keyIn 10 = .ok (.iadd, 1) := by decide +kernel
theorem dX4_keyIn_11 : decode cX4_keyIn 11 = .ok (.invokevirtual 77, 3) := by decide +kernel
theorem dX4_keyIn_14 : decode cX4_keyIn 14 = .ok (.bipush 61, 2) := by decide +kernel
theorem dX4_keyIn_16 : decode cX4_keyIn 16 = .ok (.if_icmp .eq 5, 3) := by decide +kernel
theorem dX4_keyIn_19 : decode cX4_keyIn 19 = .ok (.iconst (-1), 1) := by decide +kernel
theorem dX4_keyIn_20 : decode cX4_keyIn 20 = .ok (.ireturn, 1) := by decide +kernel
theorem dX4_keyIn_21 : decode cX4_keyIn 21 = .ok (.ldc 93, 2) := by decide +kernel
theorem dX4_keyIn_23 : decode cX4_keyIn 23 = .ok (.aload_n 0, 1) := by decide +kernel
theorem dX4_keyIn_24 : decode cX4_keyIn 24 = .ok (.iload_n 1, 1) := by decide +kernel
theorem dX4_keyIn_25 : decode cX4_keyIn 25 = .ok (.invokevirtual 77, 3) := by decide +kernel
theorem dX4_keyIn_28 : decode cX4_keyIn 28 = .ok (.invokevirtual 104, 3) := by decide +kernel
theorem dX4_keyIn_31 : decode cX4_keyIn 31 = .ok (.ireturn, 1) := by decide +kernel
theorem dX4_readValue_0 : decode cX4_readValue 0 = .ok (.iload_n 1, 1) := by decide +kernel
theorem dX4_readValue_1 : decode cX4_readValue 1 = .ok (.tableswitch 67 0 4 #[35, 43, 51, 51, 60], 35) := by decide +kernel
theorem dX4_readValue_36 : decode cX4_readValue 36 = .ok (.aload_n 0, 1) := by decide +kernel
theorem dX4_readValue_37 : decode cX4_readValue 37 = .ok (.iload_n 2, 1) := by decide +kernel
theorem dX4_readValue_38 : decode cX4_readValue 38 = .ok (.iload_n 3, 1) := by decide +kernel
theorem dX4_readValue_39 : decode cX4_readValue 39 = .ok (.iconst 5, 1) := by decide +kernel
theorem dX4_readValue_40 : decode cX4_readValue 40 = .ok (.invokevirtual 107, 3) := by decide +kernel
theorem dX4_readValue_43 : decode cX4_readValue 43 = .ok (.ireturn, 1) := by decide +kernel
theorem dX4_readValue_44 : decode cX4_readValue 44 = .ok (.aload_n 0, 1) := by decide +kernel
theorem dX4_readValue_45 : decode cX4_readValue 45 = .ok (.iload_n 2, 1) := by decide +kernel
theorem dX4_readValue_46 : decode cX4_readValue 46 = .ok (.iload_n 3, 1) := by decide +kernel
theorem dX4_readValue_47 : decode cX4_readValue 47 = .ok (.iconst 3, 1) := by decide +kernel
theorem dX4_readValue_48 : decode cX4_readValue 48 = .ok (.invokevirtual 107, 3) := by decide +kernel
theorem dX4_readValue_51 : decode cX4_readValue 51 = .ok (.ireturn, 1) := by decide +kernel
theorem dX4_readValue_52 : decode cX4_readValue 52 = .ok (.aload_n 0, 1) := by decide +kernel
theorem dX4_readValue_53 : decode cX4_readValue 53 = .ok (.iload_n 2, 1) := by decide +kernel
theorem dX4_readValue_54 : decode cX4_readValue 54 = .ok (.iload_n 3, 1) := by decide +kernel
theorem dX4_readValue_55 : decode cX4_readValue 55 = .ok (.bipush 7, 2) := by decide +kernel
theorem dX4_readValue_57 : decode cX4_readValue 57 = .ok (.invokevirtual 107, 3) := by decide +kernel
theorem dX4_readValue_60 : decode cX4_readValue 60 = .ok (.ireturn, 1) := by decide +kernel
theorem dX4_readValue_61 : decode cX4_readValue 61 = .ok (.aload_n 0, 1) := by decide +kernel
theorem dX4_readValue_62 : decode cX4_readValue 62 = .ok (.iload_n 2, 1) := by decide +kernel
theorem dX4_readValue_63 : decode cX4_readValue 63 = .ok (.iload_n 3, 1) := by decide +kernel
theorem dX4_readValue_64 : decode cX4_readValue 64 = .ok (.invokevirtual 110, 3) := by decide +kernel
theorem dX4_readValue_67 : decode cX4_readValue 67 = .ok (.ireturn, 1) := by decide +kernel
theorem dX4_readValue_68 : decode cX4_readValue 68 = .ok (.aload_n 0, 1) := by decide +kernel
theorem dX4_readValue_69 : decode cX4_readValue 69 = .ok (.iload_n 2, 1) := by decide +kernel
theorem dX4_readValue_70 : decode cX4_readValue 70 = .ok (.iload_n 3, 1) := by decide +kernel
theorem dX4_readValue_71 : decode cX4_readValue 71 = .ok (.invokevirtual 113, 3) := by decide +kernel
theorem dX4_readValue_74 : decode cX4_readValue 74 = .ok (.ireturn, 1) := by decide +kernel
theorem dX4_readDigit_0 : decode cX4_readDigit 0 = .ok (.aload_n 0, 1) := by decide +kernel
theorem dX4_readDigit_1 : decode cX4_readDigit 1 = .ok (.iload_n 1, 1) := by decide +kernel
theorem dX4_readDigit_2 : decode cX4_readDigit 2 = .ok (.invokevirtual 77, 3) := by decide +kernel
theorem dX4_readDigit_5 : decode cX4_readDigit 5 = .ok (.istore 4, 2) := by decide +kernel
theorem dX4_readDigit_7 : decode cX4_readDigit 7 = .ok (.iload_n 2, 1) := by decide +kernel
theorem dX4_readDigit_8 : decode cX4_readDigit 8 = .ok (.iload_n 1, 1) := by decide +kernel
theorem dX4_readDigit_9 : decode cX4_readDigit 9 = .ok (.isub, 1) := by decide +kernel
theorem dX4_readDigit_10 : decode cX4_readDigit 10 = .ok (.iconst 1, 1) := by decide +kernel
theorem dX4_readDigit_11 : decode cX4_readDigit 11 = .ok (.if_icmp .ne 11, 3) := by decide +kernel
theorem dX4_readDigit_14 : decode cX4_readDigit 14 = .ok (.iload 4, 2) := by decide +kernel
theorem dX4_readDigit_16 : decode cX4_readDigit 16 = .ok (.invokestatic 33, 3) := by decide +kernel
theorem dX4_readDigit_19 : decode cX4_readDigit 19 = .ok (.ifCond .ne 5, 3) := by decide +kernel
theorem dX4_readDigit_22 : decode cX4_readDigit 22 = .ok (.iconst (-1), 1) := by decide +kernel
theorem dX4_readDigit_23 : decode cX4_readDigit 23 = .ok (.ireturn, 1) := by decide +kernel
theorem dX4_readDigit_24 : decode cX4_readDigit 24 = .ok (.iload 4, 2) := by decide +kernel
theorem dX4_readDigit_26 : decode cX4_readDigit 26 = .ok (.bipush 48, 2) := by decide +kernel
theorem dX4_readDigit_28 : decode cX4_readDigit 28 = .ok (.isub, 1) := by decide +kernel
theorem dX4_readDigit_29 : decode cX4_readDigit 29 = .ok (.istore 5, 2) := by decide +kernel
theorem dX4_readDigit_31 : decode cX4_readDigit 31 = .ok (.iload 5, 2) := by decide +kernel
theorem dX4_readDigit_33 : decode cX4_readDigit 33 = .ok (.iload_n 3, 1) := by decide +kernel
theorem dX4_readDigit_34 : decode cX4_readDigit 34 = .ok (.if_icmp .gt 8, 3) := by decide +kernel
theorem dX4_readDigit_37 : decode cX4_readDigit 37 = .ok (.iload 5, 2) := by decide +kernel
theorem dX4_readDigit_39 : decode cX4_readDigit 39 = .ok (.goto 4, 3) := by decide +kernel
theorem dX4_readDigit_42 : decode cX4_readDigit 42 = .ok (.iconst (-1), 1) := by decide +kernel
theorem dX4_readDigit_43 : decode cX4_readDigit 43 = .ok (.ireturn, 1) := by decide +kernel
theorem dX4_readWeight_0 : decode cX4_readWeight 0 = .ok (.iload_n 2, 1) := by decide +kernel
theorem dX4_readWeight_1 : decode cX4_readWeight 1 = .ok (.iload_n 1, 1) := by decide +kernel
theorem dX4_readWeight_2 : decode cX4_readWeight 2 = .ok (.isub, 1) := by decide +kernel
theorem dX4_readWeight_3 : decode cX4_readWeight 3 = .ok (.iconst 1, 1) := by decide +kernel
theorem dX4_readWeight_4 : decode cX4_readWeight 4 = .ok (.iconst 5, 1) := by decide +kernel
theorem dX4_readWeight_5 : decode cX4_readWeight 5 = .ok (.invokestatic 116, 3) := by decide +kernel
theorem dX4_readWeight_8 : decode cX4_readWeight 8 = .ok (.ifCond .ne 5, 3) := by decide +kernel
theorem dX4_readWeight_11 : decode cX4_readWeight 11 = .ok (.iconst (-1), 1) := by decide +kernel
theorem dX4_readWeight_12 : decode cX4_readWeight 12 = .ok (.ireturn, 1) := by decide +kernel
theorem dX4_readWeight_13 : decode cX4_readWeight 13 = .ok (.iconst 0, 1) := by decide +kernel
theorem dX4_readWeight_14 : decode cX4_readWeight 14 = .ok (.istore_n 3, 1) := by decide +kernel
theorem dX4_readWeight_15 : decode cX4_readWeight 15 = .ok (.iload_n 1, 1) := by decide +kernel
theorem dX4_readWeight_16 : decode cX4_readWeight 16 = .ok (.istore 4, 2) := by decide +kernel
theorem dX4_readWeight_18 : decode cX4_readWeight 18 = .ok (.iload 4, 2) := by decide +kernel
theorem dX4_readWeight_20 : decode cX4_readWeight 20 = .ok (.iload_n 2, 1) := by decide +kernel
theorem dX4_readWeight_21 : decode cX4_readWeight 21 = .ok (.if_icmp .ge 38, 3) := by decide +kernel
theorem dX4_readWeight_24 : decode cX4_readWeight 24 = .ok (.aload_n 0, 1) := by decide +kernel
theorem dX4_readWeight_25 : decode cX4_readWeight 25 = .ok (.iload 4, 2) := by decide +kernel
theorem dX4_readWeight_27 : decode cX4_readWeight 27 = .ok (.invokevirtual 77, 3) := by decide +kernel
theorem dX4_readWeight_30 : decode cX4_readWeight 30 = .ok (.istore 5, 2) := by decide +kernel
theorem dX4_readWeight_32 : decode cX4_readWeight 32 = .ok (.iload 5, 2) := by decide +kernel
theorem dX4_readWeight_34 : decode cX4_readWeight 34 = .ok (.invokestatic 33, 3) := by decide +kernel
theorem dX4_readWeight_37 : decode cX4_readWeight 37 = .ok (.ifCond .ne 5, 3) := by decide +kernel
theorem dX4_readWeight_40 : decode cX4_readWeight 40 = .ok (.iconst (-1), 1) := by decide +kernel
theorem dX4_readWeight_41 : decode cX4_readWeight 41 = .ok (.ireturn, 1) := by decide +kernel
theorem dX4_readWeight_42 : decode cX4_readWeight 42 = .ok (.iload_n 3, 1) := by decide +kernel
theorem dX4_readWeight_43 : decode cX4_readWeight 43 = .ok (.bipush 10, 2) := by decide +kernel
theorem dX4_readWeight_45 : decode cX4_readWeight 45 = .ok (.imul, 1) := by decide +kernel
theorem dX4_readWeight_46 : decode cX4_readWeight 46 = .ok (.iload 5, 2) := by decide +kernel
theorem dX4_readWeight_48 : decode cX4_readWeight 48 = .ok (.bipush 48, 2) := by decide +kernel
theorem dX4_readWeight_50 : decode cX4_readWeight 50 = .ok (.isub, 1) := by decide +kernel
theorem dX4_readWeight_51 : decode cX4_readWeight 51 = .ok (.iadd, 1) := by decide +kernel
theorem dX4_readWeight_52 : decode cX4_readWeight 52 = .ok (.istore_n 3, 1) := by decide +kernel
theorem dX4_readWeight_53 : decode cX4_readWeight 53 = .ok (.iinc 4 1, 3) := by decide +kernel
theorem dX4_readWeight_56 : decode cX4_readWeight 56 = .ok (.goto (-38), 3) := by decide +kernel
theorem dX4_readWeight_59 : decode cX4_readWeight 59 = .ok (.iload_n 3, 1) := by decide +kernel
theorem dX4_readWeight_60 : decode cX4_readWeight 60 = .ok (.iconst 1, 1) := by decide +kernel
theorem dX4_readWeight_61 : decode cX4_readWeight 61 = .ok (.sipush 30000, 3) := by decide +kernel
theorem dX4_readWeight_64 : decode cX4_readWeight 64 = .ok (.invokestatic 116, 3) := by decide +kernel
theorem dX4_readWeight_67 : decode cX4_readWeight 67 = .ok (.ifCond .eq 7, 3) := by decide +kernel
theorem dX4_readWeight_70 : decode cX4_readWeight 70 = .ok (.iload_n 3, 1) := by decide +kernel
theorem dX4_readWeight_71 : decode cX4_readWeight 71 = .ok (.goto 4, 3) := by decide +kernel
theorem dX4_readWeight_74 : decode cX4_readWeight 74 = .ok (.iconst (-1), 1) := by decide +kernel
theorem dX4_readWeight_75 : decode cX4_readWeight 75 = .ok (.ireturn, 1) := by decide +kernel
theorem dX4_readExpress_0 : decode cX4_readExpress 0 = .ok (.aload_n 0, 1) := by decide +kernel
theorem dX4_readExpress_1 : decode cX4_readExpress 1 = .ok (.iload_n 1, 1) := by decide +kernel
theorem dX4_readExpress_2 : decode cX4_readExpress 2 = .ok (.invokevirtual 77, 3) := by decide +kernel
theorem dX4_readExpress_5 : decode cX4_readExpress 5 = .ok (.istore_n 3, 1) := by decide +kernel
theorem dX4_readExpress_6 : decode cX4_readExpress 6 = .ok (.iload_n 2, 1) := by decide +kernel
theorem dX4_readExpress_7 : decode cX4_readExpress 7 = .ok (.iload_n 1, 1) := by decide +kernel
theorem dX4_readExpress_8 : decode cX4_readExpress 8 = .ok (.isub, 1) := by decide +kernel
theorem dX4_readExpress_9 : decode cX4_readExpress 9 = .ok (.iconst 1, 1) := by decide +kernel
theorem dX4_readExpress_10 : decode cX4_readExpress 10 = .ok (.if_icmp .ne 15, 3) := by decide +kernel
theorem dX4_readExpress_13 : decode cX4_readExpress 13 = .ok (.iload_n 3, 1) := by decide +kernel
theorem dX4_readExpress_14 : decode cX4_readExpress 14 = .ok (.bipush 89, 2) := by decide +kernel
theorem dX4_readExpress_16 : decode cX4_readExpress 16 = .ok (.if_icmp .eq 11, 3) := by decide +kernel
theorem dX4_readExpress_19 : decode cX4_readExpress 19 = .ok (.iload_n 3, 1) := by decide +kernel
theorem dX4_readExpress_20 : decode cX4_readExpress 20 = .ok (.bipush 78, 2) := by decide +kernel
theorem dX4_readExpress_22 : decode cX4_readExpress 22 = .ok (.if_icmp .eq 5, 3) := by decide +kernel
theorem dX4_readExpress_25 : decode cX4_readExpress 25 = .ok (.iconst (-1), 1) := by decide +kernel
theorem dX4_readExpress_26 : decode cX4_readExpress 26 = .ok (.ireturn, 1) := by decide +kernel
theorem dX4_readExpress_27 : decode cX4_readExpress 27 = .ok (.iload_n 3, 1) := by decide +kernel
theorem dX4_readExpress_28 : decode cX4_readExpress 28 = .ok (.bipush 89, 2) := by decide +kernel
theorem dX4_readExpress_30 : decode cX4_readExpress 30 = .ok (.if_icmp .ne 7, 3) := by decide +kernel
theorem dX4_readExpress_33 : decode cX4_readExpress 33 = .ok (.iconst 1, 1) := by decide +kernel
theorem dX4_readExpress_34 : decode cX4_readExpress 34 = .ok (.goto 4, 3) := by decide +kernel
theorem dX4_readExpress_37 : decode cX4_readExpress 37 = .ok (.iconst 0, 1) := by decide +kernel
theorem dX4_readExpress_38 : decode cX4_readExpress 38 = .ok (.ireturn, 1) := by decide +kernel
theorem dX4_findMissingKey_0 : decode cX4_findMissingKey 0 = .ok (.iconst 0, 1) := by decide +kernel
theorem dX4_findMissingKey_1 : decode cX4_findMissingKey 1 = .ok (.istore_n 1, 1) := by decide +kernel
theorem dX4_findMissingKey_2 : decode cX4_findMissingKey 2 = .ok (.iload_n 1, 1) := by decide +kernel
theorem dX4_findMissingKey_3 : decode cX4_findMissingKey 3 = .ok (.iconst 5, 1) := by decide +kernel
theorem dX4_findMissingKey_4 : decode cX4_findMissingKey 4 = .ok (.if_icmp .ge 40, 3) := by decide +kernel
theorem dX4_findMissingKey_7 : decode cX4_findMissingKey 7 = .ok (.aload_n 0, 1) := by decide +kernel
theorem dX4_findMissingKey_8 : decode cX4_findMissingKey 8 = .ok (.getfield 25, 3) := by decide +kernel
theorem dX4_findMissingKey_11 : decode cX4_findMissingKey 11 = .ok (.invokevirtual 40, 3) := by decide +kernel
theorem dX4_findMissingKey_14 : decode cX4_findMissingKey 14 = .ok (.ifCond .eq 30, 3) := by decide +kernel
theorem dX4_findMissingKey_17 : decode cX4_findMissingKey 17 = .ok (.aload_n 0, 1) := by decide +kernel
theorem dX4_findMissingKey_18 : decode cX4_findMissingKey 18 = .ok (.iload_n 1, 1) := by decide +kernel
theorem dX4_findMissingKey_19 : decode cX4_findMissingKey 19 = .ok (.invokevirtual 120, 3) := by decide +kernel
theorem dX4_findMissingKey_22 : decode cX4_findMissingKey 22 = .ok (.iconst (-1), 1) := by decide +kernel
theorem dX4_findMissingKey_23 : decode cX4_findMissingKey 23 = .ok (.if_icmp .ne 15, 3) := by decide +kernel
theorem dX4_findMissingKey_26 : decode cX4_findMissingKey 26 = .ok (.aload_n 0, 1) := by decide +kernel
theorem dX4_findMissingKey_27 : decode cX4_findMissingKey 27 = .ok (.ldc 123, 2) := by decide +kernel
theorem dX4_findMissingKey_29 : decode cX4_findMissingKey 29 = .ok (.ldc 93, 2) := by decide +kernel
theorem dX4_findMissingKey_31 : decode cX4_findMissingKey 31 = .ok (.iload_n 1, 1) := by decide +kernel
theorem dX4_findMissingKey_32 : decode cX4_findMissingKey 32 = .ok (.invokevirtual 95, 3) := by decide +kernel
theorem dX4_findMissingKey_35 : decode cX4_findMissingKey 35 = .ok (.invokevirtual 87, 3) := by decide +kernel
theorem dX4_findMissingKey_38 : decode cX4_findMissingKey 38 = .ok (.iinc 1 1, 3) := by decide +kernel
theorem dX4_findMissingKey_41 : decode cX4_findMissingKey 41 = .ok (.goto (-39), 3) := by decide +kernel
theorem dX4_findMissingKey_44 : decode cX4_findMissingKey 44 = .ok (.return_, 1) := by decide +kernel
theorem dX4_setFault_0 : decode cX4_setFault 0 = .ok (.aload_n 0, 1) := by decide +kernel
theorem dX4_setFault_1 : decode cX4_setFault 1 = .ok (.aload_n 1, 1) := by decide +kernel
theorem dX4_setFault_2 : decode cX4_setFault 2 = .ok (.putfield 25, 3) := by decide +kernel
theorem dX4_setFault_5 : decode cX4_setFault 5 = .ok (.aload_n 0, 1) := by decide +kernel
theorem dX4_setFault_6 : decode cX4_setFault 6 = .ok (.iload_n 2, 1) := by decide +kernel
theorem dX4_setFault_7 : decode cX4_setFault 7 = .ok (.putfield 29, 3) := by decide +kernel
theorem dX4_setFault_10 : decode cX4_setFault 10 = .ok (.return_, 1) := by decide +kernel
theorem dX4_signAt_0 : decode cX4_signAt 0 = .ok (.iload_n 1, 1) := by decide +kernel
theorem dX4_signAt_1 : decode cX4_signAt 1 = .ok (.ifCond .lt 29, 3) := by decide +kernel
theorem dX4_signAt_4 : decode cX4_signAt 4 = .ok (.iload_n 1, 1) := by decide +kernel
theorem dX4_signAt_5 : decode cX4_signAt 5 = .ok (.aload_n 0, 1) := by decide +kernel
theorem dX4_signAt_6 : decode cX4_signAt 6 = .ok (.getfield 19, 3) := by decide +kernel
theorem dX4_signAt_9 : decode cX4_signAt 9 = .ok (.if_icmp .ge 21, 3) := by decide +kernel
theorem dX4_signAt_12 : decode cX4_signAt 12 = .ok (.iload_n 1, 1) := by decide +kernel
theorem dX4_signAt_13 : decode cX4_signAt 13 = .ok (.aload_n 0, 1) := by decide +kernel
theorem dX4_signAt_14 : decode cX4_signAt 14 = .ok (.getfield 11, 3) := by decide +kernel
theorem dX4_signAt_17 : decode cX4_signAt 17 = .ok (.arraylength, 1) := by decide +kernel
theorem dX4_signAt_18 : decode cX4_signAt 18 = .ok (.if_icmp .ge 12, 3) := by decide +kernel
theorem dX4_signAt_21 : decode cX4_signAt 21 = .ok (.aload_n 0, 1) := by decide +kernel
theorem dX4_signAt_22 : decode cX4_signAt 22 = .ok (.getfield 11, 3) := by decide +kernel
theorem dX4_signAt_25 : decode cX4_signAt 25 = .ok (.iload_n 1, 1) := by decide +kernel
theorem dX4_signAt_26 : decode cX4_signAt 26 = .ok (.caload, 1) := by decide +kernel
theorem dX4_signAt_27 : decode cX4_signAt 27 = .ok (.goto 5, 3) := by decide +kernel
theorem dX4_signAt_30 : decode cX4_signAt 30 = .ok (.bipush 32, 2) := by decide +kernel
theorem dX4_signAt_32 : decode cX4_signAt 32 = .ok (.ireturn, 1) := by decide +kernel
theorem dX4_isDigit_0 : decode cX4_isDigit 0 = .ok (.iload_n 0, 1) := by decide +kernel
theorem dX4_isDigit_1 : decode cX4_isDigit 1 = .ok (.bipush 48, 2) := by decide +kernel
theorem dX4_isDigit_3 : decode cX4_isDigit 3 = .ok (.if_icmp .lt 13, 3) := by decide +kernel
theorem dX4_isDigit_6 : decode cX4_isDigit 6 = .ok (.iload_n 0, 1) := by decide +kernel
theorem dX4_isDigit_7 : decode cX4_isDigit 7 = .ok (.bipush 57, 2) := by decide +kernel
theorem dX4_isDigit_9 : decode cX4_isDigit 9 = .ok (.if_icmp .gt 7, 3) := by decide +kernel
theorem dX4_isDigit_12 : decode cX4_isDigit 12 = .ok (.iconst 1, 1) := by decide +kernel
theorem dX4_isDigit_13 : decode cX4_isDigit 13 = .ok (.goto 4, 3) := by decide +kernel
theorem dX4_isDigit_16 : decode cX4_isDigit 16 = .ok (.iconst 0, 1) := by decide +kernel
theorem dX4_isDigit_17 : decode cX4_isDigit 17 = .ok (.ireturn, 1) := by decide +kernel
theorem dX5_init_0 : decode cX5_init 0 = .ok (.aload_n 0, 1) := by decide +kernel
theorem dX5_init_1 : decode cX5_init 1 = .ok (.invokespecial 3, 3) := by decide +kernel
theorem dX5_init_4 : decode cX5_init 4 = .ok (.aload_n 0, 1) := by decide +kernel
theorem dX5_init_5 : decode cX5_init 5 = .ok (.bipush 10, 2) := by decide +kernel
theorem dX5_init_7 : decode cX5_init 7 = .ok (.putfield 9, 3) := by decide +kernel
theorem dX5_init_10 : decode cX5_init 10 = .ok (.aload_n 0, 1) := by decide +kernel
theorem dX5_init_11 : decode cX5_init 11 = .ok (.bipush 60, 2) := by decide +kernel
theorem dX5_init_13 : decode cX5_init 13 = .ok (.putfield 15, 3) := by decide +kernel
theorem dX5_init_16 : decode cX5_init 16 = .ok (.aload_n 0, 1) := by decide +kernel
theorem dX5_init_17 : decode cX5_init 17 = .ok (.iconst 0, 1) := by decide +kernel
theorem dX5_init_18 : decode cX5_init 18 = .ok (.putfield 18, 3) := by decide +kernel
theorem dX5_init_21 : decode cX5_init 21 = .ok (.aload_n 0, 1) := by decide +kernel
theorem dX5_init_22 : decode cX5_init 22 = .ok (.iconst 0, 1) := by decide +kernel
theorem dX5_init_23 : decode cX5_init 23 = .ok (.putfield 21, 3) := by decide +kernel
theorem dX5_init_26 : decode cX5_init 26 = .ok (.aload_n 0, 1) := by decide +kernel
theorem dX5_init_27 : decode cX5_init 27 = .ok (.bipush 50, 2) := by decide +kernel
theorem dX5_init_29 : decode cX5_init 29 = .ok (.newarray .int, 2) := by decide +kernel
theorem dX5_init_31 : decode cX5_init 31 = .ok (.putfield 24, 3) := by decide +kernel
theorem dX5_init_34 : decode cX5_init 34 = .ok (.aload_n 0, 1) := by decide +kernel
theorem dX5_init_35 : decode cX5_init 35 = .ok (.iconst 0, 1) := by decide +kernel
theorem dX5_init_36 : decode cX5_init 36 = .ok (.putfield 28, 3) := by decide +kernel
theorem dX5_init_39 : decode cX5_init 39 = .ok (.aload_n 0, 1) := by decide +kernel
theorem dX5_init_40 : decode cX5_init 40 = .ok (.iconst 0, 1) := by decide +kernel
theorem dX5_init_41 : decode cX5_init 41 = .ok (.putfield 31, 3) := by decide +kernel
theorem dX5_init_44 : decode cX5_init 44 = .ok (.return_, 1) := by decide +kernel
theorem dX5_callsLeft_0 : decode cX5_callsLeft 0 = .ok (.iconst 0, 1) := by decide +kernel
theorem dX5_callsLeft_1 : decode cX5_callsLeft 1 = .ok (.istore_n 2, 1) := by decide +kernel
theorem dX5_callsLeft_2 : decode cX5_callsLeft 2 = .ok (.iconst 0, 1) := by decide +kernel
theorem dX5_callsLeft_3 : decode cX5_callsLeft 3 = .ok (.istore_n 3, 1) := by decide +kernel
theorem dX5_callsLeft_4 : decode cX5_callsLeft 4 = .ok (.iload_n 3, 1) := by decide +kernel
theorem dX5_callsLeft_5 : decode cX5_callsLeft 5 = .ok (.aload_n 0, 1) := by decide +kernel
theorem dX5_callsLeft_6 : decode cX5_callsLeft 6 = .ok (.getfield 28, 3) := by decide +kernel
theorem dX5_callsLeft_9 : decode cX5_callsLeft 9 = .ok (.if_icmp .ge 36, 3) := by decide +kernel
theorem dX5_callsLeft_12 : decode cX5_callsLeft 12 = .ok (.iload_n 3, 1) := by decide +kernel
theorem dX5_callsLeft_13 : decode cX5_callsLeft 13 = .ok (.aload_n 0, 1) := by decide +kernel
theorem dX5_callsLeft_14 : decode cX5_callsLeft 14 = .ok (.getfield 24, 3) := by decide +kernel
theorem dX5_callsLeft_17 : decode cX5_callsLeft 17 = .ok (.arraylength, 1) := by decide +kernel
theorem dX5_callsLeft_18 : decode cX5_callsLeft 18 = .ok (.if_icmp .ge 27, 3) := by decide +kernel
theorem dX5_callsLeft_21 : decode cX5_callsLeft 21 = .ok (.aload_n 0, 1) := by decide +kernel
theorem dX5_callsLeft_22 : decode cX5_callsLeft 22 = .ok (.getfield 24, 3) := by decide +kernel
theorem dX5_callsLeft_25 : decode cX5_callsLeft 25 = .ok (.iload_n 3, 1) := by decide +kernel
theorem dX5_callsLeft_26 : decode cX5_callsLeft 26 = .ok (.iaload, 1) := by decide +kernel
theorem dX5_callsLeft_27 : decode cX5_callsLeft 27 = .ok (.iload_n 1, 1) := by decide +kernel
theorem dX5_callsLeft_28 : decode cX5_callsLeft 28 = .ok (.aload_n 0, 1) := by decide +kernel
theorem dX5_callsLeft_29 : decode cX5_callsLeft 29 = .ok (.getfield 15, 3) := by decide +kernel
theorem dX5_callsLeft_32 : decode cX5_callsLeft 32 = .ok (.isub, 1) := by decide +kernel
theorem dX5_callsLeft_33 : decode cX5_callsLeft 33 = .ok (.if_icmp .le 6, 3) := by decide +kernel
theorem dX5_callsLeft_36 : decode cX5_callsLeft 36 = .ok (.iinc 2 1, 3) := by decide +kernel
theorem dX5_callsLeft_39 : decode cX5_callsLeft 39 = .ok (.iinc 3 1, 3) := by decide +kernel
theorem dX5_callsLeft_42 : decode cX5_callsLeft 42 = .ok (.goto (-38), 3) := by decide +kernel
theorem dX5_callsLeft_45 : decode cX5_callsLeft 45 = .ok (.iconst 0, 1) := by decide +kernel
theorem dX5_callsLeft_46 : decode cX5_callsLeft 46 = .ok (.aload_n 0, 1) := by decide +kernel
theorem dX5_callsLeft_47 : decode cX5_callsLeft 47 = .ok (.getfield 9, 3) := by decide +kernel
theorem dX5_callsLeft_50 : decode cX5_callsLeft 50 = .ok (.iload_n 2, 1) := by decide +kernel
theorem dX5_callsLeft_51 : decode cX5_callsLeft 51 = .ok (.isub, 1) := by decide +kernel
theorem dX5_callsLeft_52 : decode cX5_callsLeft 52 = .ok (.invokestatic 34, 3) := by decide +kernel
theorem dX5_callsLeft_55 : decode cX5_callsLeft 55 = .ok (.ireturn, 1) := by decide +kernel
theorem dX5_keepCall_0 : decode cX5_keepCall 0 = .ok (.aload_n 0, 1) := by decide +kernel
theorem dX5_keepCall_1 : decode cX5_keepCall 1 = .ok (.getfield 31, 3) := by decide +kernel
theorem dX5_keepCall_4 : decode cX5_keepCall 4 = .ok (.ifCond .lt 15, 3) := by decide +kernel
theorem dX5_keepCall_7 : decode cX5_keepCall 7 = .ok (.aload_n 0, 1) := by decide +kernel
theorem dX5_keepCall_8 : decode cX5_keepCall 8 = .ok (.getfield 31, 3) := by decide +kernel
theorem dX5_keepCall_11 : decode cX5_keepCall 11 = .ok (.aload_n 0, 1) := by decide +kernel
theorem dX5_keepCall_12 : decode cX5_keepCall 12 = .ok (.getfield 24, 3) := by decide +kernel
theorem dX5_keepCall_15 : decode cX5_keepCall 15 = .ok (.arraylength, 1) := by decide +kernel
theorem dX5_keepCall_16 : decode cX5_keepCall 16 = .ok (.if_icmp .lt 8, 3) := by decide +kernel
theorem dX5_keepCall_19 : decode cX5_keepCall 19 = .ok (.aload_n 0, 1) := by decide +kernel
theorem dX5_keepCall_20 : decode cX5_keepCall 20 = .ok (.iconst 0, 1) := by decide +kernel
theorem dX5_keepCall_21 : decode cX5_keepCall 21 = .ok (.putfield 31, 3) := by decide +kernel
theorem dX5_keepCall_24 : decode cX5_keepCall 24 = .ok (.aload_n 0, 1) := by decide +kernel
theorem dX5_keepCall_25 : decode cX5_keepCall 25 = .ok (.getfield 24, 3) := by decide +kernel
theorem dX5_keepCall_28 : decode cX5_keepCall 28 = .ok (.aload_n 0, 1) := by decide +kernel
theorem dX5_keepCall_29 : decode cX5_keepCall 29 = .ok (.getfield 31, 3) := by decide +kernel
theorem dX5_keepCall_32 : decode cX5_keepCall 32 = .ok (.iload_n 1, 1) := by decide +kernel
theorem dX5_keepCall_33 : decode cX5_keepCall 33 = .ok (.iastore, 1) := by decide +kernel
theorem dX5_keepCall_34 : decode cX5_keepCall 34 = .ok (.aload_n 0, 1) := by decide +kernel
theorem dX5_keepCall_35 : decode cX5_keepCall 35 = .ok (.dup, 1) := by decide +kernel
theorem dX5_keepCall_36 : decode cX5_keepCall 36 = .ok (.getfield 31, 3) := by decide +kernel
theorem dX5_keepCall_39 : decode cX5_keepCall 39 = .ok (.iconst 1, 1) := by decide +kernel
theorem dX5_keepCall_40 : decode cX5_keepCall 40 = .ok (.iadd, 1) := by decide +kernel
theorem dX5_keepCall_41 : decode cX5_keepCall 41 = .ok (.putfield 31, 3) := by decide +kernel
theorem dX5_keepCall_44 : decode cX5_keepCall 44 = .ok (.aload_n 0, 1) := by decide +kernel
theorem dX5_keepCall_45 : decode cX5_keepCall 45 = .ok (.aload_n 0, 1) := by decide +kernel
theorem dX5_keepCall_46 : decode cX5_keepCall 46 = .ok (.getfield 28, 3) := by decide +kernel
theorem dX5_keepCall_49 : decode cX5_keepCall 49 = .ok (.aload_n 0, 1) := by decide +kernel
theorem dX5_keepCall_50 : decode cX5_keepCall 50 = .ok (.getfield 31, 3) := by decide +kernel
theorem dX5_keepCall_53 : decode cX5_keepCall 53 = .ok (.invokestatic 34, 3) := by decide +kernel
theorem dX5_keepCall_56 : decode cX5_keepCall 56 = .ok (.putfield 28, 3) := by decide +kernel
theorem dX5_keepCall_59 : decode cX5_keepCall 59 = .ok (.return_, 1) := by decide +kernel
theorem dX6_init_0 : decode cX6_init 0 = .ok (.aload_n 0, 1) := by decide +kernel
theorem dX6_init_1 : decode cX6_init 1 = .ok (.invokespecial 1, 3) := by decide +kernel
theorem dX6_init_4 : decode cX6_init 4 = .ok (.aload_n 0, 1) := by decide +kernel
theorem dX6_init_5 : decode cX6_init 5 = .ok (.iload_n 1, 1) := by decide +kernel
theorem dX6_init_6 : decode cX6_init 6 = .ok (.putfield 7, 3) := by decide +kernel
theorem dX6_init_9 : decode cX6_init 9 = .ok (.aload_n 0, 1) := by decide +kernel
theorem dX6_init_10 : decode cX6_init 10 = .ok (.iload_n 2, 1) := by decide +kernel
theorem dX6_init_11 : decode cX6_init 11 = .ok (.putfield 13, 3) := by decide +kernel
theorem dX6_init_14 : decode cX6_init 14 = .ok (.aload_n 0, 1) := by decide +kernel
theorem dX6_init_15 : decode cX6_init 15 = .ok (.iload_n 3, 1) := by decide +kernel
theorem dX6_init_16 : decode cX6_init 16 = .ok (.putfield 16, 3) := by decide +kernel
theorem dX6_init_19 : decode cX6_init 19 = .ok (.return_, 1) := by decide +kernel
theorem dX7_init_0 : decode cX7_init 0 = .ok (.aload_n 0, 1) := by decide +kernel
theorem dX7_init_1 : decode cX7_init 1 = .ok (.invokespecial 1, 3) := by decide +kernel
theorem dX7_init_4 : decode cX7_init 4 = .ok (.aload_n 0, 1) := by decide +kernel
theorem dX7_init_5 : decode cX7_init 5 = .ok (.new 7, 3) := by decide +kernel
theorem dX7_init_8 : decode cX7_init 8 = .ok (.dup, 1) := by decide +kernel
theorem dX7_init_9 : decode cX7_init 9 = .ok (.invokespecial 9, 3) := by decide +kernel
theorem dX7_init_12 : decode cX7_init 12 = .ok (.putfield 10, 3) := by decide +kernel
theorem dX7_init_15 : decode cX7_init 15 = .ok (.aload_n 0, 1) := by decide +kernel
theorem dX7_init_16 : decode cX7_init 16 = .ok (.new 16, 3) := by decide +kernel
theorem dX7_init_19 : decode cX7_init 19 = .ok (.dup, 1) := by decide +kernel
theorem dX7_init_20 : decode cX7_init 20 = .ok (.invokespecial 18, 3) := by decide +kernel
theorem dX7_init_23 : decode cX7_init 23 = .ok (.putfield 19, 3) := by decide +kernel
theorem dX7_init_26 : decode cX7_init 26 = .ok (.aload_n 0, 1) := by decide +kernel
theorem dX7_init_27 : decode cX7_init 27 = .ok (.bipush 6, 2) := by decide +kernel
theorem dX7_init_29 : decode cX7_init 29 = .ok (.anewarray 23, 3) := by decide +kernel
theorem dX7_init_32 : decode cX7_init 32 = .ok (.putfield 25, 3) := by decide +kernel
theorem dX7_init_35 : decode cX7_init 35 = .ok (.aload_n 0, 1) := by decide +kernel
theorem dX7_init_36 : decode cX7_init 36 = .ok (.iconst 4, 1) := by decide +kernel
theorem dX7_init_37 : decode cX7_init 37 = .ok (.anewarray 29, 3) := by decide +kernel
theorem dX7_init_40 : decode cX7_init 40 = .ok (.putfield 31, 3) := by decide +kernel
theorem dX7_init_43 : decode cX7_init 43 = .ok (.aload_n 0, 1) := by decide +kernel
theorem dX7_init_44 : decode cX7_init 44 = .ok (.new 35, 3) := by decide +kernel
theorem dX7_init_47 : decode cX7_init 47 = .ok (.dup, 1) := by decide +kernel
theorem dX7_init_48 : decode cX7_init 48 = .ok (.invokespecial 37, 3) := by decide +kernel
theorem dX7_init_51 : decode cX7_init 51 = .ok (.putfield 38, 3) := by decide +kernel
theorem dX7_init_54 : decode cX7_init 54 = .ok (.aload_n 0, 1) := by decide +kernel
theorem dX7_init_55 : decode cX7_init 55 = .ok (.new 35, 3) := by decide +kernel
theorem dX7_init_58 : decode cX7_init 58 = .ok (.dup, 1) := by decide +kernel
theorem dX7_init_59 : decode cX7_init 59 = .ok (.invokespecial 37, 3) := by decide +kernel
theorem dX7_init_62 : decode cX7_init 62 = .ok (.putfield 42, 3) := by decide +kernel
theorem dX7_init_65 : decode cX7_init 65 = .ok (.aload_n 0, 1) := by decide +kernel
theorem dX7_init_66 : decode cX7_init 66 = .ok (.iconst 0, 1) := by decide +kernel
theorem dX7_init_67 : decode cX7_init 67 = .ok (.putfield 45, 3) := by decide +kernel
theorem dX7_init_70 : decode cX7_init 70 = .ok (.iconst 0, 1) := by decide +kernel
theorem dX7_init_71 : decode cX7_init 71 = .ok (.istore_n 1, 1) := by decide +kernel
theorem dX7_init_72 : decode cX7_init 72 = .ok (.iload_n 1, 1) := by decide +kernel
theorem dX7_init_73 : decode cX7_init 73 = .ok (.bipush 6, 2) := by decide +kernel
theorem dX7_init_75 : decode cX7_init 75 = .ok (.if_icmp .ge 22, 3) := by decide +kernel
theorem dX7_init_78 : decode cX7_init 78 = .ok (.aload_n 0, 1) := by decide +kernel
theorem dX7_init_79 : decode cX7_init 79 = .ok (.getfield 25, 3) := by decide +kernel
theorem dX7_init_82 : decode cX7_init 82 = .ok (.iload_n 1, 1) := by decide +kernel
theorem dX7_init_83 : decode cX7_init 83 = .ok (.new 23, 3) := by decide +kernel
theorem dX7_init_86 : decode cX7_init 86 = .ok (.dup, 1) := by decide +kernel
theorem dX7_init_87 : decode cX7_init 87 = .ok (.invokespecial 49, 3) := by decide +kernel
theorem dX7_init_90 : decode cX7_init 90 = .ok (.aastore, 1) := by decide +kernel
theorem dX7_init_91 : decode cX7_init 91 = .ok (.iinc 1 1, 3) := by decide +kernel
theorem dX7_init_94 : decode cX7_init 94 = .ok (.goto (-22), 3) := by decide +kernel
theorem dX7_init_97 : decode cX7_init 97 = .ok (.iconst 0, 1) := by decide +kernel
theorem dX7_init_98 : decode cX7_init 98 = .ok (.istore_n 1, 1) := by decide +kernel
theorem dX7_init_99 : decode cX7_init 99 = .ok (.iload_n 1, 1) := by decide +kernel
theorem dX7_init_100 : decode cX7_init 100 = .ok (.iconst 4, 1) := by decide +kernel
theorem dX7_init_101 : decode cX7_init 101 = .ok (.if_icmp .ge 22, 3) := by decide +kernel
theorem dX7_init_104 : decode cX7_init 104 = .ok (.aload_n 0, 1) := by decide +kernel
theorem dX7_init_105 : decode cX7_init 105 = .ok (.getfield 31, 3) := by decide +kernel
theorem dX7_init_108 : decode cX7_init 108 = .ok (.iload_n 1, 1) := by decide +kernel
theorem dX7_init_109 : decode cX7_init 109 = .ok (.new 29, 3) := by decide +kernel
theorem dX7_init_112 : decode cX7_init 112 = .ok (.dup, 1) := by decide +kernel
theorem dX7_init_113 : decode cX7_init 113 = .ok (.invokespecial 50, 3) := by decide +kernel
theorem dX7_init_116 : decode cX7_init 116 = .ok (.aastore, 1) := by decide +kernel
theorem dX7_init_117 : decode cX7_init 117 = .ok (.iinc 1 1, 3) := by decide +kernel
theorem dX7_init_120 : decode cX7_init 120 = .ok (.goto (-21), 3) := by decide +kernel
theorem dX7_init_123 : decode cX7_init 123 = .ok (.return_, 1) := by decide +kernel
theorem dX7_type_0 : decode cX7_type 0 = .ok (.iload_n 1, 1) := by decide +kernel
theorem dX7_type_1 : decode cX7_type 1 = .ok (.invokestatic 51, 3) := by decide +kernel
theorem dX7_type_4 : decode cX7_type 4 = .ok (.ifCond .ne 13, 3) := by decide +kernel
theorem dX7_type_7 : decode cX7_type 7 = .ok (.new 55, 3) := by decide +kernel
theorem dX7_type_10 : decode cX7_type 10 = .ok (.dup, 1) := by decide +kernel
theorem dX7_type_11 : decode cX7_type 11 = .ok (.ldc 57, 2) := by decide +kernel
theorem dX7_type_13 : decode cX7_type 13 = .ok (.invokespecial 59, 3) := by decide +kernel
theorem dX7_type_16 : decode cX7_type 16 = .ok (.athrow, 1) := by decide +kernel
theorem dX7_type_17 : decode cX7_type 17 = .ok (.aload_n 0, 1) := by decide +kernel
theorem dX7_type_18 : decode cX7_type 18 = .ok (.getfield 10, 3) := by decide +kernel
theorem dX7_type_21 : decode cX7_type 21 = .ok (.invokevirtual 62, 3) := by decide +kernel
theorem dX7_type_24 : decode cX7_type 24 = .ok (.ifCond .eq 13, 3) := by decide +kernel
theorem dX7_type_27 : decode cX7_type 27 = .ok (.new 66, 3) := by decide +kernel
theorem dX7_type_30 : decode cX7_type 30 = .ok (.dup, 1) := by decide +kernel
theorem dX7_type_31 : decode cX7_type 31 = .ok (.ldc 68, 2) := by decide +kernel
theorem dX7_type_33 : decode cX7_type 33 = .ok (.invokespecial 70, 3) := by decide +kernel
theorem dX7_type_36 : decode cX7_type 36 = .ok (.athrow, 1) := by decide +kernel
theorem dX7_type_37 : decode cX7_type 37 = .ok (.aload_n 0, 1) := by decide +kernel
theorem dX7_type_38 : decode cX7_type 38 = .ok (.getfield 10, 3) := by decide +kernel
theorem dX7_type_41 : decode cX7_type 41 = .ok (.iload_n 1, 1) := by decide +kernel
theorem dX7_type_42 : decode cX7_type 42 = .ok (.invokevirtual 71, 3) := by decide +kernel
theorem dX7_type_45 : decode cX7_type 45 = .ok (.ireturn, 1) := by decide +kernel
theorem dX7_wipe_0 : decode cX7_wipe 0 = .ok (.aload_n 0, 1) := by decide +kernel
theorem dX7_wipe_1 : decode cX7_wipe 1 = .ok (.getfield 10, 3) := by decide +kernel
theorem dX7_wipe_4 : decode cX7_wipe 4 = .ok (.invokevirtual 75, 3) := by decide +kernel
theorem dX7_wipe_7 : decode cX7_wipe 7 = .ok (.ireturn, 1) := by decide +kernel
theorem dX7_isRight_0 : decode cX7_isRight 0 = .ok (.aload_n 0, 1) := by decide +kernel
theorem dX7_isRight_1 : decode cX7_isRight 1 = .ok (.getfield 10, 3) := by decide +kernel
theorem dX7_isRight_4 : decode cX7_isRight 4 = .ok (.invokevirtual 79, 3) := by decide +kernel
theorem dX7_isRight_7 : decode cX7_isRight 7 = .ok (.invokevirtual 83, 3) := by decide +kernel
theorem dX7_isRight_10 : decode cX7_isRight 10 = .ok (.ireturn, 1) := by decide +kernel
theorem dX7_faultLength_0 : decode cX7_faultLength 0 = .ok (.aload_n 0, 1) := by decide +kernel
theorem dX7_faultLength_1 : decode cX7_faultLength 1 = .ok (.getfield 10, 3) := by decide +kernel
theorem dX7_faultLength_4 : decode cX7_faultLength 4 = .ok (.invokevirtual 79, 3) := by decide +kernel
theorem dX7_faultLength_7 : decode cX7_faultLength 7 = .ok (.invokevirtual 88, 3) := by decide +kernel
theorem dX7_faultLength_10 : decode cX7_faultLength 10 = .ok (.ireturn, 1) := by decide +kernel
theorem dX7_fault_0 : decode cX7_fault 0 = .ok (.aload_n 0, 1) := by decide +kernel
theorem dX7_fault_1 : decode cX7_fault 1 = .ok (.getfield 10, 3) := by decide +kernel
theorem dX7_fault_4 : decode cX7_fault 4 = .ok (.invokevirtual 79, 3) := by decide +kernel
theorem dX7_fault_7 : decode cX7_fault 7 = .ok (.astore_n 2, 1) := by decide +kernel
theorem dX7_fault_8 : decode cX7_fault 8 = .ok (.iload_n 1, 1) := by decide +kernel
theorem dX7_fault_9 : decode cX7_fault 9 = .ok (.ifCond .lt 11, 3) := by decide +kernel
theorem dX7_fault_12 : decode cX7_fault 12 = .ok (.iload_n 1, 1) := by decide +kernel
theorem dX7_fault_13 : decode cX7_fault 13 = .ok (.aload_n 2, 1) := by decide +kernel
theorem dX7_fault_14 : decode cX7_fault 14 = .ok (.invokevirtual 88, 3) := by decide +kernel
theorem dX7_fault_17 : decode cX7_fault 17 = .ok (.if_icmp .lt 13, 3) := by decide +kernel
theorem dX7_fault_20 : decode cX7_fault 20 = .ok (.new 91, 3) := by decide +kernel
theorem dX7_fault_23 : decode cX7_fault 23 = .ok (.dup, 1) := by decide +kernel
theorem dX7_fault_24 : decode cX7_fault 24 = .ok (.ldc 93, 2) := by decide +kernel
theorem dX7_fault_26 : decode cX7_fault 26 = .ok (.invokespecial 95, 3) := by decide +kernel
theorem dX7_fault_29 : decode cX7_fault 29 = .ok (.athrow, 1) := by decide +kernel
theorem dX7_fault_30 : decode cX7_fault 30 = .ok (.aload_n 2, 1) := by decide +kernel
theorem dX7_fault_31 : decode cX7_fault 31 = .ok (.iload_n 1, 1) := by decide +kernel
theorem dX7_fault_32 : decode cX7_fault 32 = .ok (.invokevirtual 96, 3) := by decide +kernel
theorem dX7_fault_35 : decode cX7_fault 35 = .ok (.ireturn, 1) := by decide +kernel
theorem dX7_pass_0 : decode cX7_pass 0 = .ok (.iload_n 1, 1) := by decide +kernel
theorem dX7_pass_1 : decode cX7_pass 1 = .ok (.iconst 1, 1) := by decide +kernel
theorem dX7_pass_2 : decode cX7_pass 2 = .ok (.sipush 500, 3) := by decide +kernel
theorem dX7_pass_5 : decode cX7_pass 5 = .ok (.invokestatic 100, 3) := by decide +kernel
theorem dX7_pass_8 : decode cX7_pass 8 = .ok (.ifCond .ne 13, 3) := by decide +kernel
theorem dX7_pass_11 : decode cX7_pass 11 = .ok (.new 55, 3) := by decide +kernel
theorem dX7_pass_14 : decode cX7_pass 14 = .ok (.dup, 1) := by decide +kernel
theorem dX7_pass_15 : decode cX7_pass 15 = .ok (.ldc 104, 2) := by decide +kernel
theorem dX7_pass_17 : decode cX7_pass 17 = .ok (.invokespecial 59, 3) := by decide +kernel
theorem dX7_pass_20 : decode cX7_pass 20 = .ok (.athrow, 1) := by decide +kernel
theorem dX7_pass_21 : decode cX7_pass 21 = .ok (.aload_n 0, 1) := by decide +kernel
theorem dX7_pass_22 : decode cX7_pass 22 = .ok (.getfield 45, 3) := by decide +kernel
theorem dX7_pass_25 : decode cX7_pass 25 = .ok (.iload_n 1, 1) := by decide +kernel
theorem dX7_pass_26 : decode cX7_pass 26 = .ok (.iadd, 1) := by decide +kernel
theorem dX7_pass_27 : decode cX7_pass 27 = .ok (.sipush 20000, 3) := by decide +kernel
theorem dX7_pass_30 : decode cX7_pass 30 = .ok (.if_icmp .le 13, 3) := by decide +kernel
theorem dX7_pass_33 : decode cX7_pass 33 = .ok (.new 66, 3) := by decide +kernel
theorem dX7_pass_36 : decode cX7_pass 36 = .ok (.dup, 1) := by decide +kernel
theorem dX7_pass_37 : decode cX7_pass 37 = .ok (.ldc 106, 2) := by decide +kernel
theorem dX7_pass_39 : decode cX7_pass 39 = .ok (.invokespecial 70, 3) := by decide +kernel
theorem dX7_pass_42 : decode cX7_pass 42 = .ok (.athrow, 1) := by decide +kernel
theorem dX7_pass_43 : decode cX7_pass 43 = .ok (.aload_n 0, 1) := by decide +kernel
theorem dX7_pass_44 : decode cX7_pass 44 = .ok (.dup, 1) := by decide +kernel
theorem dX7_pass_45 : decode cX7_pass 45 = .ok (.getfield 45, 3) := by decide +kernel
theorem dX7_pass_48 : decode cX7_pass 48 = .ok (.iload_n 1, 1) := by decide +kernel
theorem dX7_pass_49 : decode cX7_pass 49 = .ok (.iadd, 1) := by decide +kernel
theorem dX7_pass_50 : decode cX7_pass 50 = .ok (.putfield 45, 3) := by decide +kernel
theorem dX7_pass_53 : decode cX7_pass 53 = .ok (.aload_n 0, 1) := by decide +kernel
theorem dX7_pass_54 : decode cX7_pass 54 = .ok (.getfield 45, 3) := by decide +kernel
theorem dX7_pass_57 : decode cX7_pass 57 = .ok (.ireturn, 1) := by decide +kernel
theorem dX7_quota_0 : decode cX7_quota 0 = .ok (.aload_n 0, 1) := by decide +kernel
theorem dX7_quota_1 : decode cX7_quota 1 = .ok (.iload_n 1, 1) := by decide +kernel
theorem dX7_quota_2 : decode cX7_quota 2 = .ok (.invokevirtual 108, 3) := by decide +kernel
theorem dX7_quota_5 : decode cX7_quota 5 = .ok (.astore 4, 2) := by decide +kernel
theorem dX7_quota_7 : decode cX7_quota 7 = .ok (.iload_n 2, 1) := by decide +kernel
theorem dX7_quota_8 : decode cX7_quota 8 = .ok (.iconst 0, 1) := by decide +kernel
theorem dX7_quota_9 : decode cX7_quota 9 = .ok (.bipush 50, 2) := by decide +kernel
theorem dX7_quota_11 : decode cX7_quota 11 = .ok (.invokestatic 100, 3) := by decide +kernel
theorem dX7_quota_14 : decode cX7_quota 14 = .ok (.ifCond .eq 14, 3) := by decide +kernel
theorem dX7_quota_17 : decode cX7_quota 17 = .ok (.iload_n 3, 1) := by decide +kernel
theorem dX7_quota_18 : decode cX7_quota 18 = .ok (.iconst 1, 1) := by decide +kernel
theorem dX7_quota_19 : decode cX7_quota 19 = .ok (.sipush 1440, 3) := by decide +kernel
theorem dX7_quota_22 : decode cX7_quota 22 = .ok (.invokestatic 100, 3) := by decide +kernel
theorem dX7_quota_25 : decode cX7_quota 25 = .ok (.ifCond .ne 13, 3) := by decide +kernel
theorem dX7_quota_28 : decode cX7_quota 28 = .ok (.new 55, 3) := by decide +kernel
theorem dX7_quota_31 : decode cX7_quota 31 = .ok (.dup, 1) := by decide +kernel
theorem dX7_quota_32 : decode cX7_quota 32 = .ok (.ldc 112, 2) := by decide +kernel
theorem dX7_quota_34 : decode cX7_quota 34 = .ok (.invokespecial 59, 3) := by decide +kernel
theorem dX7_quota_37 : decode cX7_quota 37 = .ok (.athrow, 1) := by decide +kernel
theorem dX7_quota_38 : decode cX7_quota 38 = .ok (.aload 4, 2) := by decide +kernel
theorem dX7_quota_40 : decode cX7_quota 40 = .ok (.getfield 114, 3) := by decide +kernel
theorem dX7_quota_43 : decode cX7_quota 43 = .ok (.istore 5, 2) := by decide +kernel
theorem dX7_quota_45 : decode cX7_quota 45 = .ok (.aload 4, 2) := by decide +kernel
theorem dX7_quota_47 : decode cX7_quota 47 = .ok (.iload_n 2, 1) := by decide +kernel
theorem dX7_quota_48 : decode cX7_quota 48 = .ok (.putfield 114, 3) := by decide +kernel
theorem dX7_quota_51 : decode cX7_quota 51 = .ok (.aload 4, 2) := by decide +kernel
theorem dX7_quota_53 : decode cX7_quota 53 = .ok (.iload_n 3, 1) := by decide +kernel
theorem dX7_quota_54 : decode cX7_quota 54 = .ok (.putfield 117, 3) := by decide +kernel
theorem dX7_quota_57 : decode cX7_quota 57 = .ok (.iload 5, 2) := by decide +kernel
theorem dX7_quota_59 : decode cX7_quota 59 = .ok (.ireturn, 1) := by decide +kernel
theorem dX7_carrier_0 : decode cX7_carrier 0 = .ok (.aload_n 0, 1) := by decide +kernel
theorem dX7_carrier_1 : decode cX7_carrier 1 = .ok (.iload_n 1, 1) := by decide +kernel
theorem dX7_carrier_2 : decode cX7_carrier 2 = .ok (.invokevirtual 120, 3) := by decide +kernel
theorem dX7_carrier_5 : decode cX7_carrier 5 = .ok (.astore 4, 2) := by decide +kernel
theorem dX7_carrier_7 : decode cX7_carrier 7 = .ok (.iload_n 3, 1) := by decide +kernel
theorem dX7_carrier_8 : decode cX7_carrier 8 = .ok (.iconst 0, 1) := by decide +kernel
theorem dX7_carrier_9 : decode cX7_carrier 9 = .ok (.bipush 10, 2) := by decide +kernel
theorem dX7_carrier_11 : decode cX7_carrier 11 = .ok (.invokestatic 100, 3) := by decide +kernel
theorem dX7_carrier_14 : decode cX7_carrier 14 = .ok (.ifCond .ne 13, 3) := by decide +kernel
theorem dX7_carrier_17 : decode cX7_carrier 17 = .ok (.new 55, 3) := by decide +kernel
theorem dX7_carrier_20 : decode cX7_carrier 20 = .ok (.dup, 1) := by decide +kernel
theorem dX7_carrier_21 : decode cX7_carrier 21 = .ok (.ldc 124, 2) := by decide +kernel
theorem dX7_carrier_23 : decode cX7_carrier 23 = .ok (.invokespecial 59, 3) := by decide +kernel
theorem dX7_carrier_26 : decode cX7_carrier 26 = .ok (.athrow, 1) := by decide +kernel
theorem dX7_carrier_27 : decode cX7_carrier 27 = .ok (.aload 4, 2) := by decide +kernel
theorem dX7_carrier_29 : decode cX7_carrier 29 = .ok (.getfield 126, 3) := by decide +kernel
theorem dX7_carrier_32 : decode cX7_carrier 32 = .ok (.istore 5, 2) := by decide +kernel
theorem dX7_carrier_34 : decode cX7_carrier 34 = .ok (.aload 4, 2) := by decide +kernel
theorem dX7_carrier_36 : decode cX7_carrier 36 = .ok (.iload_n 2, 1) := by decide +kernel
theorem dX7_carrier_37 : decode cX7_carrier 37 = .ok (.putfield 129, 3) := by decide +kernel
theorem dX7_carrier_40 : decode cX7_carrier 40 = .ok (.aload 4, 2) := by decide +kernel
theorem dX7_carrier_42 : decode cX7_carrier 42 = .ok (.iload_n 3, 1) := by decide +kernel
theorem dX7_carrier_43 : decode cX7_carrier 43 = .ok (.putfield 126, 3) := by decide +kernel
theorem dX7_carrier_46 : decode cX7_carrier 46 = .ok (.iload 5, 2) := by decide +kernel
theorem dX7_carrier_48 : decode cX7_carrier 48 = .ok (.ireturn, 1) := by decide +kernel
theorem dX7_tariff_0 : decode cX7_tariff 0 = .ok (.aload_n 0, 1) := by decide +kernel
theorem dX7_tariff_1 : decode cX7_tariff 1 = .ok (.iload_n 1, 1) := by decide +kernel
theorem dX7_tariff_2 : decode cX7_tariff 2 = .ok (.invokevirtual 120, 3) := by decide +kernel
theorem dX7_tariff_5 : decode cX7_tariff 5 = .ok (.astore 5, 2) := by decide +kernel
theorem dX7_tariff_7 : decode cX7_tariff 7 = .ok (.iload_n 2, 1) := by decide +kernel
theorem dX7_tariff_8 : decode cX7_tariff 8 = .ok (.iconst 0, 1) := by decide +kernel
theorem dX7_tariff_9 : decode cX7_tariff 9 = .ok (.sipush 10000, 3) := by decide +kernel
theorem dX7_tariff_12 : decode cX7_tariff 12 = .ok (.invokestatic 100, 3) := by decide +kernel
theorem dX7_tariff_15 : decode cX7_tariff 15 = .ok (.ifCond .eq 26, 3) := by decide +kernel
theorem dX7_tariff_18 : decode cX7_tariff 18 = .ok (.iload_n 3, 1) := by decide +kernel
theorem dX7_tariff_19 : decode cX7_tariff 19 = .ok (.iconst 0, 1) := by decide +kernel
theorem dX7_tariff_20 : decode cX7_tariff 20 = .ok (.sipush 1000, 3) := by decide +kernel
theorem dX7_tariff_23 : decode cX7_tariff 23 = .ok (.invokestatic 100, 3) := by decide +kernel
theorem dX7_tariff_26 : decode cX7_tariff 26 = .ok (.ifCond .eq 15, 3) := by decide +kernel
theorem dX7_tariff_29 : decode cX7_tariff 29 = .ok (.iload 4, 2) := by decide +kernel
theorem dX7_tariff_31 : decode cX7_tariff 31 = .ok (.iconst 0, 1) := by decide +kernel
theorem dX7_tariff_32 : decode cX7_tariff 32 = .ok (.sipush 1000, 3) := by decide +kernel
theorem dX7_tariff_35 : decode cX7_tariff 35 = .ok (.invokestatic 100, 3) := by decide +kernel
theorem dX7_tariff_38 : decode cX7_tariff 38 = .ok (.ifCond .ne 13, 3) := by decide +kernel
theorem dX7_tariff_41 : decode cX7_tariff 41 = .ok (.new 55, 3) := by decide +kernel
theorem dX7_tariff_44 : decode cX7_tariff 44 = .ok (.dup, 1) := by decide +kernel
theorem dX7_tariff_45 : decode cX7_tariff 45 = .ok (.ldc 133, 2) := by decide +kernel
theorem dX7_tariff_47 : decode cX7_tariff 47 = .ok (.invokespecial 59, 3) := by decide +kernel
theorem dX7_tariff_50 : decode cX7_tariff 50 = .ok (.athrow, 1) := by decide +kernel
theorem dX7_tariff_51 : decode cX7_tariff 51 = .ok (.aload 5, 2) := by decide +kernel
theorem dX7_tariff_53 : decode cX7_tariff 53 = .ok (.getfield 135, 3) := by decide +kernel
theorem dX7_tariff_56 : decode cX7_tariff 56 = .ok (.getfield 139, 3) := by decide +kernel
theorem dX7_tariff_59 : decode cX7_tariff 59 = .ok (.istore 6, 2) := by decide +kernel
theorem dX7_tariff_61 : decode cX7_tariff 61 = .ok (.aload 5, 2) := by decide +kernel
theorem dX7_tariff_63 : decode cX7_tariff 63 = .ok (.new 140, 3) := by decide +kernel
theorem dX7_tariff_66 : decode cX7_tariff 66 = .ok (.dup, 1) := by decide +kernel
theorem dX7_tariff_67 : decode cX7_tariff 67 = .ok (.iload_n 2, 1) := by decide +kernel
theorem dX7_tariff_68 : decode cX7_tariff 68 = .ok (.iload_n 3, 1) := by decide +kernel
theorem dX7_tariff_69 : decode cX7_tariff 69 = .ok (.iload 4, 2) := by decide +kernel
theorem dX7_tariff_71 : decode cX7_tariff 71 = .ok (.invokespecial 144, 3) := by decide +kernel
theorem dX7_tariff_74 : decode cX7_tariff 74 = .ok (.putfield 135, 3) := by decide +kernel
theorem dX7_tariff_77 : decode cX7_tariff 77 = .ok (.iload 6, 2) := by decide +kernel
theorem dX7_tariff_79 : decode cX7_tariff 79 = .ok (.ireturn, 1) := by decide +kernel
theorem dX7_call_0 : decode cX7_call 0 = .ok (.aload_n 0, 1) := by decide +kernel
theorem dX7_call_1 : decode cX7_call 1 = .ok (.getfield 10, 3) := by decide +kernel
theorem dX7_call_4 : decode cX7_call 4 = .ok (.invokevirtual 79, 3) := by decide +kernel
theorem dX7_call_7 : decode cX7_call 7 = .ok (.invokevirtual 83, 3) := by decide +kernel
theorem dX7_call_10 : decode cX7_call 10 = .ok (.ifCond .ne 13, 3) := by decide +kernel
theorem dX7_call_13 : decode cX7_call 13 = .ok (.new 55, 3) := by decide +kernel
theorem dX7_call_16 : decode cX7_call 16 = .ok (.dup, 1) := by decide +kernel
theorem dX7_call_17 : decode cX7_call 17 = .ok (.ldc 147, 2) := by decide +kernel
theorem dX7_call_19 : decode cX7_call 19 = .ok (.invokespecial 59, 3) := by decide +kernel
theorem dX7_call_22 : decode cX7_call 22 = .ok (.athrow, 1) := by decide +kernel
theorem dX7_call_23 : decode cX7_call 23 = .ok (.aload_n 0, 1) := by decide +kernel
theorem dX7_call_24 : decode cX7_call 24 = .ok (.getfield 38, 3) := by decide +kernel
theorem dX7_call_27 : decode cX7_call 27 = .ok (.invokeinterface 149 1, 5) := by decide +kernel
theorem dX7_call_32 : decode cX7_call 32 = .ok (.bipush 100, 2) := by decide +kernel
theorem dX7_call_34 : decode cX7_call 34 = .ok (.if_icmp .lt 13, 3) := by decide +kernel
theorem dX7_call_37 : decode cX7_call 37 = .ok (.new 66, 3) := by decide +kernel
theorem dX7_call_40 : decode cX7_call 40 = .ok (.dup, 1) := by decide +kernel
theorem dX7_call_41 : decode cX7_call 41 = .ok (.ldc 154, 2) := by decide +kernel
theorem dX7_call_43 : decode cX7_call 43 = .ok (.invokespecial 70, 3) := by decide +kernel
theorem dX7_call_46 : decode cX7_call 46 = .ok (.athrow, 1) := by decide +kernel
theorem dX7_call_47 : decode cX7_call 47 = .ok (.aload_n 0, 1) := by decide +kernel
theorem dX7_call_48 : decode cX7_call 48 = .ok (.getfield 10, 3) := by decide +kernel
theorem dX7_call_51 : decode cX7_call 51 = .ok (.iconst 0, 1) := by decide +kernel
theorem dX7_call_52 : decode cX7_call 52 = .ok (.invokevirtual 156, 3) := by decide +kernel
theorem dX7_call_55 : decode cX7_call 55 = .ok (.istore_n 1, 1) := by decide +kernel
theorem dX7_call_56 : decode cX7_call 56 = .ok (.aload_n 0, 1) := by decide +kernel
theorem dX7_call_57 : decode cX7_call 57 = .ok (.aload_n 0, 1) := by decide +kernel
theorem dX7_call_58 : decode cX7_call 58 = .ok (.iload_n 1, 1) := by decide +kernel
theorem dX7_call_59 : decode cX7_call 59 = .ok (.invokevirtual 108, 3) := by decide +kernel
theorem dX7_call_62 : decode cX7_call 62 = .ok (.aload_n 0, 1) := by decide +kernel
theorem dX7_call_63 : decode cX7_call 63 = .ok (.aload_n 0, 1) := by decide +kernel
theorem dX7_call_64 : decode cX7_call 64 = .ok (.getfield 10, 3) := by decide +kernel
theorem dX7_call_67 : decode cX7_call 67 = .ok (.iconst 1, 1) := by decide +kernel
theorem dX7_call_68 : decode cX7_call 68 = .ok (.invokevirtual 156, 3) := by decide +kernel
theorem dX7_call_71 : decode cX7_call 71 = .ok (.invokevirtual 120, 3) := by decide +kernel
theorem dX7_call_74 : decode cX7_call 74 = .ok (.invokevirtual 160, 3) := by decide +kernel
theorem dX7_call_77 : decode cX7_call 77 = .ok (.istore_n 2, 1) := by decide +kernel
theorem dX7_call_78 : decode cX7_call 78 = .ok (.aload_n 0, 1) := by decide +kernel
theorem dX7_call_79 : decode cX7_call 79 = .ok (.getfield 19, 3) := by decide +kernel
theorem dX7_call_82 : decode cX7_call 82 = .ok (.iload_n 1, 1) := by decide +kernel
theorem dX7_call_83 : decode cX7_call 83 = .ok (.aload_n 0, 1) := by decide +kernel
theorem dX7_call_84 : decode cX7_call 84 = .ok (.getfield 45, 3) := by decide +kernel
theorem dX7_call_87 : decode cX7_call 87 = .ok (.iload_n 2, 1) := by decide +kernel
theorem dX7_call_88 : decode cX7_call 88 = .ok (.bipush (-2), 2) := by decide +kernel
theorem dX7_call_90 : decode cX7_call 90 = .ok (.if_icmp .ne 7, 3) := by decide +kernel
theorem dX7_call_93 : decode cX7_call 93 = .ok (.iconst 1, 1) := by decide +kernel
theorem dX7_call_94 : decode cX7_call 94 = .ok (.goto 4, 3) := by decide +kernel
theorem dX7_call_97 : decode cX7_call 97 = .ok (.iconst 0, 1) := by decide +kernel
theorem dX7_call_98 : decode cX7_call 98 = .ok (.invokevirtual 164, 3) := by decide +kernel
theorem dX7_call_101 : decode cX7_call 101 = .ok (.aload_n 0, 1) := by decide +kernel
theorem dX7_call_102 : decode cX7_call 102 = .ok (.getfield 10, 3) := by decide +kernel
theorem dX7_call_105 : decode cX7_call 105 = .ok (.invokevirtual 75, 3) := by decide +kernel
theorem dX7_call_108 : decode cX7_call 108 = .ok (.pop, 1) := by decide +kernel
theorem dX7_call_109 : decode cX7_call 109 = .ok (.iload_n 2, 1) := by decide +kernel
theorem dX7_call_110 : decode cX7_call 110 = .ok (.ireturn, 1) := by decide +kernel
theorem dX7_price_0 : decode cX7_price 0 = .ok (.aload_n 0, 1) := by decide +kernel
theorem dX7_price_1 : decode cX7_price 1 = .ok (.iload_n 1, 1) := by decide +kernel
theorem dX7_price_2 : decode cX7_price 2 = .ok (.invokevirtual 168, 3) := by decide +kernel
theorem dX7_price_5 : decode cX7_price 5 = .ok (.astore_n 2, 1) := by decide +kernel
theorem dX7_price_6 : decode cX7_price 6 = .ok (.aload_n 2, 1) := by decide +kernel
theorem dX7_price_7 : decode cX7_price 7 = .ok (.aload_n 2, 1) := by decide +kernel
theorem dX7_price_8 : decode cX7_price 8 = .ok (.getfield 172, 3) := by decide +kernel
theorem dX7_price_11 : decode cX7_price 11 = .ok (.aload_n 2, 1) := by decide +kernel
theorem dX7_price_12 : decode cX7_price 12 = .ok (.getfield 175, 3) := by decide +kernel
theorem dX7_price_15 : decode cX7_price 15 = .ok (.invokevirtual 178, 3) := by decide +kernel
theorem dX7_price_18 : decode cX7_price 18 = .ok (.ireturn, 1) := by decide +kernel
theorem dX7_fixed_0 : decode cX7_fixed 0 = .ok (.iconst 0, 1) := by decide +kernel
theorem dX7_fixed_1 : decode cX7_fixed 1 = .ok (.aload_n 0, 1) := by decide +kernel
theorem dX7_fixed_2 : decode cX7_fixed 2 = .ok (.iload_n 1, 1) := by decide +kernel
theorem dX7_fixed_3 : decode cX7_fixed 3 = .ok (.invokevirtual 168, 3) := by decide +kernel
theorem dX7_fixed_6 : decode cX7_fixed 6 = .ok (.getfield 182, 3) := by decide +kernel
theorem dX7_fixed_9 : decode cX7_fixed 9 = .ok (.aload_n 0, 1) := by decide +kernel
theorem dX7_fixed_10 : decode cX7_fixed 10 = .ok (.getfield 45, 3) := by decide +kernel
theorem dX7_fixed_13 : decode cX7_fixed 13 = .ok (.isub, 1) := by decide +kernel
theorem dX7_fixed_14 : decode cX7_fixed 14 = .ok (.invokestatic 185, 3) := by decide +kernel
theorem dX7_fixed_17 : decode cX7_fixed 17 = .ok (.ireturn, 1) := by decide +kernel
theorem dX7_left_0 : decode cX7_left 0 = .ok (.aload_n 0, 1) := by decide +kernel
theorem dX7_left_1 : decode cX7_left 1 = .ok (.iload_n 1, 1) := by decide +kernel
theorem dX7_left_2 : decode cX7_left 2 = .ok (.invokevirtual 108, 3) := by decide +kernel
theorem dX7_left_5 : decode cX7_left 5 = .ok (.aload_n 0, 1) := by decide +kernel
theorem dX7_left_6 : decode cX7_left 6 = .ok (.getfield 45, 3) := by decide +kernel
theorem dX7_left_9 : decode cX7_left 9 = .ok (.invokevirtual 191, 3) := by decide +kernel
theorem dX7_left_12 : decode cX7_left 12 = .ok (.ireturn, 1) := by decide +kernel
theorem dX7_leftByLog_0 : decode cX7_leftByLog 0 = .ok (.aload_n 0, 1) := by decide +kernel
theorem dX7_leftByLog_1 : decode cX7_leftByLog 1 = .ok (.iload_n 1, 1) := by decide +kernel
theorem dX7_leftByLog_2 : decode cX7_leftByLog 2 = .ok (.invokevirtual 108, 3) := by decide +kernel
theorem dX7_leftByLog_5 : decode cX7_leftByLog 5 = .ok (.astore_n 2, 1) := by decide +kernel
theorem dX7_leftByLog_6 : decode cX7_leftByLog 6 = .ok (.aload_n 0, 1) := by decide +kernel
theorem dX7_leftByLog_7 : decode cX7_leftByLog 7 = .ok (.getfield 19, 3) := by decide +kernel
theorem dX7_leftByLog_10 : decode cX7_leftByLog 10 = .ok (.iload_n 1, 1) := by decide +kernel
theorem dX7_leftByLog_11 : decode cX7_leftByLog 11 = .ok (.aload_n 0, 1) := by decide +kernel
theorem dX7_leftByLog_12 : decode cX7_leftByLog 12 = .ok (.getfield 45, 3) := by decide +kernel
theorem dX7_leftByLog_15 : decode cX7_leftByLog 15 = .ok (.aload_n 2, 1) := by decide +kernel
theorem dX7_leftByLog_16 : decode cX7_leftByLog 16 = .ok (.getfield 117, 3) := by decide +kernel
theorem dX7_leftByLog_19 : decode cX7_leftByLog 19 = .ok (.isub, 1) := by decide +kernel
theorem dX7_leftByLog_20 : decode cX7_leftByLog 20 = .ok (.invokevirtual 194, 3) := by decide +kernel
theorem dX7_leftByLog_23 : decode cX7_leftByLog 23 = .ok (.istore_n 3, 1) := by decide +kernel
theorem dX7_leftByLog_24 : decode cX7_leftByLog 24 = .ok (.iconst 0, 1) := by decide +kernel
theorem dX7_leftByLog_25 : decode cX7_leftByLog 25 = .ok (.aload_n 2, 1) := by decide +kernel
theorem dX7_leftByLog_26 : decode cX7_leftByLog 26 = .ok (.getfield 114, 3) := by decide +kernel
theorem dX7_leftByLog_29 : decode cX7_leftByLog 29 = .ok (.iload_n 3, 1) := by decide +kernel
theorem dX7_leftByLog_30 : decode cX7_leftByLog 30 = .ok (.isub, 1) := by decide +kernel
theorem dX7_leftByLog_31 : decode cX7_leftByLog 31 = .ok (.invokestatic 185, 3) := by decide +kernel
theorem dX7_leftByLog_34 : decode cX7_leftByLog 34 = .ok (.ireturn, 1) := by decide +kernel
theorem dX7_circuit_0 : decode cX7_circuit 0 = .ok (.aload_n 0, 1) := by decide +kernel
theorem dX7_circuit_1 : decode cX7_circuit 1 = .ok (.iload_n 1, 1) := by decide +kernel
theorem dX7_circuit_2 : decode cX7_circuit 2 = .ok (.invokevirtual 120, 3) := by decide +kernel
theorem dX7_circuit_5 : decode cX7_circuit 5 = .ok (.aload_n 0, 1) := by decide +kernel
theorem dX7_circuit_6 : decode cX7_circuit 6 = .ok (.getfield 45, 3) := by decide +kernel
theorem dX7_circuit_9 : decode cX7_circuit 9 = .ok (.invokevirtual 197, 3) := by decide +kernel
theorem dX7_circuit_12 : decode cX7_circuit 12 = .ok (.ireturn, 1) := by decide +kernel
theorem dX7_tries_0 : decode cX7_tries 0 = .ok (.aload_n 0, 1) := by decide +kernel
theorem dX7_tries_1 : decode cX7_tries 1 = .ok (.iload_n 1, 1) := by decide +kernel
theorem dX7_tries_2 : decode cX7_tries 2 = .ok (.invokevirtual 120, 3) := by decide +kernel
theorem dX7_tries_5 : decode cX7_tries 5 = .ok (.getfield 200, 3) := by decide +kernel
theorem dX7_tries_8 : decode cX7_tries 8 = .ok (.ireturn, 1) := by decide +kernel
theorem dX7_calls_0 : decode cX7_calls 0 = .ok (.aload_n 0, 1) := by decide +kernel
theorem dX7_calls_1 : decode cX7_calls 1 = .ok (.getfield 19, 3) := by decide +kernel
theorem dX7_calls_4 : decode cX7_calls 4 = .ok (.getfield 203, 3) := by decide +kernel
theorem dX7_calls_7 : decode cX7_calls 7 = .ok (.ireturn, 1) := by decide +kernel
theorem dX7_book_0 : decode cX7_book 0 = .ok (.aload_n 0, 1) := by decide +kernel
theorem dX7_book_1 : decode cX7_book 1 = .ok (.iload_n 1, 1) := by decide +kernel
theorem dX7_book_2 : decode cX7_book 2 = .ok (.invokevirtual 168, 3) := by decide +kernel
theorem dX7_book_5 : decode cX7_book 5 = .ok (.astore_n 2, 1) := by decide +kernel
theorem dX7_book_6 : decode cX7_book 6 = .ok (.aload_n 2, 1) := by decide +kernel
theorem dX7_book_7 : decode cX7_book 7 = .ok (.aload_n 2, 1) := by decide +kernel
theorem dX7_book_8 : decode cX7_book 8 = .ok (.getfield 172, 3) := by decide +kernel
theorem dX7_book_11 : decode cX7_book 11 = .ok (.aload_n 2, 1) := by decide +kernel
theorem dX7_book_12 : decode cX7_book 12 = .ok (.getfield 175, 3) := by decide +kernel
theorem dX7_book_15 : decode cX7_book 15 = .ok (.invokevirtual 178, 3) := by decide +kernel
theorem dX7_book_18 : decode cX7_book 18 = .ok (.istore_n 3, 1) := by decide +kernel
theorem dX7_book_19 : decode cX7_book 19 = .ok (.aload_n 2, 1) := by decide +kernel
theorem dX7_book_20 : decode cX7_book 20 = .ok (.aload_n 0, 1) := by decide +kernel
theorem dX7_book_21 : decode cX7_book 21 = .ok (.aload_n 2, 1) := by decide +kernel
theorem dX7_book_22 : decode cX7_book 22 = .ok (.getfield 206, 3) := by decide +kernel
theorem dX7_book_25 : decode cX7_book 25 = .ok (.invokevirtual 120, 3) := by decide +kernel
theorem dX7_book_28 : decode cX7_book 28 = .ok (.getfield 135, 3) := by decide +kernel
theorem dX7_book_31 : decode cX7_book 31 = .ok (.aload_n 2, 1) := by decide +kernel
theorem dX7_book_32 : decode cX7_book 32 = .ok (.getfield 175, 3) := by decide +kernel
theorem dX7_book_35 : decode cX7_book 35 = .ok (.invokevirtual 178, 3) := by decide +kernel
theorem dX7_book_38 : decode cX7_book 38 = .ok (.istore 4, 2) := by decide +kernel
theorem dX7_book_40 : decode cX7_book 40 = .ok (.aload_n 2, 1) := by decide +kernel
theorem dX7_book_41 : decode cX7_book 41 = .ok (.aload_n 0, 1) := by decide +kernel
theorem dX7_book_42 : decode cX7_book 42 = .ok (.getfield 45, 3) := by decide +kernel
theorem dX7_book_45 : decode cX7_book 45 = .ok (.invokevirtual 209, 3) := by decide +kernel
theorem dX7_book_48 : decode cX7_book 48 = .ok (.ifCond .ne 19, 3) := by decide +kernel
theorem dX7_book_51 : decode cX7_book 51 = .ok (.iload 4, 2) := by decide +kernel
theorem dX7_book_53 : decode cX7_book 53 = .ok (.iload_n 3, 1) := by decide +kernel
theorem dX7_book_54 : decode cX7_book 54 = .ok (.if_icmp .eq 13, 3) := by decide +kernel
theorem dX7_book_57 : decode cX7_book 57 = .ok (.new 66, 3) := by decide +kernel
theorem dX7_book_60 : decode cX7_book 60 = .ok (.dup, 1) := by decide +kernel
theorem dX7_book_61 : decode cX7_book 61 = .ok (.ldc 213, 2) := by decide +kernel
theorem dX7_book_63 : decode cX7_book 63 = .ok (.invokespecial 70, 3) := by decide +kernel
theorem dX7_book_66 : decode cX7_book 66 = .ok (.athrow, 1) := by decide +kernel
theorem dX7_book_67 : decode cX7_book 67 = .ok (.aload_n 0, 1) := by decide +kernel
theorem dX7_book_68 : decode cX7_book 68 = .ok (.getfield 42, 3) := by decide +kernel
theorem dX7_book_71 : decode cX7_book 71 = .ok (.invokeinterface 149 1, 5) := by decide +kernel
theorem dX7_book_76 : decode cX7_book 76 = .ok (.bipush 50, 2) := by decide +kernel
theorem dX7_book_78 : decode cX7_book 78 = .ok (.if_icmp .lt 13, 3) := by decide +kernel
theorem dX7_book_81 : decode cX7_book 81 = .ok (.new 66, 3) := by decide +kernel
theorem dX7_book_84 : decode cX7_book 84 = .ok (.dup, 1) := by decide +kernel
theorem dX7_book_85 : decode cX7_book 85 = .ok (.ldc 215, 2) := by decide +kernel
theorem dX7_book_87 : decode cX7_book 87 = .ok (.invokespecial 70, 3) := by decide +kernel
theorem dX7_book_90 : decode cX7_book 90 = .ok (.athrow, 1) := by decide +kernel
theorem dX7_book_91 : decode cX7_book 91 = .ok (.aload_n 0, 1) := by decide +kernel
theorem dX7_book_92 : decode cX7_book 92 = .ok (.getfield 42, 3) := by decide +kernel
theorem dX7_book_95 : decode cX7_book 95 = .ok (.new 217, 3) := by decide +kernel
theorem dX7_book_98 : decode cX7_book 98 = .ok (.dup, 1) := by decide +kernel
theorem dX7_book_99 : decode cX7_book 99 = .ok (.aload_n 2, 1) := by decide +kernel
theorem dX7_book_100 : decode cX7_book 100 = .ok (.iload_n 3, 1) := by decide +kernel
theorem dX7_book_101 : decode cX7_book 101 = .ok (.aload_n 0, 1) := by decide +kernel
theorem dX7_book_102 : decode cX7_book 102 = .ok (.getfield 45, 3) := by decide +kernel
theorem dX7_book_105 : decode cX7_book 105 = .ok (.invokespecial 219, 3) := by decide +kernel
theorem dX7_book_108 : decode cX7_book 108 = .ok (.invokeinterface 222 2, 5) := by decide +kernel
theorem dX7_book_113 : decode cX7_book 113 = .ok (.pop, 1) := by decide +kernel
theorem dX7_book_114 : decode cX7_book 114 = .ok (.aload_n 0, 1) := by decide +kernel
theorem dX7_book_115 : decode cX7_book 115 = .ok (.getfield 42, 3) := by decide +kernel
theorem dX7_book_118 : decode cX7_book 118 = .ok (.invokeinterface 149 1, 5) := by decide +kernel
theorem dX7_book_123 : decode cX7_book 123 = .ok (.iconst 1, 1) := by decide +kernel
theorem dX7_book_124 : decode cX7_book 124 = .ok (.isub, 1) := by decide +kernel
theorem dX7_book_125 : decode cX7_book 125 = .ok (.ireturn, 1) := by decide +kernel
theorem dX7_weigh_0 : decode cX7_weigh 0 = .ok (.aload_n 0, 1) := by decide +kernel
theorem dX7_weigh_1 : decode cX7_weigh 1 = .ok (.iload_n 1, 1) := by decide +kernel
theorem dX7_weigh_2 : decode cX7_weigh 2 = .ok (.invokevirtual 225, 3) := by decide +kernel
theorem dX7_weigh_5 : decode cX7_weigh 5 = .ok (.astore_n 3, 1) := by decide +kernel
theorem dX7_weigh_6 : decode cX7_weigh 6 = .ok (.iload_n 2, 1) := by decide +kernel
theorem dX7_weigh_7 : decode cX7_weigh 7 = .ok (.iconst 1, 1) := by decide +kernel
theorem dX7_weigh_8 : decode cX7_weigh 8 = .ok (.sipush 30000, 3) := by decide +kernel
theorem dX7_weigh_11 : decode cX7_weigh 11 = .ok (.invokestatic 100, 3) := by decide +kernel
theorem dX7_weigh_14 : decode cX7_weigh 14 = .ok (.ifCond .ne 13, 3) := by decide +kernel
theorem dX7_weigh_17 : decode cX7_weigh 17 = .ok (.new 55, 3) := by decide +kernel
theorem dX7_weigh_20 : decode cX7_weigh 20 = .ok (.dup, 1) := by decide +kernel
theorem dX7_weigh_21 : decode cX7_weigh 21 = .ok (.ldc 229, 2) := by decide +kernel
theorem dX7_weigh_23 : decode cX7_weigh 23 = .ok (.invokespecial 59, 3) := by decide +kernel
theorem dX7_weigh_26 : decode cX7_weigh 26 = .ok (.athrow, 1) := by decide +kernel
theorem dX7_weigh_27 : decode cX7_weigh 27 = .ok (.aload_n 3, 1) := by decide +kernel
theorem dX7_weigh_28 : decode cX7_weigh 28 = .ok (.getfield 231, 3) := by decide +kernel
theorem dX7_weigh_31 : decode cX7_weigh 31 = .ok (.ifCond .eq 13, 3) := by decide +kernel
theorem dX7_weigh_34 : decode cX7_weigh 34 = .ok (.new 66, 3) := by decide +kernel
theorem dX7_weigh_37 : decode cX7_weigh 37 = .ok (.dup, 1) := by decide +kernel
theorem dX7_weigh_38 : decode cX7_weigh 38 = .ok (.ldc 234, 2) := by decide +kernel
theorem dX7_weigh_40 : decode cX7_weigh 40 = .ok (.invokespecial 70, 3) := by decide +kernel
theorem dX7_weigh_43 : decode cX7_weigh 43 = .ok (.athrow, 1) := by decide +kernel
theorem dX7_weigh_44 : decode cX7_weigh 44 = .ok (.aload_n 3, 1) := by decide +kernel
theorem dX7_weigh_45 : decode cX7_weigh 45 = .ok (.getfield 236, 3) := by decide +kernel
theorem dX7_weigh_48 : decode cX7_weigh 48 = .ok (.istore 4, 2) := by decide +kernel
theorem dX7_weigh_50 : decode cX7_weigh 50 = .ok (.aload_n 3, 1) := by decide +kernel
theorem dX7_weigh_51 : decode cX7_weigh 51 = .ok (.aload_n 3, 1) := by decide +kernel
theorem dX7_weigh_52 : decode cX7_weigh 52 = .ok (.getfield 239, 3) := by decide +kernel
theorem dX7_weigh_55 : decode cX7_weigh 55 = .ok (.aload_n 3, 1) := by decide +kernel
theorem dX7_weigh_56 : decode cX7_weigh 56 = .ok (.getfield 239, 3) := by decide +kernel
theorem dX7_weigh_59 : decode cX7_weigh 59 = .ok (.getfield 172, 3) := by decide +kernel
theorem dX7_weigh_62 : decode cX7_weigh 62 = .ok (.iload_n 2, 1) := by decide +kernel
theorem dX7_weigh_63 : decode cX7_weigh 63 = .ok (.invokevirtual 178, 3) := by decide +kernel
theorem dX7_weigh_66 : decode cX7_weigh 66 = .ok (.putfield 236, 3) := by decide +kernel
theorem dX7_weigh_69 : decode cX7_weigh 69 = .ok (.aload_n 3, 1) := by decide +kernel
theorem dX7_weigh_70 : decode cX7_weigh 70 = .ok (.getfield 236, 3) := by decide +kernel
theorem dX7_weigh_73 : decode cX7_weigh 73 = .ok (.iload 4, 2) := by decide +kernel
theorem dX7_weigh_75 : decode cX7_weigh 75 = .ok (.isub, 1) := by decide +kernel
theorem dX7_weigh_76 : decode cX7_weigh 76 = .ok (.ireturn, 1) := by decide +kernel
theorem dX7_cancel_0 : decode cX7_cancel 0 = .ok (.aload_n 0, 1) := by decide +kernel
theorem dX7_cancel_1 : decode cX7_cancel 1 = .ok (.iload_n 1, 1) := by decide +kernel
theorem dX7_cancel_2 : decode cX7_cancel 2 = .ok (.invokevirtual 225, 3) := by decide +kernel
theorem dX7_cancel_5 : decode cX7_cancel 5 = .ok (.astore_n 2, 1) := by decide +kernel
theorem dX7_cancel_6 : decode cX7_cancel 6 = .ok (.aload_n 2, 1) := by decide +kernel
theorem dX7_cancel_7 : decode cX7_cancel 7 = .ok (.getfield 231, 3) := by decide +kernel
theorem dX7_cancel_10 : decode cX7_cancel 10 = .ok (.ifCond .ne 14, 3) := by decide +kernel
theorem dX7_cancel_13 : decode cX7_cancel 13 = .ok (.aload_n 2, 1) := by decide +kernel
theorem dX7_cancel_14 : decode cX7_cancel 14 = .ok (.aload_n 0, 1) := by decide +kernel
theorem dX7_cancel_15 : decode cX7_cancel 15 = .ok (.getfield 45, 3) := by decide +kernel
theorem dX7_cancel_18 : decode cX7_cancel 18 = .ok (.invokevirtual 243, 3) := by decide +kernel
theorem dX7_cancel_21 : decode cX7_cancel 21 = .ok (.ifCond .eq 13, 3) := by decide +kernel
theorem dX7_cancel_24 : decode cX7_cancel 24 = .ok (.new 66, 3) := by decide +kernel
theorem dX7_cancel_27 : decode cX7_cancel 27 = .ok (.dup, 1) := by decide +kernel
theorem dX7_cancel_28 : decode cX7_cancel 28 = .ok (.ldc 246, 2) := by decide +kernel
theorem dX7_cancel_30 : decode cX7_cancel 30 = .ok (.invokespecial 70, 3) := by decide +kernel
theorem dX7_cancel_33 : decode cX7_cancel 33 = .ok (.athrow, 1) := by decide +kernel
theorem dX7_cancel_34 : decode cX7_cancel 34 = .ok (.aload_n 2, 1) := by decide +kernel
theorem dX7_cancel_35 : decode cX7_cancel 35 = .ok (.iconst 1, 1) := by decide +kernel
theorem dX7_cancel_36 : decode cX7_cancel 36 = .ok (.putfield 231, 3) := by decide +kernel
theorem dX7_cancel_39 : decode cX7_cancel 39 = .ok (.aload_n 2, 1) := by decide +kernel
theorem dX7_cancel_40 : decode cX7_cancel 40 = .ok (.getfield 236, 3) := by decide +kernel
theorem dX7_cancel_43 : decode cX7_cancel 43 = .ok (.ireturn, 1) := by decide +kernel
theorem dX7_state_0 : decode cX7_state 0 = .ok (.aload_n 0, 1) := by decide +kernel
theorem dX7_state_1 : decode cX7_state 1 = .ok (.iload_n 1, 1) := by decide +kernel
theorem dX7_state_2 : decode cX7_state 2 = .ok (.invokevirtual 225, 3) := by decide +kernel
theorem dX7_state_5 : decode cX7_state 5 = .ok (.getfield 231, 3) := by decide +kernel
theorem dX7_state_8 : decode cX7_state 8 = .ok (.ireturn, 1) := by decide +kernel
theorem dX7_cost_0 : decode cX7_cost 0 = .ok (.aload_n 0, 1) := by decide +kernel
theorem dX7_cost_1 : decode cX7_cost 1 = .ok (.iload_n 1, 1) := by decide +kernel
theorem dX7_cost_2 : decode cX7_cost 2 = .ok (.invokevirtual 225, 3) := by decide +kernel
theorem dX7_cost_5 : decode cX7_cost 5 = .ok (.getfield 236, 3) := by decide +kernel
theorem dX7_cost_8 : decode cX7_cost 8 = .ok (.ireturn, 1) := by decide +kernel
theorem dX7_bill_0 : decode cX7_bill 0 = .ok (.aload_n 0, 1) := by decide +kernel
theorem dX7_bill_1 : decode cX7_bill 1 = .ok (.iload_n 1, 1) := by decide +kernel
theorem dX7_bill_2 : decode cX7_bill 2 = .ok (.invokevirtual 108, 3) := by decide +kernel
theorem dX7_bill_5 : decode cX7_bill 5 = .ok (.getfield 248, 3) := by decide +kernel
theorem dX7_bill_8 : decode cX7_bill 8 = .ok (.aload_n 0, 1) := by decide +kernel
theorem dX7_bill_9 : decode cX7_bill 9 = .ok (.iload_n 1, 1) := by decide +kernel
theorem dX7_bill_10 : decode cX7_bill 10 = .ok (.invokevirtual 251, 3) := by decide +kernel
theorem dX7_bill_13 : decode cX7_bill 13 = .ok (.iadd, 1) := by decide +kernel
theorem dX7_bill_14 : decode cX7_bill 14 = .ok (.ireturn, 1) := by decide +kernel
theorem dX7_close_0 : decode cX7_close 0 = .ok (.aload_n 0, 1) := by decide +kernel
theorem dX7_close_1 : decode cX7_close 1 = .ok (.iload_n 1, 1) := by decide +kernel
theorem dX7_close_2 : decode cX7_close 2 = .ok (.invokevirtual 108, 3) := by decide +kernel
theorem dX7_close_5 : decode cX7_close 5 = .ok (.astore_n 2, 1) := by decide +kernel
theorem dX7_close_6 : decode cX7_close 6 = .ok (.aload_n 2, 1) := by decide +kernel
theorem dX7_close_7 : decode cX7_close 7 = .ok (.getfield 248, 3) := by decide +kernel
theorem dX7_close_10 : decode cX7_close 10 = .ok (.aload_n 0, 1) := by decide +kernel
theorem dX7_close_11 : decode cX7_close 11 = .ok (.iload_n 1, 1) := by decide +kernel
theorem dX7_close_12 : decode cX7_close 12 = .ok (.invokevirtual 251, 3) := by decide +kernel
theorem dX7_close_15 : decode cX7_close 15 = .ok (.iadd, 1) := by decide +kernel
theorem dX7_close_16 : decode cX7_close 16 = .ok (.istore_n 3, 1) := by decide +kernel
theorem dX7_close_17 : decode cX7_close 17 = .ok (.aload_n 0, 1) := by decide +kernel
theorem dX7_close_18 : decode cX7_close 18 = .ok (.iload_n 1, 1) := by decide +kernel
theorem dX7_close_19 : decode cX7_close 19 = .ok (.invokevirtual 254, 3) := by decide +kernel
theorem dX7_close_22 : decode cX7_close 22 = .ok (.aload_n 2, 1) := by decide +kernel
theorem dX7_close_23 : decode cX7_close 23 = .ok (.iconst 0, 1) := by decide +kernel
theorem dX7_close_24 : decode cX7_close 24 = .ok (.putfield 248, 3) := by decide +kernel
theorem dX7_close_27 : decode cX7_close 27 = .ok (.aload_n 2, 1) := by decide +kernel
theorem dX7_close_28 : decode cX7_close 28 = .ok (.dup, 1) := by decide +kernel
theorem dX7_close_29 : decode cX7_close 29 = .ok (.getfield 258, 3) := by decide +kernel
theorem dX7_close_32 : decode cX7_close 32 = .ok (.iload_n 3, 1) := by decide +kernel
theorem dX7_close_33 : decode cX7_close 33 = .ok (.iadd, 1) := by decide +kernel
theorem dX7_close_34 : decode cX7_close 34 = .ok (.putfield 258, 3) := by decide +kernel
theorem dX7_close_37 : decode cX7_close 37 = .ok (.iload_n 3, 1) := by decide +kernel
theorem dX7_close_38 : decode cX7_close 38 = .ok (.ireturn, 1) := by decide +kernel
theorem dX7_billed_0 : decode cX7_billed 0 = .ok (.aload_n 0, 1) := by decide +kernel
theorem dX7_billed_1 : decode cX7_billed 1 = .ok (.iload_n 1, 1) := by decide +kernel
theorem dX7_billed_2 : decode cX7_billed 2 = .ok (.invokevirtual 108, 3) := by decide +kernel
theorem dX7_billed_5 : decode cX7_billed 5 = .ok (.getfield 258, 3) := by decide +kernel
theorem dX7_billed_8 : decode cX7_billed 8 = .ok (.ireturn, 1) := by decide +kernel
theorem dX7_isWithin_0 : decode cX7_isWithin 0 = .ok (.iload_n 0, 1) := by decide +kernel
theorem dX7_isWithin_1 : decode cX7_isWithin 1 = .ok (.iload_n 1, 1) := by decide +kernel
theorem dX7_isWithin_2 : decode cX7_isWithin 2 = .ok (.if_icmp .lt 12, 3) := by decide +kernel
theorem dX7_isWithin_5 : decode cX7_isWithin 5 = .ok (.iload_n 0, 1) := by decide +kernel
theorem dX7_isWithin_6 : decode cX7_isWithin 6 = .ok (.iload_n 2, 1) := by decide +kernel
theorem dX7_isWithin_7 : decode cX7_isWithin 7 = .ok (.if_icmp .gt 7, 3) := by decide +kernel
theorem dX7_isWithin_10 : decode cX7_isWithin 10 = .ok (.iconst 1, 1) := by decide +kernel
theorem dX7_isWithin_11 : decode cX7_isWithin 11 = .ok (.goto 4, 3) := by decide +kernel
theorem dX7_isWithin_14 : decode cX7_isWithin 14 = .ok (.iconst 0, 1) := by decide +kernel
theorem dX7_isWithin_15 : decode cX7_isWithin 15 = .ok (.ireturn, 1) := by decide +kernel
theorem dX7_shipperAt_0 : decode cX7_shipperAt 0 = .ok (.iload_n 1, 1) := by decide +kernel
theorem dX7_shipperAt_1 : decode cX7_shipperAt 1 = .ok (.ifCond .lt 12, 3) := by decide +kernel
theorem dX7_shipperAt_4 : decode cX7_shipperAt 4 = .ok (.iload_n 1, 1) := by decide +kernel
theorem dX7_shipperAt_5 : decode cX7_shipperAt 5 = .ok (.aload_n 0, 1) := by decide +kernel
theorem dX7_shipperAt_6 : decode cX7_shipperAt 6 = .ok (.getfield 25, 3) := by decide +kernel
theorem dX7_shipperAt_9 : decode cX7_shipperAt 9 = .ok (.arraylength, 1) := by decide +kernel
theorem dX7_shipperAt_10 : decode cX7_shipperAt 10 = .ok (.if_icmp .lt 14, 3) := by decide +kernel
theorem dX7_shipperAt_13 : decode cX7_shipperAt 13 = .ok (.new 91, 3) := by decide +kernel
theorem dX7_shipperAt_16 : decode cX7_shipperAt 16 = .ok (.dup, 1) := by decide +kernel
theorem dX7_shipperAt_17 : decode cX7_shipperAt 17 = .ok (.ldc_w 261, 3) := by decide +kernel
theorem dX7_shipperAt_20 : decode cX7_shipperAt 20 = .ok (.invokespecial 95, 3) := by decide +kernel
theorem dX7_shipperAt_23 : decode cX7_shipperAt 23 = .ok (.athrow, 1) := by decide +kernel
theorem dX7_shipperAt_24 : decode cX7_shipperAt 24 = .ok (.aload_n 0, 1) := by decide +kernel
theorem dX7_shipperAt_25 : decode cX7_shipperAt 25 = .ok (.getfield 25, 3) := by decide +kernel
theorem dX7_shipperAt_28 : decode cX7_shipperAt 28 = .ok (.iload_n 1, 1) := by decide +kernel
theorem dX7_shipperAt_29 : decode cX7_shipperAt 29 = .ok (.aaload, 1) := by decide +kernel
theorem dX7_shipperAt_30 : decode cX7_shipperAt 30 = .ok (.areturn, 1) := by decide +kernel
theorem dX7_carrierAt_0 : decode cX7_carrierAt 0 = .ok (.iload_n 1, 1) := by decide +kernel
theorem dX7_carrierAt_1 : decode cX7_carrierAt 1 = .ok (.ifCond .lt 12, 3) := by decide +kernel
theorem dX7_carrierAt_4 : decode cX7_carrierAt 4 = .ok (.iload_n 1, 1) := by decide +kernel
theorem dX7_carrierAt_5 : decode cX7_carrierAt 5 = .ok (.aload_n 0, 1) := by decide +kernel
theorem dX7_carrierAt_6 : decode cX7_carrierAt 6 = .ok (.getfield 31, 3) := by decide +kernel
theorem dX7_carrierAt_9 : decode cX7_carrierAt 9 = .ok (.arraylength, 1) := by decide +kernel
theorem dX7_carrierAt_10 : decode cX7_carrierAt 10 = .ok (.if_icmp .lt 14, 3) := by decide +kernel
theorem dX7_carrierAt_13 : decode cX7_carrierAt 13 = .ok (.new 91, 3) := by decide +kernel
theorem dX7_carrierAt_16 : decode cX7_carrierAt 16 = .ok (.dup, 1) := by decide +kernel
theorem dX7_carrierAt_17 : decode cX7_carrierAt 17 = .ok (.ldc_w 263, 3) := by decide +kernel
theorem dX7_carrierAt_20 : decode cX7_carrierAt 20 = .ok (.invokespecial 95, 3) := by decide +kernel
theorem dX7_carrierAt_23 : decode cX7_carrierAt 23 = .ok (.athrow, 1) := by decide +kernel
theorem dX7_carrierAt_24 : decode cX7_carrierAt 24 = .ok (.aload_n 0, 1) := by decide +kernel
theorem dX7_carrierAt_25 : decode cX7_carrierAt 25 = .ok (.getfield 31, 3) := by decide +kernel
theorem dX7_carrierAt_28 : decode cX7_carrierAt 28 = .ok (.iload_n 1, 1) := by decide +kernel
theorem dX7_carrierAt_29 : decode cX7_carrierAt 29 = .ok (.aaload, 1) := by decide +kernel
theorem dX7_carrierAt_30 : decode cX7_carrierAt 30 = .ok (.areturn, 1) := by decide +kernel
theorem dX7_quoteAt_0 : decode cX7_quoteAt 0 = .ok (.iload_n 1, 1) := by decide +kernel
theorem dX7_quoteAt_1 : decode cX7_quoteAt 1 = .ok (.ifCond .lt 16, 3) := by decide +kernel
theorem dX7_quoteAt_4 : decode cX7_quoteAt 4 = .ok (.iload_n 1, 1) := by decide +kernel
theorem dX7_quoteAt_5 : decode cX7_quoteAt 5 = .ok (.aload_n 0, 1) := by decide +kernel
theorem dX7_quoteAt_6 : decode cX7_quoteAt 6 = .ok (.getfield 38, 3) := by decide +kernel
theorem dX7_quoteAt_9 : decode cX7_quoteAt 9 = .ok (.invokeinterface 149 1, 5) := by decide +kernel
theorem dX7_quoteAt_14 : decode cX7_quoteAt 14 = .ok (.if_icmp .lt 14, 3) := by decide +kernel
theorem dX7_quoteAt_17 : decode cX7_quoteAt 17 = .ok (.new 91, 3) := by decide +kernel
theorem dX7_quoteAt_20 : decode cX7_quoteAt 20 = .ok (.dup, 1) := by decide +kernel
theorem dX7_quoteAt_21 : decode cX7_quoteAt 21 = .ok (.ldc_w 265, 3) := by decide +kernel
theorem dX7_quoteAt_24 : decode cX7_quoteAt 24 = .ok (.invokespecial 95, 3) := by decide +kernel
theorem dX7_quoteAt_27 : decode cX7_quoteAt 27 = .ok (.athrow, 1) := by decide +kernel
theorem dX7_quoteAt_28 : decode cX7_quoteAt 28 = .ok (.aload_n 0, 1) := by decide +kernel
theorem dX7_quoteAt_29 : decode cX7_quoteAt 29 = .ok (.getfield 38, 3) := by decide +kernel
theorem dX7_quoteAt_32 : decode cX7_quoteAt 32 = .ok (.iload_n 1, 1) := by decide +kernel
theorem dX7_quoteAt_33 : decode cX7_quoteAt 33 = .ok (.invokeinterface 267 2, 5) := by decide +kernel
theorem dX7_quoteAt_38 : decode cX7_quoteAt 38 = .ok (.checkcast 173, 3) := by decide +kernel
theorem dX7_quoteAt_41 : decode cX7_quoteAt 41 = .ok (.areturn, 1) := by decide +kernel
theorem dX7_parcelAt_0 : decode cX7_parcelAt 0 = .ok (.iload_n 1, 1) := by decide +kernel
theorem dX7_parcelAt_1 : decode cX7_parcelAt 1 = .ok (.ifCond .lt 16, 3) := by decide +kernel
theorem dX7_parcelAt_4 : decode cX7_parcelAt 4 = .ok (.iload_n 1, 1) := by decide +kernel
theorem dX7_parcelAt_5 : decode cX7_parcelAt 5 = .ok (.aload_n 0, 1) := by decide +kernel
theorem dX7_parcelAt_6 : decode cX7_parcelAt 6 = .ok (.getfield 42, 3) := by decide +kernel
theorem dX7_parcelAt_9 : decode cX7_parcelAt 9 = .ok (.invokeinterface 149 1, 5) := by decide +kernel
theorem dX7_parcelAt_14 : decode cX7_parcelAt 14 = .ok (.if_icmp .lt 14, 3) := by decide +kernel
theorem dX7_parcelAt_17 : decode cX7_parcelAt 17 = .ok (.new 91, 3) := by decide +kernel
theorem dX7_parcelAt_20 : decode cX7_parcelAt 20 = .ok (.dup, 1) := by decide +kernel
theorem dX7_parcelAt_21 : decode cX7_parcelAt 21 = .ok (.ldc_w 271, 3) := by decide +kernel
theorem dX7_parcelAt_24 : decode cX7_parcelAt 24 = .ok (.invokespecial 95, 3) := by decide +kernel
theorem dX7_parcelAt_27 : decode cX7_parcelAt 27 = .ok (.athrow, 1) := by decide +kernel
theorem dX7_parcelAt_28 : decode cX7_parcelAt 28 = .ok (.aload_n 0, 1) := by decide +kernel
theorem dX7_parcelAt_29 : decode cX7_parcelAt 29 = .ok (.getfield 42, 3) := by decide +kernel
theorem dX7_parcelAt_32 : decode cX7_parcelAt 32 = .ok (.iload_n 1, 1) := by decide +kernel
theorem dX7_parcelAt_33 : decode cX7_parcelAt 33 = .ok (.invokeinterface 267 2, 5) := by decide +kernel
theorem dX7_parcelAt_38 : decode cX7_parcelAt 38 = .ok (.checkcast 217, 3) := by decide +kernel
theorem dX7_parcelAt_41 : decode cX7_parcelAt 41 = .ok (.areturn, 1) := by decide +kernel
theorem dX7_answerTo_0 : decode cX7_answerTo 0 = .ok (.aload_n 1, 1) := by decide +kernel
theorem dX7_answerTo_1 : decode cX7_answerTo 1 = .ok (.aload_n 0, 1) := by decide +kernel
theorem dX7_answerTo_2 : decode cX7_answerTo 2 = .ok (.getfield 45, 3) := by decide +kernel
theorem dX7_answerTo_5 : decode cX7_answerTo 5 = .ok (.invokevirtual 191, 3) := by decide +kernel
theorem dX7_answerTo_8 : decode cX7_answerTo 8 = .ok (.ifCond .ne 6, 3) := by decide +kernel
theorem dX7_answerTo_11 : decode cX7_answerTo 11 = .ok (.bipush (-2), 2) := by decide +kernel
theorem dX7_answerTo_13 : decode cX7_answerTo 13 = .ok (.ireturn, 1) := by decide +kernel
theorem dX7_answerTo_14 : decode cX7_answerTo 14 = .ok (.aload_n 1, 1) := by decide +kernel
theorem dX7_answerTo_15 : decode cX7_answerTo 15 = .ok (.aload_n 0, 1) := by decide +kernel
theorem dX7_answerTo_16 : decode cX7_answerTo 16 = .ok (.getfield 45, 3) := by decide +kernel
theorem dX7_answerTo_19 : decode cX7_answerTo 19 = .ok (.invokevirtual 273, 3) := by decide +kernel
theorem dX7_answerTo_22 : decode cX7_answerTo 22 = .ok (.aload_n 0, 1) := by decide +kernel
theorem dX7_answerTo_23 : decode cX7_answerTo 23 = .ok (.invokevirtual 276, 3) := by decide +kernel
theorem dX7_answerTo_26 : decode cX7_answerTo 26 = .ok (.astore_n 3, 1) := by decide +kernel
theorem dX7_answerTo_27 : decode cX7_answerTo 27 = .ok (.aload_n 3, 1) := by decide +kernel
theorem dX7_answerTo_28 : decode cX7_answerTo 28 = .ok (.ifnull 26, 3) := by decide +kernel
theorem dX7_answerTo_31 : decode cX7_answerTo 31 = .ok (.aload_n 1, 1) := by decide +kernel
theorem dX7_answerTo_32 : decode cX7_answerTo 32 = .ok (.dup, 1) := by decide +kernel
theorem dX7_answerTo_33 : decode cX7_answerTo 33 = .ok (.getfield 248, 3) := by decide +kernel
theorem dX7_answerTo_36 : decode cX7_answerTo 36 = .ok (.iconst 1, 1) := by decide +kernel
theorem dX7_answerTo_37 : decode cX7_answerTo 37 = .ok (.iadd, 1) := by decide +kernel
theorem dX7_answerTo_38 : decode cX7_answerTo 38 = .ok (.putfield 248, 3) := by decide +kernel
theorem dX7_answerTo_41 : decode cX7_answerTo 41 = .ok (.aload_n 0, 1) := by decide +kernel
theorem dX7_answerTo_42 : decode cX7_answerTo 42 = .ok (.aload_n 3, 1) := by decide +kernel
theorem dX7_answerTo_43 : decode cX7_answerTo 43 = .ok (.getfield 172, 3) := by decide +kernel
theorem dX7_answerTo_46 : decode cX7_answerTo 46 = .ok (.aload_n 3, 1) := by decide +kernel
theorem dX7_answerTo_47 : decode cX7_answerTo 47 = .ok (.getfield 182, 3) := by decide +kernel
theorem dX7_answerTo_50 : decode cX7_answerTo 50 = .ok (.invokevirtual 280, 3) := by decide +kernel
theorem dX7_answerTo_53 : decode cX7_answerTo 53 = .ok (.ireturn, 1) := by decide +kernel
theorem dX7_answerTo_54 : decode cX7_answerTo 54 = .ok (.aload_n 2, 1) := by decide +kernel
theorem dX7_answerTo_55 : decode cX7_answerTo 55 = .ok (.aload_n 0, 1) := by decide +kernel
theorem dX7_answerTo_56 : decode cX7_answerTo 56 = .ok (.getfield 45, 3) := by decide +kernel
theorem dX7_answerTo_59 : decode cX7_answerTo 59 = .ok (.invokevirtual 197, 3) := by decide +kernel
theorem dX7_answerTo_62 : decode cX7_answerTo 62 = .ok (.iconst 1, 1) := by decide +kernel
theorem dX7_answerTo_63 : decode cX7_answerTo 63 = .ok (.if_icmp .ne 16, 3) := by decide +kernel
theorem dX7_answerTo_66 : decode cX7_answerTo 66 = .ok (.aload_n 1, 1) := by decide +kernel
theorem dX7_answerTo_67 : decode cX7_answerTo 67 = .ok (.dup, 1) := by decide +kernel
theorem dX7_answerTo_68 : decode cX7_answerTo 68 = .ok (.getfield 248, 3) := by decide +kernel
theorem dX7_answerTo_71 : decode cX7_answerTo 71 = .ok (.iconst 1, 1) := by decide +kernel
theorem dX7_answerTo_72 : decode cX7_answerTo 72 = .ok (.iadd, 1) := by decide +kernel
theorem dX7_answerTo_73 : decode cX7_answerTo 73 = .ok (.putfield 248, 3) := by decide +kernel
theorem dX7_answerTo_76 : decode cX7_answerTo 76 = .ok (.bipush (-3), 2) := by decide +kernel
theorem dX7_answerTo_78 : decode cX7_answerTo 78 = .ok (.ireturn, 1) := by decide +kernel
theorem dX7_answerTo_79 : decode cX7_answerTo 79 = .ok (.aload_n 2, 1) := by decide +kernel
theorem dX7_answerTo_80 : decode cX7_answerTo 80 = .ok (.aload_n 0, 1) := by decide +kernel
theorem dX7_answerTo_81 : decode cX7_answerTo 81 = .ok (.getfield 45, 3) := by decide +kernel
theorem dX7_answerTo_84 : decode cX7_answerTo 84 = .ok (.invokevirtual 283, 3) := by decide +kernel
theorem dX7_answerTo_87 : decode cX7_answerTo 87 = .ok (.ifCond .ne 16, 3) := by decide +kernel
theorem dX7_answerTo_90 : decode cX7_answerTo 90 = .ok (.aload_n 1, 1) := by decide +kernel
theorem dX7_answerTo_91 : decode cX7_answerTo 91 = .ok (.dup, 1) := by decide +kernel
theorem dX7_answerTo_92 : decode cX7_answerTo 92 = .ok (.getfield 248, 3) := by decide +kernel
theorem dX7_answerTo_95 : decode cX7_answerTo 95 = .ok (.iconst 1, 1) := by decide +kernel
theorem dX7_answerTo_96 : decode cX7_answerTo 96 = .ok (.iadd, 1) := by decide +kernel
theorem dX7_answerTo_97 : decode cX7_answerTo 97 = .ok (.putfield 248, 3) := by decide +kernel
theorem dX7_answerTo_100 : decode cX7_answerTo 100 = .ok (.bipush (-4), 2) := by decide +kernel
theorem dX7_answerTo_102 : decode cX7_answerTo 102 = .ok (.ireturn, 1) := by decide +kernel
theorem dX7_answerTo_103 : decode cX7_answerTo 103 = .ok (.aload_n 1, 1) := by decide +kernel
theorem dX7_answerTo_104 : decode cX7_answerTo 104 = .ok (.dup, 1) := by decide +kernel
theorem dX7_answerTo_105 : decode cX7_answerTo 105 = .ok (.getfield 248, 3) := by decide +kernel
theorem dX7_answerTo_108 : decode cX7_answerTo 108 = .ok (.iconst 3, 1) := by decide +kernel
theorem dX7_answerTo_109 : decode cX7_answerTo 109 = .ok (.iadd, 1) := by decide +kernel
theorem dX7_answerTo_110 : decode cX7_answerTo 110 = .ok (.putfield 248, 3) := by decide +kernel
theorem dX7_answerTo_113 : decode cX7_answerTo 113 = .ok (.aload_n 0, 1) := by decide +kernel
theorem dX7_answerTo_114 : decode cX7_answerTo 114 = .ok (.aload_n 2, 1) := by decide +kernel
theorem dX7_answerTo_115 : decode cX7_answerTo 115 = .ok (.getfield 135, 3) := by decide +kernel
theorem dX7_answerTo_118 : decode cX7_answerTo 118 = .ok (.aload_n 0, 1) := by decide +kernel
theorem dX7_answerTo_119 : decode cX7_answerTo 119 = .ok (.getfield 45, 3) := by decide +kernel
theorem dX7_answerTo_122 : decode cX7_answerTo 122 = .ok (.bipush 60, 2) := by decide +kernel
theorem dX7_answerTo_124 : decode cX7_answerTo 124 = .ok (.iadd, 1) := by decide +kernel
theorem dX7_answerTo_125 : decode cX7_answerTo 125 = .ok (.invokevirtual 280, 3) := by decide +kernel
theorem dX7_answerTo_128 : decode cX7_answerTo 128 = .ok (.ireturn, 1) := by decide +kernel
theorem dX7_quoteFixingRequest_0 : decode cX7_quoteFixingRequest 0 = .ok (.iconst 0, 1) := by decide +kernel
theorem dX7_quoteFixingRequest_1 : decode cX7_quoteFixingRequest 1 = .ok (.istore_n 1, 1) := by decide +kernel
theorem dX7_quoteFixingRequest_2 : decode cX7_quoteFixingRequest 2 = .ok (.iload_n 1, 1) := by decide +kernel
theorem dX7_quoteFixingRequest_3 : decode cX7_quoteFixingRequest 3 = .ok (.aload_n 0, 1) := by decide +kernel
theorem dX7_quoteFixingRequest_4 : decode cX7_quoteFixingRequest 4 = .ok (.getfield 38, 3) := by decide +kernel
theorem dX7_quoteFixingRequest_7 : decode cX7_quoteFixingRequest 7 = .ok (.invokeinterface 149 1, 5) := by decide +kernel
theorem dX7_quoteFixingRequest_12 : decode cX7_quoteFixingRequest 12 = .ok (.if_icmp .ge 47, 3) := by decide +kernel
theorem dX7_quoteFixingRequest_15 : decode cX7_quoteFixingRequest 15 = .ok (.aload_n 0, 1) := by decide +kernel
theorem dX7_quoteFixingRequest_16 : decode cX7_quoteFixingRequest 16 = .ok (.getfield 38, 3) := by decide +kernel
theorem dX7_quoteFixingRequest_19 : decode cX7_quoteFixingRequest 19 = .ok (.iload_n 1, 1) := by decide +kernel
theorem dX7_quoteFixingRequest_20 : decode cX7_quoteFixingRequest 20 = .ok (.invokeinterface 267 2, 5) := by decide +kernel
theorem dX7_quoteFixingRequest_25 : decode cX7_quoteFixingRequest 25 = .ok (.checkcast 173, 3) := by decide +kernel
theorem dX7_quoteFixingRequest_28 : decode cX7_quoteFixingRequest 28 = .ok (.astore_n 2, 1) := by decide +kernel
theorem dX7_quoteFixingRequest_29 : decode cX7_quoteFixingRequest 29 = .ok (.aload_n 2, 1) := by decide +kernel
theorem dX7_quoteFixingRequest_30 : decode cX7_quoteFixingRequest 30 = .ok (.aload_n 0, 1) := by decide +kernel
theorem dX7_quoteFixingRequest_31 : decode cX7_quoteFixingRequest 31 = .ok (.getfield 45, 3) := by decide +kernel
theorem dX7_quoteFixingRequest_34 : decode cX7_quoteFixingRequest 34 = .ok (.invokevirtual 209, 3) := by decide +kernel
theorem dX7_quoteFixingRequest_37 : decode cX7_quoteFixingRequest 37 = .ok (.ifCond .eq 16, 3) := by decide +kernel
theorem dX7_quoteFixingRequest_40 : decode cX7_quoteFixingRequest 40 = .ok (.aload_n 2, 1) := by decide +kernel
theorem dX7_quoteFixingRequest_41 : decode cX7_quoteFixingRequest 41 = .ok (.aload_n 0, 1) := by decide +kernel
theorem dX7_quoteFixingRequest_42 : decode cX7_quoteFixingRequest 42 = .ok (.getfield 10, 3) := by decide +kernel
theorem dX7_quoteFixingRequest_45 : decode cX7_quoteFixingRequest 45 = .ok (.invokevirtual 286, 3) := by decide +kernel
theorem dX7_quoteFixingRequest_48 : decode cX7_quoteFixingRequest 48 = .ok (.ifCond .eq 5, 3) := by decide +kernel
theorem dX7_quoteFixingRequest_51 : decode cX7_quoteFixingRequest 51 = .ok (.aload_n 2, 1) := by decide +kernel
theorem dX7_quoteFixingRequest_52 : decode cX7_quoteFixingRequest 52 = .ok (.areturn, 1) := by decide +kernel
theorem dX7_quoteFixingRequest_53 : decode cX7_quoteFixingRequest 53 = .ok (.iinc 1 1, 3) := by decide +kernel
theorem dX7_quoteFixingRequest_56 : decode cX7_quoteFixingRequest 56 = .ok (.goto (-54), 3) := by decide +kernel
theorem dX7_quoteFixingRequest_59 : decode cX7_quoteFixingRequest 59 = .ok (.aconst_null, 1) := by decide +kernel
theorem dX7_quoteFixingRequest_60 : decode cX7_quoteFixingRequest 60 = .ok (.areturn, 1) := by decide +kernel
theorem dX7_addQuote_0 : decode cX7_addQuote 0 = .ok (.aload_n 0, 1) := by decide +kernel
theorem dX7_addQuote_1 : decode cX7_addQuote 1 = .ok (.getfield 38, 3) := by decide +kernel
theorem dX7_addQuote_4 : decode cX7_addQuote 4 = .ok (.new 173, 3) := by decide +kernel
theorem dX7_addQuote_7 : decode cX7_addQuote 7 = .ok (.dup, 1) := by decide +kernel
theorem dX7_addQuote_8 : decode cX7_addQuote 8 = .ok (.aload_n 0, 1) := by decide +kernel
theorem dX7_addQuote_9 : decode cX7_addQuote 9 = .ok (.getfield 10, 3) := by decide +kernel
theorem dX7_addQuote_12 : decode cX7_addQuote 12 = .ok (.aload_n 1, 1) := by decide +kernel
theorem dX7_addQuote_13 : decode cX7_addQuote 13 = .ok (.iload_n 2, 1) := by decide +kernel
theorem dX7_addQuote_14 : decode cX7_addQuote 14 = .ok (.invokespecial 290, 3) := by decide +kernel
theorem dX7_addQuote_17 : decode cX7_addQuote 17 = .ok (.invokeinterface 222 2, 5) := by decide +kernel
theorem dX7_addQuote_22 : decode cX7_addQuote 22 = .ok (.pop, 1) := by decide +kernel
theorem dX7_addQuote_23 : decode cX7_addQuote 23 = .ok (.aload_n 0, 1) := by decide +kernel
theorem dX7_addQuote_24 : decode cX7_addQuote 24 = .ok (.getfield 38, 3) := by decide +kernel
theorem dX7_addQuote_27 : decode cX7_addQuote 27 = .ok (.invokeinterface 149 1, 5) := by decide +kernel
theorem dX7_addQuote_32 : decode cX7_addQuote 32 = .ok (.iconst 1, 1) := by decide +kernel
theorem dX7_addQuote_33 : decode cX7_addQuote 33 = .ok (.isub, 1) := by decide +kernel
theorem dX7_addQuote_34 : decode cX7_addQuote 34 = .ok (.ireturn, 1) := by decide +kernel
theorem dX7_dueParcelCosts_0 : decode cX7_dueParcelCosts 0 = .ok (.iconst 0, 1) := by decide +kernel
theorem dX7_dueParcelCosts_1 : decode cX7_dueParcelCosts 1 = .ok (.istore_n 2, 1) := by decide +kernel
theorem dX7_dueParcelCosts_2 : decode cX7_dueParcelCosts 2 = .ok (.iconst 0, 1) := by decide +kernel
theorem dX7_dueParcelCosts_3 : decode cX7_dueParcelCosts 3 = .ok (.istore_n 3, 1) := by decide +kernel
theorem dX7_dueParcelCosts_4 : decode cX7_dueParcelCosts 4 = .ok (.iload_n 3, 1) := by decide +kernel
theorem dX7_dueParcelCosts_5 : decode cX7_dueParcelCosts 5 = .ok (.aload_n 0, 1) := by decide +kernel
theorem dX7_dueParcelCosts_6 : decode cX7_dueParcelCosts 6 = .ok (.getfield 42, 3) := by decide +kernel
theorem dX7_dueParcelCosts_9 : decode cX7_dueParcelCosts 9 = .ok (.invokeinterface 149 1, 5) := by decide +kernel
theorem dX7_dueParcelCosts_14 : decode cX7_dueParcelCosts 14 = .ok (.if_icmp .ge 45, 3) := by decide +kernel
theorem dX7_dueParcelCosts_17 : decode cX7_dueParcelCosts 17 = .ok (.aload_n 0, 1) := by decide +kernel
theorem dX7_dueParcelCosts_18 : decode cX7_dueParcelCosts 18 = .ok (.getfield 42, 3) := by decide +kernel
theorem dX7_dueParcelCosts_21 : decode cX7_dueParcelCosts 21 = .ok (.iload_n 3, 1) := by decide +kernel
theorem dX7_dueParcelCosts_22 : decode cX7_dueParcelCosts 22 = .ok (.invokeinterface 267 2, 5) := by decide +kernel
theorem dX7_dueParcelCosts_27 : decode cX7_dueParcelCosts 27 = .ok (.checkcast 217, 3) := by decide +kernel
theorem dX7_dueParcelCosts_30 : decode cX7_dueParcelCosts 30 = .ok (.astore 4, 2) := by decide +kernel
theorem dX7_dueParcelCosts_32 : decode cX7_dueParcelCosts 32 = .ok (.aload 4, 2) := by decide +kernel
theorem dX7_dueParcelCosts_34 : decode cX7_dueParcelCosts 34 = .ok (.iload_n 1, 1) := by decide +kernel
theorem dX7_dueParcelCosts_35 : decode cX7_dueParcelCosts 35 = .ok (.aload_n 0, 1) := by decide +kernel
theorem dX7_dueParcelCosts_36 : decode cX7_dueParcelCosts 36 = .ok (.getfield 45, 3) := by decide +kernel
theorem dX7_dueParcelCosts_39 : decode cX7_dueParcelCosts 39 = .ok (.invokevirtual 293, 3) := by decide +kernel
theorem dX7_dueParcelCosts_42 : decode cX7_dueParcelCosts 42 = .ok (.ifCond .eq 11, 3) := by decide +kernel
theorem dX7_dueParcelCosts_45 : decode cX7_dueParcelCosts 45 = .ok (.iload_n 2, 1) := by decide +kernel
theorem dX7_dueParcelCosts_46 : decode cX7_dueParcelCosts 46 = .ok (.aload 4, 2) := by decide +kernel
theorem dX7_dueParcelCosts_48 : decode cX7_dueParcelCosts 48 = .ok (.getfield 236, 3) := by decide +kernel
theorem dX7_dueParcelCosts_51 : decode cX7_dueParcelCosts 51 = .ok (.iadd, 1) := by decide +kernel
theorem dX7_dueParcelCosts_52 : decode cX7_dueParcelCosts 52 = .ok (.istore_n 2, 1) := by decide +kernel
theorem dX7_dueParcelCosts_53 : decode cX7_dueParcelCosts 53 = .ok (.iinc 3 1, 3) := by decide +kernel
theorem dX7_dueParcelCosts_56 : decode cX7_dueParcelCosts 56 = .ok (.goto (-52), 3) := by decide +kernel
theorem dX7_dueParcelCosts_59 : decode cX7_dueParcelCosts 59 = .ok (.iload_n 2, 1) := by decide +kernel
theorem dX7_dueParcelCosts_60 : decode cX7_dueParcelCosts 60 = .ok (.ireturn, 1) := by decide +kernel
theorem dX7_markDueParcels_0 : decode cX7_markDueParcels 0 = .ok (.iconst 0, 1) := by decide +kernel
theorem dX7_markDueParcels_1 : decode cX7_markDueParcels 1 = .ok (.istore_n 2, 1) := by decide +kernel
theorem dX7_markDueParcels_2 : decode cX7_markDueParcels 2 = .ok (.iload_n 2, 1) := by decide +kernel
theorem dX7_markDueParcels_3 : decode cX7_markDueParcels 3 = .ok (.aload_n 0, 1) := by decide +kernel
theorem dX7_markDueParcels_4 : decode cX7_markDueParcels 4 = .ok (.getfield 42, 3) := by decide +kernel
theorem dX7_markDueParcels_7 : decode cX7_markDueParcels 7 = .ok (.invokeinterface 149 1, 5) := by decide +kernel
theorem dX7_markDueParcels_12 : decode cX7_markDueParcels 12 = .ok (.if_icmp .ge 40, 3) := by decide +kernel
theorem dX7_markDueParcels_15 : decode cX7_markDueParcels 15 = .ok (.aload_n 0, 1) := by decide +kernel
theorem dX7_markDueParcels_16 : decode cX7_markDueParcels 16 = .ok (.getfield 42, 3) := by decide +kernel
theorem dX7_markDueParcels_19 : decode cX7_markDueParcels 19 = .ok (.iload_n 2, 1) := by decide +kernel
theorem dX7_markDueParcels_20 : decode cX7_markDueParcels 20 = .ok (.invokeinterface 267 2, 5) := by decide +kernel
theorem dX7_markDueParcels_25 : decode cX7_markDueParcels 25 = .ok (.checkcast 217, 3) := by decide +kernel
theorem dX7_markDueParcels_28 : decode cX7_markDueParcels 28 = .ok (.astore_n 3, 1) := by decide +kernel
theorem dX7_markDueParcels_29 : decode cX7_markDueParcels 29 = .ok (.aload_n 3, 1) := by decide +kernel
theorem dX7_markDueParcels_30 : decode cX7_markDueParcels 30 = .ok (.iload_n 1, 1) := by decide +kernel
theorem dX7_markDueParcels_31 : decode cX7_markDueParcels 31 = .ok (.aload_n 0, 1) := by decide +kernel
theorem dX7_markDueParcels_32 : decode cX7_markDueParcels 32 = .ok (.getfield 45, 3) := by decide +kernel
theorem dX7_markDueParcels_35 : decode cX7_markDueParcels 35 = .ok (.invokevirtual 293, 3) := by decide +kernel
theorem dX7_markDueParcels_38 : decode cX7_markDueParcels 38 = .ok (.ifCond .eq 8, 3) := by decide +kernel
theorem dX7_markDueParcels_41 : decode cX7_markDueParcels 41 = .ok (.aload_n 3, 1) := by decide +kernel
theorem dX7_markDueParcels_42 : decode cX7_markDueParcels 42 = .ok (.iconst 2, 1) := by decide +kernel
theorem dX7_markDueParcels_43 : decode cX7_markDueParcels 43 = .ok (.putfield 231, 3) := by decide +kernel
theorem dX7_markDueParcels_46 : decode cX7_markDueParcels 46 = .ok (.iinc 2 1, 3) := by decide +kernel
theorem dX7_markDueParcels_49 : decode cX7_markDueParcels 49 = .ok (.goto (-47), 3) := by decide +kernel
theorem dX7_markDueParcels_52 : decode cX7_markDueParcels 52 = .ok (.return_, 1) := by decide +kernel
