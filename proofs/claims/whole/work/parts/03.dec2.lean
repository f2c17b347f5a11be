theorem dX5_isDigit_6 : decode cX5_isDigit 6 = .ok (.iload_n 0, 1) := by decide +kernel
theorem dX5_isDigit_7 : decode cX5_isDigit 7 = .ok (.bipush 57, 2) := by decide +kernel
theorem dX5_isDigit_9 : decode cX5_isDigit 9 = .ok (.if_icmp .gt 7, 3) := by decide +kernel
theorem dX5_isDigit_12 : decode cX5_isDigit 12 = .ok (.iconst 1, 1) := by decide +kernel
theorem dX5_isDigit_13 : decode cX5_isDigit 13 = .ok (.goto 4, 3) := by decide +kernel
theorem dX5_isDigit_16 : decode cX5_isDigit 16 = .ok (.iconst 0, 1) := by decide +kernel
theorem dX5_isDigit_17 : decode cX5_isDigit 17 = .ok (.ireturn, 1) := by decide +kernel
theorem dX6_init_0 : decode cX6_init 0 = .ok (.aload_n 0, 1) := by decide +kernel
theorem dX6_init_1 : decode cX6_init 1 = .ok (.invokespecial 3, 3) := by decide +kernel
theorem dX6_init_4 : decode cX6_init 4 = .ok (.aload_n 0, 1) := by decide +kernel
theorem dX6_init_5 : decode cX6_init 5 = .ok (.new 9, 3) := by decide +kernel
theorem dX6_init_8 : decode cX6_init 8 = .ok (.dup, 1) := by decide +kernel
theorem dX6_init_9 : decode cX6_init 9 = .ok (.invokespecial 11, 3) := by decide +kernel
theorem dX6_init_12 : decode cX6_init 12 = .ok (.putfield 12, 3) := by decide +kernel
theorem dX6_init_15 : decode cX6_init 15 = .ok (.aload_n 0, 1) := by decide +kernel
theorem dX6_init_16 : decode cX6_init 16 = .ok (.new 18, 3) := by decide +kernel
theorem dX6_init_19 : decode cX6_init 19 = .ok (.dup, 1) := by decide +kernel
theorem dX6_init_20 : decode cX6_init 20 = .ok (.invokespecial 20, 3) := by decide +kernel
theorem dX6_init_23 : decode cX6_init 23 = .ok (.putfield 21, 3) := by decide +kernel
theorem dX6_init_26 : decode cX6_init 26 = .ok (.return_, 1) := by decide +kernel
theorem dX6_beginWith_0 : decode cX6_beginWith 0 = .ok (.aload_n 0, 1) := by decide +kernel
theorem dX6_beginWith_1 : decode cX6_beginWith 1 = .ok (.getfield 12, 3) := by decide +kernel
theorem dX6_beginWith_4 : decode cX6_beginWith 4 = .ok (.aload_n 1, 1) := by decide +kernel
theorem dX6_beginWith_5 : decode cX6_beginWith 5 = .ok (.invokevirtual 25, 3) := by decide +kernel
theorem dX6_beginWith_8 : decode cX6_beginWith 8 = .ok (.aload_n 0, 1) := by decide +kernel
theorem dX6_beginWith_9 : decode cX6_beginWith 9 = .ok (.getfield 21, 3) := by decide +kernel
theorem dX6_beginWith_12 : decode cX6_beginWith 12 = .ok (.aload_n 0, 1) := by decide +kernel
theorem dX6_beginWith_13 : decode cX6_beginWith 13 = .ok (.getfield 12, 3) := by decide +kernel
theorem dX6_beginWith_16 : decode cX6_beginWith 16 = .ok (.getfield 29, 3) := by decide +kernel
theorem dX6_beginWith_19 : decode cX6_beginWith 19 = .ok (.invokevirtual 33, 3) := by decide +kernel
theorem dX6_beginWith_22 : decode cX6_beginWith 22 = .ok (.return_, 1) := by decide +kernel
theorem dX6_eyeOf_0 : decode cX6_eyeOf 0 = .ok (.aload_n 0, 1) := by decide +kernel
theorem dX6_eyeOf_1 : decode cX6_eyeOf 1 = .ok (.getfield 21, 3) := by decide +kernel
theorem dX6_eyeOf_4 : decode cX6_eyeOf 4 = .ok (.getfield 37, 3) := by decide +kernel
theorem dX6_eyeOf_7 : decode cX6_eyeOf 7 = .ok (.aload_n 0, 1) := by decide +kernel
theorem dX6_eyeOf_8 : decode cX6_eyeOf 8 = .ok (.getfield 12, 3) := by decide +kernel
theorem dX6_eyeOf_11 : decode cX6_eyeOf 11 = .ok (.getfield 38, 3) := by decide +kernel
theorem dX6_eyeOf_14 : decode cX6_eyeOf 14 = .ok (.iload_n 1, 1) := by decide +kernel
theorem dX6_eyeOf_15 : decode cX6_eyeOf 15 = .ok (.aaload, 1) := by decide +kernel
theorem dX6_eyeOf_16 : decode cX6_eyeOf 16 = .ok (.iconst 0, 1) := by decide +kernel
theorem dX6_eyeOf_17 : decode cX6_eyeOf 17 = .ok (.iaload, 1) := by decide +kernel
theorem dX6_eyeOf_18 : decode cX6_eyeOf 18 = .ok (.iaload, 1) := by decide +kernel
theorem dX6_eyeOf_19 : decode cX6_eyeOf 19 = .ok (.aload_n 0, 1) := by decide +kernel
theorem dX6_eyeOf_20 : decode cX6_eyeOf 20 = .ok (.getfield 12, 3) := by decide +kernel
theorem dX6_eyeOf_23 : decode cX6_eyeOf 23 = .ok (.getfield 38, 3) := by decide +kernel
theorem dX6_eyeOf_26 : decode cX6_eyeOf 26 = .ok (.iload_n 1, 1) := by decide +kernel
theorem dX6_eyeOf_27 : decode cX6_eyeOf 27 = .ok (.aaload, 1) := by decide +kernel
theorem dX6_eyeOf_28 : decode cX6_eyeOf 28 = .ok (.iconst 1, 1) := by decide +kernel
theorem dX6_eyeOf_29 : decode cX6_eyeOf 29 = .ok (.iaload, 1) := by decide +kernel
theorem dX6_eyeOf_30 : decode cX6_eyeOf 30 = .ok (.iadd, 1) := by decide +kernel
theorem dX6_eyeOf_31 : decode cX6_eyeOf 31 = .ok (.ireturn, 1) := by decide +kernel
theorem dX6_canSee_0 : decode cX6_canSee 0 = .ok (.aload_n 0, 1) := by decide +kernel
theorem dX6_canSee_1 : decode cX6_canSee 1 = .ok (.getfield 12, 3) := by decide +kernel
theorem dX6_canSee_4 : decode cX6_canSee 4 = .ok (.getfield 38, 3) := by decide +kernel
theorem dX6_canSee_7 : decode cX6_canSee 7 = .ok (.iload_n 1, 1) := by decide +kernel
theorem dX6_canSee_8 : decode cX6_canSee 8 = .ok (.aaload, 1) := by decide +kernel
theorem dX6_canSee_9 : decode cX6_canSee 9 = .ok (.iconst 0, 1) := by decide +kernel
theorem dX6_canSee_10 : decode cX6_canSee 10 = .ok (.iaload, 1) := by decide +kernel
theorem dX6_canSee_11 : decode cX6_canSee 11 = .ok (.istore 4, 2) := by decide +kernel
theorem dX6_canSee_13 : decode cX6_canSee 13 = .ok (.iload_n 2, 1) := by decide +kernel
theorem dX6_canSee_14 : decode cX6_canSee 14 = .ok (.iload 4, 2) := by decide +kernel
theorem dX6_canSee_16 : decode cX6_canSee 16 = .ok (.if_icmp .ne 5, 3) := by decide +kernel
theorem dX6_canSee_19 : decode cX6_canSee 19 = .ok (.iconst 0, 1) := by decide +kernel
theorem dX6_canSee_20 : decode cX6_canSee 20 = .ok (.ireturn, 1) := by decide +kernel
theorem dX6_canSee_21 : decode cX6_canSee 21 = .ok (.iload_n 2, 1) := by decide +kernel
theorem dX6_canSee_22 : decode cX6_canSee 22 = .ok (.iload 4, 2) := by decide +kernel
theorem dX6_canSee_24 : decode cX6_canSee 24 = .ok (.if_icmp .le 7, 3) := by decide +kernel
theorem dX6_canSee_27 : decode cX6_canSee 27 = .ok (.iconst 1, 1) := by decide +kernel
theorem dX6_canSee_28 : decode cX6_canSee 28 = .ok (.goto 4, 3) := by decide +kernel
theorem dX6_canSee_31 : decode cX6_canSee 31 = .ok (.iconst 0, 1) := by decide +kernel
theorem dX6_canSee_32 : decode cX6_canSee 32 = .ok (.istore 5, 2) := by decide +kernel
theorem dX6_canSee_34 : decode cX6_canSee 34 = .ok (.iload 5, 2) := by decide +kernel
theorem dX6_canSee_36 : decode cX6_canSee 36 = .ok (.aload_n 0, 1) := by decide +kernel
theorem dX6_canSee_37 : decode cX6_canSee 37 = .ok (.getfield 12, 3) := by decide +kernel
theorem dX6_canSee_40 : decode cX6_canSee 40 = .ok (.iload_n 1, 1) := by decide +kernel
theorem dX6_canSee_41 : decode cX6_canSee 41 = .ok (.iload_n 3, 1) := by decide +kernel
theorem dX6_canSee_42 : decode cX6_canSee 42 = .ok (.invokevirtual 42, 3) := by decide +kernel
theorem dX6_canSee_45 : decode cX6_canSee 45 = .ok (.if_icmp .ne 22, 3) := by decide +kernel
theorem dX6_canSee_48 : decode cX6_canSee 48 = .ok (.aload_n 0, 1) := by decide +kernel
theorem dX6_canSee_49 : decode cX6_canSee 49 = .ok (.iload 4, 2) := by decide +kernel
theorem dX6_canSee_51 : decode cX6_canSee 51 = .ok (.aload_n 0, 1) := by decide +kernel
theorem dX6_canSee_52 : decode cX6_canSee 52 = .ok (.iload_n 1, 1) := by decide +kernel
theorem dX6_canSee_53 : decode cX6_canSee 53 = .ok (.invokevirtual 46, 3) := by decide +kernel
theorem dX6_canSee_56 : decode cX6_canSee 56 = .ok (.iload_n 2, 1) := by decide +kernel
theorem dX6_canSee_57 : decode cX6_canSee 57 = .ok (.invokevirtual 50, 3) := by decide +kernel
theorem dX6_canSee_60 : decode cX6_canSee 60 = .ok (.ifCond .eq 7, 3) := by decide +kernel
theorem dX6_canSee_63 : decode cX6_canSee 63 = .ok (.iconst 1, 1) := by decide +kernel
theorem dX6_canSee_64 : decode cX6_canSee 64 = .ok (.goto 4, 3) := by decide +kernel
theorem dX6_canSee_67 : decode cX6_canSee 67 = .ok (.iconst 0, 1) := by decide +kernel
theorem dX6_canSee_68 : decode cX6_canSee 68 = .ok (.ireturn, 1) := by decide +kernel
theorem dX6_isLineFree_0 : decode cX6_isLineFree 0 = .ok (.iload_n 3, 1) := by decide +kernel
theorem dX6_isLineFree_1 : decode cX6_isLineFree 1 = .ok (.iload_n 1, 1) := by decide +kernel
theorem dX6_isLineFree_2 : decode cX6_isLineFree 2 = .ok (.if_icmp .le 7, 3) := by decide +kernel
theorem dX6_isLineFree_5 : decode cX6_isLineFree 5 = .ok (.iconst 1, 1) := by decide +kernel
theorem dX6_isLineFree_6 : decode cX6_isLineFree 6 = .ok (.goto 4, 3) := by decide +kernel
theorem dX6_isLineFree_9 : decode cX6_isLineFree 9 = .ok (.iconst (-1), 1) := by decide +kernel
theorem dX6_isLineFree_10 : decode cX6_isLineFree 10 = .ok (.istore 4, 2) := by decide +kernel
theorem dX6_isLineFree_12 : decode cX6_isLineFree 12 = .ok (.iload_n 3, 1) := by decide +kernel
theorem dX6_isLineFree_13 : decode cX6_isLineFree 13 = .ok (.iload_n 1, 1) := by decide +kernel
theorem dX6_isLineFree_14 : decode cX6_isLineFree 14 = .ok (.isub, 1) := by decide +kernel
theorem dX6_isLineFree_15 : decode cX6_isLineFree 15 = .ok (.invokestatic 54, 3) := by decide +kernel
theorem dX6_isLineFree_18 : decode cX6_isLineFree 18 = .ok (.istore 5, 2) := by decide +kernel
theorem dX6_isLineFree_20 : decode cX6_isLineFree 20 = .ok (.aload_n 0, 1) := by decide +kernel
theorem dX6_isLineFree_21 : decode cX6_isLineFree 21 = .ok (.getfield 21, 3) := by decide +kernel
theorem dX6_isLineFree_24 : decode cX6_isLineFree 24 = .ok (.getfield 37, 3) := by decide +kernel
theorem dX6_isLineFree_27 : decode cX6_isLineFree 27 = .ok (.iload_n 3, 1) := by decide +kernel
theorem dX6_isLineFree_28 : decode cX6_isLineFree 28 = .ok (.iaload, 1) := by decide +kernel
theorem dX6_isLineFree_29 : decode cX6_isLineFree 29 = .ok (.iload_n 2, 1) := by decide +kernel
theorem dX6_isLineFree_30 : decode cX6_isLineFree 30 = .ok (.isub, 1) := by decide +kernel
theorem dX6_isLineFree_31 : decode cX6_isLineFree 31 = .ok (.istore 6, 2) := by decide +kernel
theorem dX6_isLineFree_33 : decode cX6_isLineFree 33 = .ok (.iconst 1, 1) := by decide +kernel
theorem dX6_isLineFree_34 : decode cX6_isLineFree 34 = .ok (.istore 7, 2) := by decide +kernel
theorem dX6_isLineFree_36 : decode cX6_isLineFree 36 = .ok (.iload 7, 2) := by decide +kernel
theorem dX6_isLineFree_38 : decode cX6_isLineFree 38 = .ok (.iload 5, 2) := by decide +kernel
theorem dX6_isLineFree_40 : decode cX6_isLineFree 40 = .ok (.if_icmp .ge 46, 3) := by decide +kernel
theorem dX6_isLineFree_43 : decode cX6_isLineFree 43 = .ok (.iload_n 2, 1) := by decide +kernel
theorem dX6_isLineFree_44 : decode cX6_isLineFree 44 = .ok (.iload 5, 2) := by decide +kernel
theorem dX6_isLineFree_46 : decode cX6_isLineFree 46 = .ok (.imul, 1) := by decide +kernel
theorem dX6_isLineFree_47 : decode cX6_isLineFree 47 = .ok (.iload 6, 2) := by decide +kernel
theorem dX6_isLineFree_49 : decode cX6_isLineFree 49 = .ok (.iload 7, 2) := by decide +kernel
theorem dX6_isLineFree_51 : decode cX6_isLineFree 51 = .ok (.imul, 1) := by decide +kernel
theorem dX6_isLineFree_52 : decode cX6_isLineFree 52 = .ok (.iadd, 1) := by decide +kernel
theorem dX6_isLineFree_53 : decode cX6_isLineFree 53 = .ok (.istore 8, 2) := by decide +kernel
theorem dX6_isLineFree_55 : decode cX6_isLineFree 55 = .ok (.aload_n 0, 1) := by decide +kernel
theorem dX6_isLineFree_56 : decode cX6_isLineFree 56 = .ok (.getfield 21, 3) := by decide +kernel
theorem dX6_isLineFree_59 : decode cX6_isLineFree 59 = .ok (.getfield 37, 3) := by decide +kernel
theorem dX6_isLineFree_62 : decode cX6_isLineFree 62 = .ok (.iload_n 1, 1) := by decide +kernel
theorem dX6_isLineFree_63 : decode cX6_isLineFree 63 = .ok (.iload 7, 2) := by decide +kernel
theorem dX6_isLineFree_65 : decode cX6_isLineFree 65 = .ok (.iload 4, 2) := by decide +kernel
theorem dX6_isLineFree_67 : decode cX6_isLineFree 67 = .ok (.imul, 1) := by decide +kernel
theorem dX6_isLineFree_68 : decode cX6_isLineFree 68 = .ok (.iadd, 1) := by decide +kernel
theorem dX6_isLineFree_69 : decode cX6_isLineFree 69 = .ok (.iaload, 1) := by decide +kernel
theorem dX6_isLineFree_70 : decode cX6_isLineFree 70 = .ok (.iload 5, 2) := by decide +kernel
theorem dX6_isLineFree_72 : decode cX6_isLineFree 72 = .ok (.imul, 1) := by decide +kernel
theorem dX6_isLineFree_73 : decode cX6_isLineFree 73 = .ok (.iload 8, 2) := by decide +kernel
theorem dX6_isLineFree_75 : decode cX6_isLineFree 75 = .ok (.if_icmp .le 5, 3) := by decide +kernel
theorem dX6_isLineFree_78 : decode cX6_isLineFree 78 = .ok (.iconst 0, 1) := by decide +kernel
theorem dX6_isLineFree_79 : decode cX6_isLineFree 79 = .ok (.ireturn, 1) := by decide +kernel
theorem dX6_isLineFree_80 : decode cX6_isLineFree 80 = .ok (.iinc 7 1, 3) := by decide +kernel
theorem dX6_isLineFree_83 : decode cX6_isLineFree 83 = .ok (.goto (-47), 3) := by decide +kernel
theorem dX6_isLineFree_86 : decode cX6_isLineFree 86 = .ok (.iconst 1, 1) := by decide +kernel
theorem dX6_isLineFree_87 : decode cX6_isLineFree 87 = .ok (.ireturn, 1) := by decide +kernel
theorem dX6_viewOf_0 : decode cX6_viewOf 0 = .ok (.iconst 0, 1) := by decide +kernel
theorem dX6_viewOf_1 : decode cX6_viewOf 1 = .ok (.istore_n 3, 1) := by decide +kernel
theorem dX6_viewOf_2 : decode cX6_viewOf 2 = .ok (.iconst 0, 1) := by decide +kernel
theorem dX6_viewOf_3 : decode cX6_viewOf 3 = .ok (.istore 4, 2) := by decide +kernel
theorem dX6_viewOf_5 : decode cX6_viewOf 5 = .ok (.iload 4, 2) := by decide +kernel
theorem dX6_viewOf_7 : decode cX6_viewOf 7 = .ok (.bipush 24, 2) := by decide +kernel
theorem dX6_viewOf_9 : decode cX6_viewOf 9 = .ok (.if_icmp .ge 27, 3) := by decide +kernel
theorem dX6_viewOf_12 : decode cX6_viewOf 12 = .ok (.aload_n 0, 1) := by decide +kernel
theorem dX6_viewOf_13 : decode cX6_viewOf 13 = .ok (.iload_n 1, 1) := by decide +kernel
theorem dX6_viewOf_14 : decode cX6_viewOf 14 = .ok (.iload 4, 2) := by decide +kernel
theorem dX6_viewOf_16 : decode cX6_viewOf 16 = .ok (.iload_n 2, 1) := by decide +kernel
theorem dX6_viewOf_17 : decode cX6_viewOf 17 = .ok (.invokevirtual 59, 3) := by decide +kernel
theorem dX6_viewOf_20 : decode cX6_viewOf 20 = .ok (.ifCond .eq 10, 3) := by decide +kernel
theorem dX6_viewOf_23 : decode cX6_viewOf 23 = .ok (.iload_n 3, 1) := by decide +kernel
theorem dX6_viewOf_24 : decode cX6_viewOf 24 = .ok (.iconst 1, 1) := by decide +kernel
theorem dX6_viewOf_25 : decode cX6_viewOf 25 = .ok (.iload 4, 2) := by decide +kernel
theorem dX6_viewOf_27 : decode cX6_viewOf 27 = .ok (.ishl, 1) := by decide +kernel
theorem dX6_viewOf_28 : decode cX6_viewOf 28 = .ok (.ior, 1) := by decide +kernel
theorem dX6_viewOf_29 : decode cX6_viewOf 29 = .ok (.istore_n 3, 1) := by decide +kernel
theorem dX6_viewOf_30 : decode cX6_viewOf 30 = .ok (.iinc 4 1, 3) := by decide +kernel
theorem dX6_viewOf_33 : decode cX6_viewOf 33 = .ok (.goto (-28), 3) := by decide +kernel
theorem dX6_viewOf_36 : decode cX6_viewOf 36 = .ok (.iload_n 3, 1) := by decide +kernel
theorem dX6_viewOf_37 : decode cX6_viewOf 37 = .ok (.ireturn, 1) := by decide +kernel
theorem dX6_unseenIn_0 : decode cX6_unseenIn 0 = .ok (.iconst 0, 1) := by decide +kernel
theorem dX6_unseenIn_1 : decode cX6_unseenIn 1 = .ok (.istore_n 2, 1) := by decide +kernel
theorem dX6_unseenIn_2 : decode cX6_unseenIn 2 = .ok (.iconst 0, 1) := by decide +kernel
theorem dX6_unseenIn_3 : decode cX6_unseenIn 3 = .ok (.istore_n 3, 1) := by decide +kernel
theorem dX6_unseenIn_4 : decode cX6_unseenIn 4 = .ok (.iload_n 3, 1) := by decide +kernel
theorem dX6_unseenIn_5 : decode cX6_unseenIn 5 = .ok (.aload_n 0, 1) := by decide +kernel
theorem dX6_unseenIn_6 : decode cX6_unseenIn 6 = .ok (.getfield 12, 3) := by decide +kernel
theorem dX6_unseenIn_9 : decode cX6_unseenIn 9 = .ok (.getfield 62, 3) := by decide +kernel
theorem dX6_unseenIn_12 : decode cX6_unseenIn 12 = .ok (.if_icmp .ge 29, 3) := by decide +kernel
theorem dX6_unseenIn_15 : decode cX6_unseenIn 15 = .ok (.aload_n 0, 1) := by decide +kernel
theorem dX6_unseenIn_16 : decode cX6_unseenIn 16 = .ok (.getfield 21, 3) := by decide +kernel
theorem dX6_unseenIn_19 : decode cX6_unseenIn 19 = .ok (.iload_n 3, 1) := by decide +kernel
theorem dX6_unseenIn_20 : decode cX6_unseenIn 20 = .ok (.invokevirtual 66, 3) := by decide +kernel
theorem dX6_unseenIn_23 : decode cX6_unseenIn 23 = .ok (.ifCond .ne 12, 3) := by decide +kernel
theorem dX6_unseenIn_26 : decode cX6_unseenIn 26 = .ok (.iload_n 2, 1) := by decide +kernel
theorem dX6_unseenIn_27 : decode cX6_unseenIn 27 = .ok (.aload_n 0, 1) := by decide +kernel
theorem dX6_unseenIn_28 : decode cX6_unseenIn 28 = .ok (.iload_n 3, 1) := by decide +kernel
theorem dX6_unseenIn_29 : decode cX6_unseenIn 29 = .ok (.iload_n 1, 1) := by decide +kernel
theorem dX6_unseenIn_30 : decode cX6_unseenIn 30 = .ok (.invokevirtual 70, 3) := by decide +kernel
theorem dX6_unseenIn_33 : decode cX6_unseenIn 33 = .ok (.ior, 1) := by decide +kernel
theorem dX6_unseenIn_34 : decode cX6_unseenIn 34 = .ok (.istore_n 2, 1) := by decide +kernel
theorem dX6_unseenIn_35 : decode cX6_unseenIn 35 = .ok (.iinc 3 1, 3) := by decide +kernel
theorem dX6_unseenIn_38 : decode cX6_unseenIn 38 = .ok (.goto (-34), 3) := by decide +kernel
theorem dX6_unseenIn_41 : decode cX6_unseenIn 41 = .ok (.iload_n 2, 1) := by decide +kernel
theorem dX6_unseenIn_42 : decode cX6_unseenIn 42 = .ok (.iconst (-1), 1) := by decide +kernel
theorem dX6_unseenIn_43 : decode cX6_unseenIn 43 = .ok (.ixor, 1) := by decide +kernel
theorem dX6_unseenIn_44 : decode cX6_unseenIn 44 = .ok (.ldc 73, 2) := by decide +kernel
theorem dX6_unseenIn_46 : decode cX6_unseenIn 46 = .ok (.iand, 1) := by decide +kernel
theorem dX6_unseenIn_47 : decode cX6_unseenIn 47 = .ok (.ireturn, 1) := by decide +kernel
theorem dX6_hoursInView_0 : decode cX6_hoursInView 0 = .ok (.iconst 0, 1) := by decide +kernel
theorem dX6_hoursInView_1 : decode cX6_hoursInView 1 = .ok (.istore 5, 2) := by decide +kernel
theorem dX6_hoursInView_3 : decode cX6_hoursInView 3 = .ok (.iload_n 3, 1) := by decide +kernel
theorem dX6_hoursInView_4 : decode cX6_hoursInView 4 = .ok (.istore 6, 2) := by decide +kernel
theorem dX6_hoursInView_6 : decode cX6_hoursInView 6 = .ok (.iload 6, 2) := by decide +kernel
theorem dX6_hoursInView_8 : decode cX6_hoursInView 8 = .ok (.iload 4, 2) := by decide +kernel
theorem dX6_hoursInView_10 : decode cX6_hoursInView 10 = .ok (.if_icmp .gt 23, 3) := by decide +kernel
theorem dX6_hoursInView_13 : decode cX6_hoursInView 13 = .ok (.aload_n 0, 1) := by decide +kernel
theorem dX6_hoursInView_14 : decode cX6_hoursInView 14 = .ok (.iload_n 1, 1) := by decide +kernel
theorem dX6_hoursInView_15 : decode cX6_hoursInView 15 = .ok (.iload_n 2, 1) := by decide +kernel
theorem dX6_hoursInView_16 : decode cX6_hoursInView 16 = .ok (.iload 6, 2) := by decide +kernel
theorem dX6_hoursInView_18 : decode cX6_hoursInView 18 = .ok (.invokevirtual 59, 3) := by decide +kernel
theorem dX6_hoursInView_21 : decode cX6_hoursInView 21 = .ok (.ifCond .eq 6, 3) := by decide +kernel
theorem dX6_hoursInView_24 : decode cX6_hoursInView 24 = .ok (.iinc 5 1, 3) := by decide +kernel
theorem dX6_hoursInView_27 : decode cX6_hoursInView 27 = .ok (.iinc 6 1, 3) := by decide +kernel
theorem dX6_hoursInView_30 : decode cX6_hoursInView 30 = .ok (.goto (-24), 3) := by decide +kernel
theorem dX6_hoursInView_33 : decode cX6_hoursInView 33 = .ok (.iload 5, 2) := by decide +kernel
theorem dX6_hoursInView_35 : decode cX6_hoursInView 35 = .ok (.ireturn, 1) := by decide +kernel
theorem dX6_goBy_0 : decode cX6_goBy 0 = .ok (.aload_n 0, 1) := by decide +kernel
theorem dX6_goBy_1 : decode cX6_goBy 1 = .ok (.getfield 21, 3) := by decide +kernel
theorem dX6_goBy_4 : decode cX6_goBy 4 = .ok (.invokevirtual 74, 3) := by decide +kernel
theorem dX6_goBy_7 : decode cX6_goBy 7 = .ok (.aload_n 0, 1) := by decide +kernel
theorem dX6_goBy_8 : decode cX6_goBy 8 = .ok (.getfield 21, 3) := by decide +kernel
theorem dX6_goBy_11 : decode cX6_goBy 11 = .ok (.getfield 77, 3) := by decide +kernel
theorem dX6_goBy_14 : decode cX6_goBy 14 = .ok (.iload_n 1, 1) := by decide +kernel
theorem dX6_goBy_15 : decode cX6_goBy 15 = .ok (.iadd, 1) := by decide +kernel
theorem dX6_goBy_16 : decode cX6_goBy 16 = .ok (.bipush 30, 2) := by decide +kernel
theorem dX6_goBy_18 : decode cX6_goBy 18 = .ok (.invokestatic 80, 3) := by decide +kernel
theorem dX6_goBy_21 : decode cX6_goBy 21 = .ok (.istore_n 2, 1) := by decide +kernel
theorem dX6_goBy_22 : decode cX6_goBy 22 = .ok (.aload_n 0, 1) := by decide +kernel
theorem dX6_goBy_23 : decode cX6_goBy 23 = .ok (.getfield 21, 3) := by decide +kernel
theorem dX6_goBy_26 : decode cX6_goBy 26 = .ok (.getfield 77, 3) := by decide +kernel
theorem dX6_goBy_29 : decode cX6_goBy 29 = .ok (.istore_n 3, 1) := by decide +kernel
theorem dX6_goBy_30 : decode cX6_goBy 30 = .ok (.iload_n 3, 1) := by decide +kernel
theorem dX6_goBy_31 : decode cX6_goBy 31 = .ok (.iload_n 2, 1) := by decide +kernel
theorem dX6_goBy_32 : decode cX6_goBy 32 = .ok (.if_icmp .ge 14, 3) := by decide +kernel
theorem dX6_goBy_35 : decode cX6_goBy 35 = .ok (.aload_n 0, 1) := by decide +kernel
theorem dX6_goBy_36 : decode cX6_goBy 36 = .ok (.iload_n 3, 1) := by decide +kernel
theorem dX6_goBy_37 : decode cX6_goBy 37 = .ok (.invokevirtual 83, 3) := by decide +kernel
theorem dX6_goBy_40 : decode cX6_goBy 40 = .ok (.iinc 3 1, 3) := by decide +kernel
theorem dX6_goBy_43 : decode cX6_goBy 43 = .ok (.goto (-13), 3) := by decide +kernel
theorem dX6_goBy_46 : decode cX6_goBy 46 = .ok (.aload_n 0, 1) := by decide +kernel
theorem dX6_goBy_47 : decode cX6_goBy 47 = .ok (.getfield 21, 3) := by decide +kernel
theorem dX6_goBy_50 : decode cX6_goBy 50 = .ok (.iload_n 2, 1) := by decide +kernel
theorem dX6_goBy_51 : decode cX6_goBy 51 = .ok (.putfield 77, 3) := by decide +kernel
theorem dX6_goBy_54 : decode cX6_goBy 54 = .ok (.return_, 1) := by decide +kernel
theorem dX6_seeAllIn_0 : decode cX6_seeAllIn 0 = .ok (.iconst 0, 1) := by decide +kernel
theorem dX6_seeAllIn_1 : decode cX6_seeAllIn 1 = .ok (.istore_n 2, 1) := by decide +kernel
theorem dX6_seeAllIn_2 : decode cX6_seeAllIn 2 = .ok (.iload_n 2, 1) := by decide +kernel
theorem dX6_seeAllIn_3 : decode cX6_seeAllIn 3 = .ok (.aload_n 0, 1) := by decide +kernel
theorem dX6_seeAllIn_4 : decode cX6_seeAllIn 4 = .ok (.getfield 12, 3) := by decide +kernel
theorem dX6_seeAllIn_7 : decode cX6_seeAllIn 7 = .ok (.getfield 87, 3) := by decide +kernel
theorem dX6_seeAllIn_10 : decode cX6_seeAllIn 10 = .ok (.if_icmp .ge 44, 3) := by decide +kernel
theorem dX6_seeAllIn_13 : decode cX6_seeAllIn 13 = .ok (.aload_n 0, 1) := by decide +kernel
theorem dX6_seeAllIn_14 : decode cX6_seeAllIn 14 = .ok (.getfield 12, 3) := by decide +kernel
theorem dX6_seeAllIn_17 : decode cX6_seeAllIn 17 = .ok (.iload_n 2, 1) := by decide +kernel
theorem dX6_seeAllIn_18 : decode cX6_seeAllIn 18 = .ok (.iload_n 1, 1) := by decide +kernel
theorem dX6_seeAllIn_19 : decode cX6_seeAllIn 19 = .ok (.invokevirtual 90, 3) := by decide +kernel
theorem dX6_seeAllIn_22 : decode cX6_seeAllIn 22 = .ok (.istore_n 3, 1) := by decide +kernel
theorem dX6_seeAllIn_23 : decode cX6_seeAllIn 23 = .ok (.iload_n 3, 1) := by decide +kernel
theorem dX6_seeAllIn_24 : decode cX6_seeAllIn 24 = .ok (.bipush (-9), 2) := by decide +kernel
theorem dX6_seeAllIn_26 : decode cX6_seeAllIn 26 = .ok (.if_icmp .eq 22, 3) := by decide +kernel
theorem dX6_seeAllIn_29 : decode cX6_seeAllIn 29 = .ok (.aload_n 0, 1) := by decide +kernel
theorem dX6_seeAllIn_30 : decode cX6_seeAllIn 30 = .ok (.getfield 12, 3) := by decide +kernel
theorem dX6_seeAllIn_33 : decode cX6_seeAllIn 33 = .ok (.iload_n 3, 1) := by decide +kernel
theorem dX6_seeAllIn_34 : decode cX6_seeAllIn 34 = .ok (.iload_n 1, 1) := by decide +kernel
theorem dX6_seeAllIn_35 : decode cX6_seeAllIn 35 = .ok (.invokevirtual 93, 3) := by decide +kernel
theorem dX6_seeAllIn_38 : decode cX6_seeAllIn 38 = .ok (.ifCond .ne 10, 3) := by decide +kernel
theorem dX6_seeAllIn_41 : decode cX6_seeAllIn 41 = .ok (.aload_n 0, 1) := by decide +kernel
theorem dX6_seeAllIn_42 : decode cX6_seeAllIn 42 = .ok (.iload_n 2, 1) := by decide +kernel
theorem dX6_seeAllIn_43 : decode cX6_seeAllIn 43 = .ok (.iload_n 3, 1) := by decide +kernel
theorem dX6_seeAllIn_44 : decode cX6_seeAllIn 44 = .ok (.iload_n 1, 1) := by decide +kernel
theorem dX6_seeAllIn_45 : decode cX6_seeAllIn 45 = .ok (.invokevirtual 97, 3) := by decide +kernel
theorem dX6_seeAllIn_48 : decode cX6_seeAllIn 48 = .ok (.iinc 2 1, 3) := by decide +kernel
theorem dX6_seeAllIn_51 : decode cX6_seeAllIn 51 = .ok (.goto (-49), 3) := by decide +kernel
theorem dX6_seeAllIn_54 : decode cX6_seeAllIn 54 = .ok (.return_, 1) := by decide +kernel
theorem dX6_seeOne_0 : decode cX6_seeOne 0 = .ok (.iconst 0, 1) := by decide +kernel
theorem dX6_seeOne_1 : decode cX6_seeOne 1 = .ok (.istore 4, 2) := by decide +kernel
theorem dX6_seeOne_3 : decode cX6_seeOne 3 = .ok (.iload 4, 2) := by decide +kernel
theorem dX6_seeOne_5 : decode cX6_seeOne 5 = .ok (.aload_n 0, 1) := by decide +kernel
theorem dX6_seeOne_6 : decode cX6_seeOne 6 = .ok (.getfield 12, 3) := by decide +kernel
theorem dX6_seeOne_9 : decode cX6_seeOne 9 = .ok (.getfield 62, 3) := by decide +kernel
theorem dX6_seeOne_12 : decode cX6_seeOne 12 = .ok (.if_icmp .ge 50, 3) := by decide +kernel
theorem dX6_seeOne_15 : decode cX6_seeOne 15 = .ok (.aload_n 0, 1) := by decide +kernel
theorem dX6_seeOne_16 : decode cX6_seeOne 16 = .ok (.getfield 21, 3) := by decide +kernel
theorem dX6_seeOne_19 : decode cX6_seeOne 19 = .ok (.iload 4, 2) := by decide +kernel
theorem dX6_seeOne_21 : decode cX6_seeOne 21 = .ok (.invokevirtual 66, 3) := by decide +kernel
theorem dX6_seeOne_24 : decode cX6_seeOne 24 = .ok (.ifCond .ne 32, 3) := by decide +kernel
theorem dX6_seeOne_27 : decode cX6_seeOne 27 = .ok (.aload_n 0, 1) := by decide +kernel
theorem dX6_seeOne_28 : decode cX6_seeOne 28 = .ok (.iload 4, 2) := by decide +kernel
theorem dX6_seeOne_30 : decode cX6_seeOne 30 = .ok (.iload_n 2, 1) := by decide +kernel
theorem dX6_seeOne_31 : decode cX6_seeOne 31 = .ok (.iload_n 3, 1) := by decide +kernel
theorem dX6_seeOne_32 : decode cX6_seeOne 32 = .ok (.invokevirtual 59, 3) := by decide +kernel
theorem dX6_seeOne_35 : decode cX6_seeOne 35 = .ok (.ifCond .eq 21, 3) := by decide +kernel
theorem dX6_seeOne_38 : decode cX6_seeOne 38 = .ok (.aload_n 0, 1) := by decide +kernel
theorem dX6_seeOne_39 : decode cX6_seeOne 39 = .ok (.getfield 21, 3) := by decide +kernel
theorem dX6_seeOne_42 : decode cX6_seeOne 42 = .ok (.getfield 101, 3) := by decide +kernel
theorem dX6_seeOne_45 : decode cX6_seeOne 45 = .ok (.iload 4, 2) := by decide +kernel
theorem dX6_seeOne_47 : decode cX6_seeOne 47 = .ok (.aaload, 1) := by decide +kernel
theorem dX6_seeOne_48 : decode cX6_seeOne 48 = .ok (.iload_n 1, 1) := by decide +kernel
theorem dX6_seeOne_49 : decode cX6_seeOne 49 = .ok (.dup2, 1) := by decide +kernel
theorem dX6_seeOne_50 : decode cX6_seeOne 50 = .ok (.iaload, 1) := by decide +kernel
theorem dX6_seeOne_51 : decode cX6_seeOne 51 = .ok (.iconst 1, 1) := by decide +kernel
theorem dX6_seeOne_52 : decode cX6_seeOne 52 = .ok (.iload_n 3, 1) := by decide +kernel
theorem dX6_seeOne_53 : decode cX6_seeOne 53 = .ok (.ishl, 1) := by decide +kernel
theorem dX6_seeOne_54 : decode cX6_seeOne 54 = .ok (.ior, 1) := by decide +kernel
theorem dX6_seeOne_55 : decode cX6_seeOne 55 = .ok (.iastore, 1) := by decide +kernel
theorem dX6_seeOne_56 : decode cX6_seeOne 56 = .ok (.iinc 4 1, 3) := by decide +kernel
theorem dX6_seeOne_59 : decode cX6_seeOne 59 = .ok (.goto (-56), 3) := by decide +kernel
theorem dX6_seeOne_62 : decode cX6_seeOne 62 = .ok (.return_, 1) := by decide +kernel
theorem dX6_bestToAsk_0 : decode cX6_bestToAsk 0 = .ok (.iconst 0, 1) := by decide +kernel
theorem dX6_bestToAsk_1 : decode cX6_bestToAsk 1 = .ok (.istore_n 2, 1) := by decide +kernel
theorem dX6_bestToAsk_2 : decode cX6_bestToAsk 2 = .ok (.iconst 1, 1) := by decide +kernel
theorem dX6_bestToAsk_3 : decode cX6_bestToAsk 3 = .ok (.istore_n 3, 1) := by decide +kernel
theorem dX6_bestToAsk_4 : decode cX6_bestToAsk 4 = .ok (.iload_n 3, 1) := by decide +kernel
theorem dX6_bestToAsk_5 : decode cX6_bestToAsk 5 = .ok (.aload_n 0, 1) := by decide +kernel
theorem dX6_bestToAsk_6 : decode cX6_bestToAsk 6 = .ok (.getfield 12, 3) := by decide +kernel
theorem dX6_bestToAsk_9 : decode cX6_bestToAsk 9 = .ok (.invokevirtual 104, 3) := by decide +kernel
theorem dX6_bestToAsk_12 : decode cX6_bestToAsk 12 = .ok (.if_icmp .gt 56, 3) := by decide +kernel
theorem dX6_bestToAsk_15 : decode cX6_bestToAsk 15 = .ok (.iload_n 3, 1) := by decide +kernel
theorem dX6_bestToAsk_16 : decode cX6_bestToAsk 16 = .ok (.aload_n 0, 1) := by decide +kernel
theorem dX6_bestToAsk_17 : decode cX6_bestToAsk 17 = .ok (.getfield 21, 3) := by decide +kernel
theorem dX6_bestToAsk_20 : decode cX6_bestToAsk 20 = .ok (.getfield 108, 3) := by decide +kernel
theorem dX6_bestToAsk_23 : decode cX6_bestToAsk 23 = .ok (.iand, 1) := by decide +kernel
theorem dX6_bestToAsk_24 : decode cX6_bestToAsk 24 = .ok (.ifCond .ne 19, 3) := by decide +kernel
theorem dX6_bestToAsk_27 : decode cX6_bestToAsk 27 = .ok (.aload_n 0, 1) := by decide +kernel
theorem dX6_bestToAsk_28 : decode cX6_bestToAsk 28 = .ok (.getfield 21, 3) := by decide +kernel
theorem dX6_bestToAsk_31 : decode cX6_bestToAsk 31 = .ok (.iload_n 3, 1) := by decide +kernel
theorem dX6_bestToAsk_32 : decode cX6_bestToAsk 32 = .ok (.invokevirtual 111, 3) := by decide +kernel
theorem dX6_bestToAsk_35 : decode cX6_bestToAsk 35 = .ok (.iload_n 1, 1) := by decide +kernel
theorem dX6_bestToAsk_36 : decode cX6_bestToAsk 36 = .ok (.if_icmp .gt 7, 3) := by decide +kernel
theorem dX6_bestToAsk_39 : decode cX6_bestToAsk 39 = .ok (.iconst 1, 1) := by decide +kernel
theorem dX6_bestToAsk_40 : decode cX6_bestToAsk 40 = .ok (.goto 4, 3) := by decide +kernel
theorem dX6_bestToAsk_43 : decode cX6_bestToAsk 43 = .ok (.iconst 0, 1) := by decide +kernel
theorem dX6_bestToAsk_44 : decode cX6_bestToAsk 44 = .ok (.istore 4, 2) := by decide +kernel
theorem dX6_bestToAsk_46 : decode cX6_bestToAsk 46 = .ok (.iload 4, 2) := by decide +kernel
theorem dX6_bestToAsk_48 : decode cX6_bestToAsk 48 = .ok (.ifCond .eq 14, 3) := by decide +kernel
theorem dX6_bestToAsk_51 : decode cX6_bestToAsk 51 = .ok (.aload_n 0, 1) := by decide +kernel
theorem dX6_bestToAsk_52 : decode cX6_bestToAsk 52 = .ok (.iload_n 3, 1) := by decide +kernel
theorem dX6_bestToAsk_53 : decode cX6_bestToAsk 53 = .ok (.iload_n 2, 1) := by decide +kernel
theorem dX6_bestToAsk_54 : decode cX6_bestToAsk 54 = .ok (.invokevirtual 114, 3) := by decide +kernel
theorem dX6_bestToAsk_57 : decode cX6_bestToAsk 57 = .ok (.ifCond .eq 5, 3) := by decide +kernel
theorem dX6_bestToAsk_60 : decode cX6_bestToAsk 60 = .ok (.iload_n 3, 1) := by decide +kernel
theorem dX6_bestToAsk_61 : decode cX6_bestToAsk 61 = .ok (.istore_n 2, 1) := by decide +kernel
theorem dX6_bestToAsk_62 : decode cX6_bestToAsk 62 = .ok (.iinc 3 1, 3) := by decide +kernel
theorem dX6_bestToAsk_65 : decode cX6_bestToAsk 65 = .ok (.goto (-61), 3) := by decide +kernel
theorem dX6_bestToAsk_68 : decode cX6_bestToAsk 68 = .ok (.iload_n 2, 1) := by decide +kernel
theorem dX6_bestToAsk_69 : decode cX6_bestToAsk 69 = .ok (.ireturn, 1) := by decide +kernel
theorem dX6_isBetter_0 : decode cX6_isBetter 0 = .ok (.aload_n 0, 1) := by decide +kernel
theorem dX6_isBetter_1 : decode cX6_isBetter 1 = .ok (.getfield 21, 3) := by decide +kernel
theorem dX6_isBetter_4 : decode cX6_isBetter 4 = .ok (.iload_n 1, 1) := by decide +kernel
theorem dX6_isBetter_5 : decode cX6_isBetter 5 = .ok (.invokevirtual 117, 3) := by decide +kernel
theorem dX6_isBetter_8 : decode cX6_isBetter 8 = .ok (.aload_n 0, 1) := by decide +kernel
theorem dX6_isBetter_9 : decode cX6_isBetter 9 = .ok (.getfield 21, 3) := by decide +kernel
theorem dX6_isBetter_12 : decode cX6_isBetter 12 = .ok (.iload_n 2, 1) := by decide +kernel
theorem dX6_isBetter_13 : decode cX6_isBetter 13 = .ok (.invokevirtual 117, 3) := by decide +kernel
theorem dX6_isBetter_16 : decode cX6_isBetter 16 = .ok (.isub, 1) := by decide +kernel
theorem dX6_isBetter_17 : decode cX6_isBetter 17 = .ok (.istore_n 3, 1) := by decide +kernel
theorem dX6_isBetter_18 : decode cX6_isBetter 18 = .ok (.iload_n 3, 1) := by decide +kernel
theorem dX6_isBetter_19 : decode cX6_isBetter 19 = .ok (.ifCond .eq 13, 3) := by decide +kernel
theorem dX6_isBetter_22 : decode cX6_isBetter 22 = .ok (.iload_n 3, 1) := by decide +kernel
theorem dX6_isBetter_23 : decode cX6_isBetter 23 = .ok (.ifCond .le 7, 3) := by decide +kernel
theorem dX6_isBetter_26 : decode cX6_isBetter 26 = .ok (.iconst 1, 1) := by decide +kernel
theorem dX6_isBetter_27 : decode cX6_isBetter 27 = .ok (.goto 4, 3) := by decide +kernel
theorem dX6_isBetter_30 : decode cX6_isBetter 30 = .ok (.iconst 0, 1) := by decide +kernel
theorem dX6_isBetter_31 : decode cX6_isBetter 31 = .ok (.ireturn, 1) := by decide +kernel
theorem dX6_isBetter_32 : decode cX6_isBetter 32 = .ok (.iload_n 1, 1) := by decide +kernel
theorem dX6_isBetter_33 : decode cX6_isBetter 33 = .ok (.invokestatic 120, 3) := by decide +kernel
theorem dX6_isBetter_36 : decode cX6_isBetter 36 = .ok (.iload_n 2, 1) := by decide +kernel
theorem dX6_isBetter_37 : decode cX6_isBetter 37 = .ok (.invokestatic 120, 3) := by decide +kernel
theorem dX6_isBetter_40 : decode cX6_isBetter 40 = .ok (.if_icmp .ge 7, 3) := by decide +kernel
theorem dX6_isBetter_43 : decode cX6_isBetter 43 = .ok (.iconst 1, 1) := by decide +kernel
theorem dX6_isBetter_44 : decode cX6_isBetter 44 = .ok (.goto 4, 3) := by decide +kernel
theorem dX6_isBetter_47 : decode cX6_isBetter 47 = .ok (.iconst 0, 1) := by decide +kernel
theorem dX6_isBetter_48 : decode cX6_isBetter 48 = .ok (.ireturn, 1) := by decide +kernel
theorem dX7_init_0 : decode cX7_init 0 = .ok (.aload_n 0, 1) := by decide +kernel
theorem dX7_init_1 : decode cX7_init 1 = .ok (.invokespecial 1, 3) := by decide +kernel
theorem dX7_init_4 : decode cX7_init 4 = .ok (.aload_n 0, 1) := by decide +kernel
theorem dX7_init_5 : decode cX7_init 5 = .ok (.new 7, 3) := by decide +kernel
theorem dX7_init_8 : decode cX7_init 8 = .ok (.dup, 1) := by decide +kernel
theorem dX7_init_9 : decode cX7_init 9 = .ok (.invokespecial 9, 3) := by decide +kernel
theorem dX7_init_12 : decode cX7_init 12 = .ok (.putfield 10, 3) := by decide +kernel
theorem dX7_init_15 : decode cX7_init 15 = .ok (.aload_n 0, 1) := by decide +kernel
theorem dX7_init_16 : decode cX7_init 16 = .ok (.new 16, 3) := by decide +kernel
theorem dX7_init_19 : decode cX7_init 19 = .ok (.dup, 1) := by decide +kernel
theorem dX7_init_20 : decode cX7_init 20 = .ok (.invokespecial 18, 3) := by decide +kernel
theorem dX7_init_23 : decode cX7_init 23 = .ok (.putfield 19, 3) := by decide +kernel
theorem dX7_init_26 : decode cX7_init 26 = .ok (.aload_n 0, 1) := by decide +kernel
theorem dX7_init_27 : decode cX7_init 27 = .ok (.new 23, 3) := by decide +kernel
theorem dX7_init_30 : decode cX7_init 30 = .ok (.dup, 1) := by decide +kernel
theorem dX7_init_31 : decode cX7_init 31 = .ok (.invokespecial 25, 3) := by decide +kernel
theorem dX7_init_34 : decode cX7_init 34 = .ok (.putfield 26, 3) := by decide +kernel
theorem dX7_init_37 : decode cX7_init 37 = .ok (.aload_n 0, 1) := by decide +kernel
theorem dX7_init_38 : decode cX7_init 38 = .ok (.new 30, 3) := by decide +kernel
theorem dX7_init_41 : decode cX7_init 41 = .ok (.dup, 1) := by decide +kernel
theorem dX7_init_42 : decode cX7_init 42 = .ok (.invokespecial 32, 3) := by decide +kernel
theorem dX7_init_45 : decode cX7_init 45 = .ok (.putfield 33, 3) := by decide +kernel
theorem dX7_init_48 : decode cX7_init 48 = .ok (.aload_n 0, 1) := by decide +kernel
theorem dX7_init_49 : decode cX7_init 49 = .ok (.new 37, 3) := by decide +kernel
theorem dX7_init_52 : decode cX7_init 52 = .ok (.dup, 1) := by decide +kernel
theorem dX7_init_53 : decode cX7_init 53 = .ok (.invokespecial 39, 3) := by decide +kernel
theorem dX7_init_56 : decode cX7_init 56 = .ok (.putfield 40, 3) := by decide +kernel
theorem dX7_init_59 : decode cX7_init 59 = .ok (.aload_n 0, 1) := by decide +kernel
theorem dX7_init_60 : decode cX7_init 60 = .ok (.iconst 2, 1) := by decide +kernel
theorem dX7_init_61 : decode cX7_init 61 = .ok (.anewarray 44, 3) := by decide +kernel
theorem dX7_init_64 : decode cX7_init 64 = .ok (.dup, 1) := by decide +kernel
theorem dX7_init_65 : decode cX7_init 65 = .ok (.iconst 0, 1) := by decide +kernel
theorem dX7_init_66 : decode cX7_init 66 = .ok (.new 44, 3) := by decide +kernel
theorem dX7_init_69 : decode cX7_init 69 = .ok (.dup, 1) := by decide +kernel
theorem dX7_init_70 : decode cX7_init 70 = .ok (.invokespecial 46, 3) := by decide +kernel
theorem dX7_init_73 : decode cX7_init 73 = .ok (.aastore, 1) := by decide +kernel
theorem dX7_init_74 : decode cX7_init 74 = .ok (.dup, 1) := by decide +kernel
theorem dX7_init_75 : decode cX7_init 75 = .ok (.iconst 1, 1) := by decide +kernel
theorem dX7_init_76 : decode cX7_init 76 = .ok (.new 44, 3) := by decide +kernel
theorem dX7_init_79 : decode cX7_init 79 = .ok (.dup, 1) := by decide +kernel
theorem dX7_init_80 : decode cX7_init 80 = .ok (.invokespecial 46, 3) := by decide +kernel
theorem dX7_init_83 : decode cX7_init 83 = .ok (.aastore, 1) := by decide +kernel
theorem dX7_init_84 : decode cX7_init 84 = .ok (.putfield 47, 3) := by decide +kernel
theorem dX7_init_87 : decode cX7_init 87 = .ok (.return_, 1) := by decide +kernel
theorem dX7_type_0 : decode cX7_type 0 = .ok (.iload_n 1, 1) := by decide +kernel
theorem dX7_type_1 : decode cX7_type 1 = .ok (.iconst 0, 1) := by decide +kernel
theorem dX7_type_2 : decode cX7_type 2 = .ok (.sipush 255, 3) := by decide +kernel
theorem dX7_type_5 : decode cX7_type 5 = .ok (.invokestatic 51, 3) := by decide +kernel
theorem dX7_type_8 : decode cX7_type 8 = .ok (.ifCond .ne 5, 3) := by decide +kernel
theorem dX7_type_11 : decode cX7_type 11 = .ok (.iconst (-1), 1) := by decide +kernel
theorem dX7_type_12 : decode cX7_type 12 = .ok (.ireturn, 1) := by decide +kernel
theorem dX7_type_13 : decode cX7_type 13 = .ok (.aload_n 0, 1) := by decide +kernel
theorem dX7_type_14 : decode cX7_type 14 = .ok (.getfield 10, 3) := by decide +kernel
theorem dX7_type_17 : decode cX7_type 17 = .ok (.iload_n 1, 1) := by decide +kernel
theorem dX7_type_18 : decode cX7_type 18 = .ok (.invokevirtual 55, 3) := by decide +kernel
theorem dX7_type_21 : decode cX7_type 21 = .ok (.ifCond .eq 13, 3) := by decide +kernel
theorem dX7_type_24 : decode cX7_type 24 = .ok (.aload_n 0, 1) := by decide +kernel
theorem dX7_type_25 : decode cX7_type 25 = .ok (.getfield 10, 3) := by decide +kernel
theorem dX7_type_28 : decode cX7_type 28 = .ok (.getfield 59, 3) := by decide +kernel
theorem dX7_type_31 : decode cX7_type 31 = .ok (.goto 5, 3) := by decide +kernel
theorem dX7_type_34 : decode cX7_type 34 = .ok (.bipush (-3), 2) := by decide +kernel
theorem dX7_type_36 : decode cX7_type 36 = .ok (.ireturn, 1) := by decide +kernel
theorem dX7_clear_0 : decode cX7_clear 0 = .ok (.aload_n 0, 1) := by decide +kernel
theorem dX7_clear_1 : decode cX7_clear 1 = .ok (.getfield 10, 3) := by decide +kernel
theorem dX7_clear_4 : decode cX7_clear 4 = .ok (.getfield 59, 3) := by decide +kernel
theorem dX7_clear_7 : decode cX7_clear 7 = .ok (.istore_n 1, 1) := by decide +kernel
theorem dX7_clear_8 : decode cX7_clear 8 = .ok (.aload_n 0, 1) := by decide +kernel
theorem dX7_clear_9 : decode cX7_clear 9 = .ok (.getfield 10, 3) := by decide +kernel
theorem dX7_clear_12 : decode cX7_clear 12 = .ok (.invokevirtual 63, 3) := by decide +kernel
theorem dX7_clear_15 : decode cX7_clear 15 = .ok (.iload_n 1, 1) := by decide +kernel
theorem dX7_clear_16 : decode cX7_clear 16 = .ok (.ireturn, 1) := by decide +kernel
theorem dX7_diocese_0 : decode cX7_diocese 0 = .ok (.aload_n 0, 1) := by decide +kernel
theorem dX7_diocese_1 : decode cX7_diocese 1 = .ok (.getfield 19, 3) := by decide +kernel
theorem dX7_diocese_4 : decode cX7_diocese 4 = .ok (.aload_n 0, 1) := by decide +kernel
theorem dX7_diocese_5 : decode cX7_diocese 5 = .ok (.getfield 10, 3) := by decide +kernel
theorem dX7_diocese_8 : decode cX7_diocese 8 = .ok (.invokevirtual 66, 3) := by decide +kernel
theorem dX7_diocese_11 : decode cX7_diocese 11 = .ok (.istore_n 1, 1) := by decide +kernel
theorem dX7_diocese_12 : decode cX7_diocese 12 = .ok (.iload_n 1, 1) := by decide +kernel
theorem dX7_diocese_13 : decode cX7_diocese 13 = .ok (.ifCond .ge 5, 3) := by decide +kernel
theorem dX7_diocese_16 : decode cX7_diocese 16 = .ok (.iload_n 1, 1) := by decide +kernel
theorem dX7_diocese_17 : decode cX7_diocese 17 = .ok (.ireturn, 1) := by decide +kernel
theorem dX7_diocese_18 : decode cX7_diocese 18 = .ok (.aload_n 0, 1) := by decide +kernel
theorem dX7_diocese_19 : decode cX7_diocese 19 = .ok (.getfield 26, 3) := by decide +kernel
theorem dX7_diocese_22 : decode cX7_diocese 22 = .ok (.aload_n 0, 1) := by decide +kernel
theorem dX7_diocese_23 : decode cX7_diocese 23 = .ok (.getfield 19, 3) := by decide +kernel
theorem dX7_diocese_26 : decode cX7_diocese 26 = .ok (.getfield 70, 3) := by decide +kernel
theorem dX7_diocese_29 : decode cX7_diocese 29 = .ok (.invokevirtual 74, 3) := by decide +kernel
theorem dX7_diocese_32 : decode cX7_diocese 32 = .ok (.aload_n 0, 1) := by decide +kernel
theorem dX7_diocese_33 : decode cX7_diocese 33 = .ok (.getfield 33, 3) := by decide +kernel
theorem dX7_diocese_36 : decode cX7_diocese 36 = .ok (.invokevirtual 78, 3) := by decide +kernel
theorem dX7_diocese_39 : decode cX7_diocese 39 = .ok (.aload_n 0, 1) := by decide +kernel
theorem dX7_diocese_40 : decode cX7_diocese 40 = .ok (.iconst 0, 1) := by decide +kernel
theorem dX7_diocese_41 : decode cX7_diocese 41 = .ok (.putfield 81, 3) := by decide +kernel
theorem dX7_diocese_44 : decode cX7_diocese 44 = .ok (.aload_n 0, 1) := by decide +kernel
theorem dX7_diocese_45 : decode cX7_diocese 45 = .ok (.getfield 10, 3) := by decide +kernel
theorem dX7_diocese_48 : decode cX7_diocese 48 = .ok (.invokevirtual 63, 3) := by decide +kernel
theorem dX7_diocese_51 : decode cX7_diocese 51 = .ok (.iload_n 1, 1) := by decide +kernel
theorem dX7_diocese_52 : decode cX7_diocese 52 = .ok (.ireturn, 1) := by decide +kernel
theorem dX7_roof_0 : decode cX7_roof 0 = .ok (.iload_n 1, 1) := by decide +kernel
theorem dX7_roof_1 : decode cX7_roof 1 = .ok (.invokestatic 84, 3) := by decide +kernel
theorem dX7_roof_4 : decode cX7_roof 4 = .ok (.ifCond .eq 18, 3) := by decide +kernel
theorem dX7_roof_7 : decode cX7_roof 7 = .ok (.aload_n 0, 1) := by decide +kernel
theorem dX7_roof_8 : decode cX7_roof 8 = .ok (.getfield 26, 3) := by decide +kernel
theorem dX7_roof_11 : decode cX7_roof 11 = .ok (.getfield 87, 3) := by decide +kernel
theorem dX7_roof_14 : decode cX7_roof 14 = .ok (.getfield 91, 3) := by decide +kernel
theorem dX7_roof_17 : decode cX7_roof 17 = .ok (.iload_n 1, 1) := by decide +kernel
theorem dX7_roof_18 : decode cX7_roof 18 = .ok (.iaload, 1) := by decide +kernel
theorem dX7_roof_19 : decode cX7_roof 19 = .ok (.goto 4, 3) := by decide +kernel
theorem dX7_roof_22 : decode cX7_roof 22 = .ok (.iconst (-1), 1) := by decide +kernel
theorem dX7_roof_23 : decode cX7_roof 23 = .ok (.ireturn, 1) := by decide +kernel
theorem dX7_cock_0 : decode cX7_cock 0 = .ok (.aload_n 0, 1) := by decide +kernel
theorem dX7_cock_1 : decode cX7_cock 1 = .ok (.iload_n 1, 1) := by decide +kernel
theorem dX7_cock_2 : decode cX7_cock 2 = .ok (.invokevirtual 95, 3) := by decide +kernel
theorem dX7_cock_5 : decode cX7_cock 5 = .ok (.ifCond .ne 5, 3) := by decide +kernel
theorem dX7_cock_8 : decode cX7_cock 8 = .ok (.iconst (-1), 1) := by decide +kernel
theorem dX7_cock_9 : decode cX7_cock 9 = .ok (.ireturn, 1) := by decide +kernel
theorem dX7_cock_10 : decode cX7_cock 10 = .ok (.iload_n 2, 1) := by decide +kernel
theorem dX7_cock_11 : decode cX7_cock 11 = .ok (.tableswitch 123 0 7 #[45, 45, 45, 45, 60, 69, 91, 111], 45) := by decide +kernel
theorem dX7_cock_56 : decode cX7_cock 56 = .ok (.aload_n 0, 1) := by decide +kernel
theorem dX7_cock_57 : decode cX7_cock 57 = .ok (.getfield 26, 3) := by decide +kernel
theorem dX7_cock_60 : decode cX7_cock 60 = .ok (.getfield 98, 3) := by decide +kernel
theorem dX7_cock_63 : decode cX7_cock 63 = .ok (.getfield 101, 3) := by decide +kernel
theorem dX7_cock_66 : decode cX7_cock 66 = .ok (.iload_n 1, 1) := by decide +kernel
theorem dX7_cock_67 : decode cX7_cock 67 = .ok (.aaload, 1) := by decide +kernel
theorem dX7_cock_68 : decode cX7_cock 68 = .ok (.iload_n 2, 1) := by decide +kernel
theorem dX7_cock_69 : decode cX7_cock 69 = .ok (.iaload, 1) := by decide +kernel
theorem dX7_cock_70 : decode cX7_cock 70 = .ok (.ireturn, 1) := by decide +kernel
theorem dX7_cock_71 : decode cX7_cock 71 = .ok (.aload_n 0, 1) := by decide +kernel
theorem dX7_cock_72 : decode cX7_cock 72 = .ok (.getfield 26, 3) := by decide +kernel
theorem dX7_cock_75 : decode cX7_cock 75 = .ok (.iload_n 1, 1) := by decide +kernel
theorem dX7_cock_76 : decode cX7_cock 76 = .ok (.invokevirtual 107, 3) := by decide +kernel
theorem dX7_cock_79 : decode cX7_cock 79 = .ok (.ireturn, 1) := by decide +kernel
theorem dX7_cock_80 : decode cX7_cock 80 = .ok (.aload_n 0, 1) := by decide +kernel
theorem dX7_cock_81 : decode cX7_cock 81 = .ok (.getfield 26, 3) := by decide +kernel
theorem dX7_cock_84 : decode cX7_cock 84 = .ok (.getfield 98, 3) := by decide +kernel
theorem dX7_cock_87 : decode cX7_cock 87 = .ok (.iload_n 1, 1) := by decide +kernel
theorem dX7_cock_88 : decode cX7_cock 88 = .ok (.aload_n 0, 1) := by decide +kernel
theorem dX7_cock_89 : decode cX7_cock 89 = .ok (.getfield 26, 3) := by decide +kernel
theorem dX7_cock_92 : decode cX7_cock 92 = .ok (.getfield 87, 3) := by decide +kernel
theorem dX7_cock_95 : decode cX7_cock 95 = .ok (.getfield 111, 3) := by decide +kernel
theorem dX7_cock_98 : decode cX7_cock 98 = .ok (.invokevirtual 114, 3) := by decide +kernel
theorem dX7_cock_101 : decode cX7_cock 101 = .ok (.ireturn, 1) := by decide +kernel
theorem dX7_cock_102 : decode cX7_cock 102 = .ok (.aload_n 0, 1) := by decide +kernel
theorem dX7_cock_103 : decode cX7_cock 103 = .ok (.getfield 26, 3) := by decide +kernel
theorem dX7_cock_106 : decode cX7_cock 106 = .ok (.getfield 87, 3) := by decide +kernel
theorem dX7_cock_109 : decode cX7_cock 109 = .ok (.iload_n 1, 1) := by decide +kernel
theorem dX7_cock_110 : decode cX7_cock 110 = .ok (.invokevirtual 118, 3) := by decide +kernel
theorem dX7_cock_113 : decode cX7_cock 113 = .ok (.ifCond .eq 7, 3) := by decide +kernel
theorem dX7_cock_116 : decode cX7_cock 116 = .ok (.iconst 1, 1) := by decide +kernel
theorem dX7_cock_117 : decode cX7_cock 117 = .ok (.goto 4, 3) := by decide +kernel
theorem dX7_cock_120 : decode cX7_cock 120 = .ok (.iconst 0, 1) := by decide +kernel
theorem dX7_cock_121 : decode cX7_cock 121 = .ok (.ireturn, 1) := by decide +kernel
theorem dX7_cock_122 : decode cX7_cock 122 = .ok (.aload_n 0, 1) := by decide +kernel
theorem dX7_cock_123 : decode cX7_cock 123 = .ok (.getfield 26, 3) := by decide +kernel
theorem dX7_cock_126 : decode cX7_cock 126 = .ok (.getfield 87, 3) := by decide +kernel
theorem dX7_cock_129 : decode cX7_cock 129 = .ok (.iload_n 1, 1) := by decide +kernel
theorem dX7_cock_130 : decode cX7_cock 130 = .ok (.invokevirtual 121, 3) := by decide +kernel
theorem dX7_cock_133 : decode cX7_cock 133 = .ok (.ireturn, 1) := by decide +kernel
theorem dX7_cock_134 : decode cX7_cock 134 = .ok (.iconst (-1), 1) := by decide +kernel
theorem dX7_cock_135 : decode cX7_cock 135 = .ok (.ireturn, 1) := by decide +kernel
theorem dX7_one_0 : decode cX7_one 0 = .ok (.aload_n 0, 1) := by decide +kernel
theorem dX7_one_1 : decode cX7_one 1 = .ok (.iload_n 1, 1) := by decide +kernel
theorem dX7_one_2 : decode cX7_one 2 = .ok (.invokevirtual 124, 3) := by decide +kernel
theorem dX7_one_5 : decode cX7_one 5 = .ok (.ifCond .ne 6, 3) := by decide +kernel
theorem dX7_one_8 : decode cX7_one 8 = .ok (.ldc 127, 2) := by decide +kernel
theorem dX7_one_10 : decode cX7_one 10 = .ok (.ireturn, 1) := by decide +kernel
theorem dX7_one_11 : decode cX7_one 11 = .ok (.iload_n 2, 1) := by decide +kernel
theorem dX7_one_12 : decode cX7_one 12 = .ok (.tableswitch 65 0 2 #[28, 28, 43], 28) := by decide +kernel
theorem dX7_one_40 : decode cX7_one 40 = .ok (.aload_n 0, 1) := by decide +kernel
theorem dX7_one_41 : decode cX7_one 41 = .ok (.getfield 26, 3) := by decide +kernel
theorem dX7_one_44 : decode cX7_one 44 = .ok (.getfield 98, 3) := by decide +kernel
theorem dX7_one_47 : decode cX7_one 47 = .ok (.getfield 128, 3) := by decide +kernel
theorem dX7_one_50 : decode cX7_one 50 = .ok (.iload_n 1, 1) := by decide +kernel
theorem dX7_one_51 : decode cX7_one 51 = .ok (.aaload, 1) := by decide +kernel
theorem dX7_one_52 : decode cX7_one 52 = .ok (.iload_n 2, 1) := by decide +kernel
theorem dX7_one_53 : decode cX7_one 53 = .ok (.iaload, 1) := by decide +kernel
theorem dX7_one_54 : decode cX7_one 54 = .ok (.ireturn, 1) := by decide +kernel
theorem dX7_one_55 : decode cX7_one 55 = .ok (.aload_n 0, 1) := by decide +kernel
theorem dX7_one_56 : decode cX7_one 56 = .ok (.getfield 26, 3) := by decide +kernel
theorem dX7_one_59 : decode cX7_one 59 = .ok (.getfield 98, 3) := by decide +kernel
theorem dX7_one_62 : decode cX7_one 62 = .ok (.iload_n 1, 1) := by decide +kernel
theorem dX7_one_63 : decode cX7_one 63 = .ok (.aload_n 0, 1) := by decide +kernel
theorem dX7_one_64 : decode cX7_one 64 = .ok (.getfield 26, 3) := by decide +kernel
theorem dX7_one_67 : decode cX7_one 67 = .ok (.getfield 87, 3) := by decide +kernel
theorem dX7_one_70 : decode cX7_one 70 = .ok (.getfield 111, 3) := by decide +kernel
theorem dX7_one_73 : decode cX7_one 73 = .ok (.invokevirtual 131, 3) := by decide +kernel
theorem dX7_one_76 : decode cX7_one 76 = .ok (.ireturn, 1) := by decide +kernel
theorem dX7_one_77 : decode cX7_one 77 = .ok (.ldc 127, 2) := by decide +kernel
theorem dX7_one_79 : decode cX7_one 79 = .ok (.ireturn, 1) := by decide +kernel
theorem dX7_saw_0 : decode cX7_saw 0 = .ok (.aload_n 0, 1) := by decide +kernel
theorem dX7_saw_1 : decode cX7_saw 1 = .ok (.iload_n 1, 1) := by decide +kernel
theorem dX7_saw_2 : decode cX7_saw 2 = .ok (.invokevirtual 95, 3) := by decide +kernel
theorem dX7_saw_5 : decode cX7_saw 5 = .ok (.ifCond .eq 28, 3) := by decide +kernel
theorem dX7_saw_8 : decode cX7_saw 8 = .ok (.aload_n 0, 1) := by decide +kernel
theorem dX7_saw_9 : decode cX7_saw 9 = .ok (.iload_n 2, 1) := by decide +kernel
theorem dX7_saw_10 : decode cX7_saw 10 = .ok (.invokevirtual 124, 3) := by decide +kernel
theorem dX7_saw_13 : decode cX7_saw 13 = .ok (.ifCond .eq 20, 3) := by decide +kernel
theorem dX7_saw_16 : decode cX7_saw 16 = .ok (.aload_n 0, 1) := by decide +kernel
theorem dX7_saw_17 : decode cX7_saw 17 = .ok (.getfield 26, 3) := by decide +kernel
theorem dX7_saw_20 : decode cX7_saw 20 = .ok (.getfield 87, 3) := by decide +kernel
theorem dX7_saw_23 : decode cX7_saw 23 = .ok (.getfield 134, 3) := by decide +kernel
theorem dX7_saw_26 : decode cX7_saw 26 = .ok (.iload_n 1, 1) := by decide +kernel
theorem dX7_saw_27 : decode cX7_saw 27 = .ok (.aaload, 1) := by decide +kernel
theorem dX7_saw_28 : decode cX7_saw 28 = .ok (.iload_n 2, 1) := by decide +kernel
theorem dX7_saw_29 : decode cX7_saw 29 = .ok (.iaload, 1) := by decide +kernel
theorem dX7_saw_30 : decode cX7_saw 30 = .ok (.goto 4, 3) := by decide +kernel
theorem dX7_saw_33 : decode cX7_saw 33 = .ok (.iconst (-1), 1) := by decide +kernel
theorem dX7_saw_34 : decode cX7_saw 34 = .ok (.ireturn, 1) := by decide +kernel
theorem dX7_known_0 : decode cX7_known 0 = .ok (.aload_n 0, 1) := by decide +kernel
theorem dX7_known_1 : decode cX7_known 1 = .ok (.iload_n 1, 1) := by decide +kernel
theorem dX7_known_2 : decode cX7_known 2 = .ok (.invokevirtual 124, 3) := by decide +kernel
theorem dX7_known_5 : decode cX7_known 5 = .ok (.ifCond .eq 27, 3) := by decide +kernel
theorem dX7_known_8 : decode cX7_known 8 = .ok (.aload_n 0, 1) := by decide +kernel
theorem dX7_known_9 : decode cX7_known 9 = .ok (.getfield 26, 3) := by decide +kernel
theorem dX7_known_12 : decode cX7_known 12 = .ok (.getfield 87, 3) := by decide +kernel
theorem dX7_known_15 : decode cX7_known 15 = .ok (.aload_n 0, 1) := by decide +kernel
theorem dX7_known_16 : decode cX7_known 16 = .ok (.getfield 26, 3) := by decide +kernel
theorem dX7_known_19 : decode cX7_known 19 = .ok (.getfield 87, 3) := by decide +kernel
theorem dX7_known_22 : decode cX7_known 22 = .ok (.getfield 137, 3) := by decide +kernel
theorem dX7_known_25 : decode cX7_known 25 = .ok (.iload_n 1, 1) := by decide +kernel
theorem dX7_known_26 : decode cX7_known 26 = .ok (.invokevirtual 140, 3) := by decide +kernel
theorem dX7_known_29 : decode cX7_known 29 = .ok (.goto 4, 3) := by decide +kernel
theorem dX7_known_32 : decode cX7_known 32 = .ok (.iconst (-1), 1) := by decide +kernel
theorem dX7_known_33 : decode cX7_known 33 = .ok (.ireturn, 1) := by decide +kernel
theorem dX7_hours_0 : decode cX7_hours 0 = .ok (.iload_n 1, 1) := by decide +kernel
theorem dX7_hours_1 : decode cX7_hours 1 = .ok (.iconst 1, 1) := by decide +kernel
theorem dX7_hours_2 : decode cX7_hours 2 = .ok (.bipush 9, 2) := by decide +kernel
theorem dX7_hours_4 : decode cX7_hours 4 = .ok (.invokestatic 51, 3) := by decide +kernel
theorem dX7_hours_7 : decode cX7_hours 7 = .ok (.ifCond .ne 5, 3) := by decide +kernel
theorem dX7_hours_10 : decode cX7_hours 10 = .ok (.iconst (-1), 1) := by decide +kernel
theorem dX7_hours_11 : decode cX7_hours 11 = .ok (.ireturn, 1) := by decide +kernel
theorem dX7_hours_12 : decode cX7_hours 12 = .ok (.aload_n 0, 1) := by decide +kernel
theorem dX7_hours_13 : decode cX7_hours 13 = .ok (.getfield 26, 3) := by decide +kernel
theorem dX7_hours_16 : decode cX7_hours 16 = .ok (.getfield 87, 3) := by decide +kernel
theorem dX7_hours_19 : decode cX7_hours 19 = .ok (.getfield 111, 3) := by decide +kernel
theorem dX7_hours_22 : decode cX7_hours 22 = .ok (.bipush 30, 2) := by decide +kernel
theorem dX7_hours_24 : decode cX7_hours 24 = .ok (.if_icmp .lt 6, 3) := by decide +kernel
theorem dX7_hours_27 : decode cX7_hours 27 = .ok (.bipush (-2), 2) := by decide +kernel
theorem dX7_hours_29 : decode cX7_hours 29 = .ok (.ireturn, 1) := by decide +kernel
theorem dX7_hours_30 : decode cX7_hours 30 = .ok (.aload_n 0, 1) := by decide +kernel
theorem dX7_hours_31 : decode cX7_hours 31 = .ok (.getfield 26, 3) := by decide +kernel
theorem dX7_hours_34 : decode cX7_hours 34 = .ok (.iload_n 1, 1) := by decide +kernel
theorem dX7_hours_35 : decode cX7_hours 35 = .ok (.invokevirtual 143, 3) := by decide +kernel
theorem dX7_hours_38 : decode cX7_hours 38 = .ok (.aload_n 0, 1) := by decide +kernel
theorem dX7_hours_39 : decode cX7_hours 39 = .ok (.getfield 26, 3) := by decide +kernel
theorem dX7_hours_42 : decode cX7_hours 42 = .ok (.getfield 87, 3) := by decide +kernel
theorem dX7_hours_45 : decode cX7_hours 45 = .ok (.getfield 111, 3) := by decide +kernel
theorem dX7_hours_48 : decode cX7_hours 48 = .ok (.ireturn, 1) := by decide +kernel
theorem dX7_builds_0 : decode cX7_builds 0 = .ok (.iload_n 1, 1) := by decide +kernel
theorem dX7_builds_1 : decode cX7_builds 1 = .ok (.invokestatic 84, 3) := by decide +kernel
theorem dX7_builds_4 : decode cX7_builds 4 = .ok (.ifCond .eq 13, 3) := by decide +kernel
theorem dX7_builds_7 : decode cX7_builds 7 = .ok (.iload_n 2, 1) := by decide +kernel
theorem dX7_builds_8 : decode cX7_builds 8 = .ok (.iconst 0, 1) := by decide +kernel
theorem dX7_builds_9 : decode cX7_builds 9 = .ok (.bipush 9, 2) := by decide +kernel
theorem dX7_builds_11 : decode cX7_builds 11 = .ok (.invokestatic 51, 3) := by decide +kernel
theorem dX7_builds_14 : decode cX7_builds 14 = .ok (.ifCond .ne 5, 3) := by decide +kernel
theorem dX7_builds_17 : decode cX7_builds 17 = .ok (.iconst (-1), 1) := by decide +kernel
theorem dX7_builds_18 : decode cX7_builds 18 = .ok (.ireturn, 1) := by decide +kernel
theorem dX7_builds_19 : decode cX7_builds 19 = .ok (.aload_n 0, 1) := by decide +kernel
theorem dX7_builds_20 : decode cX7_builds 20 = .ok (.getfield 26, 3) := by decide +kernel
theorem dX7_builds_23 : decode cX7_builds 23 = .ok (.getfield 87, 3) := by decide +kernel
theorem dX7_builds_26 : decode cX7_builds 26 = .ok (.getfield 91, 3) := by decide +kernel
theorem dX7_builds_29 : decode cX7_builds 29 = .ok (.iload_n 1, 1) := by decide +kernel
theorem dX7_builds_30 : decode cX7_builds 30 = .ok (.iaload, 1) := by decide +kernel
theorem dX7_builds_31 : decode cX7_builds 31 = .ok (.istore_n 3, 1) := by decide +kernel
theorem dX7_builds_32 : decode cX7_builds 32 = .ok (.iload_n 3, 1) := by decide +kernel
theorem dX7_builds_33 : decode cX7_builds 33 = .ok (.iload_n 2, 1) := by decide +kernel
theorem dX7_builds_34 : decode cX7_builds 34 = .ok (.if_icmp .ne 6, 3) := by decide +kernel
theorem dX7_builds_37 : decode cX7_builds 37 = .ok (.bipush (-2), 2) := by decide +kernel
theorem dX7_builds_39 : decode cX7_builds 39 = .ok (.ireturn, 1) := by decide +kernel
theorem dX7_builds_40 : decode cX7_builds 40 = .ok (.aload_n 0, 1) := by decide +kernel
theorem dX7_builds_41 : decode cX7_builds 41 = .ok (.getfield 26, 3) := by decide +kernel
theorem dX7_builds_44 : decode cX7_builds 44 = .ok (.getfield 87, 3) := by decide +kernel
theorem dX7_builds_47 : decode cX7_builds 47 = .ok (.iload_n 1, 1) := by decide +kernel
theorem dX7_builds_48 : decode cX7_builds 48 = .ok (.iload_n 2, 1) := by decide +kernel
theorem dX7_builds_49 : decode cX7_builds 49 = .ok (.invokevirtual 147, 3) := by decide +kernel
theorem dX7_builds_52 : decode cX7_builds 52 = .ok (.iload_n 3, 1) := by decide +kernel
theorem dX7_builds_53 : decode cX7_builds 53 = .ok (.ireturn, 1) := by decide +kernel
theorem dX7_asks_0 : decode cX7_asks 0 = .ok (.aload_n 0, 1) := by decide +kernel
theorem dX7_asks_1 : decode cX7_asks 1 = .ok (.iload_n 1, 1) := by decide +kernel
theorem dX7_asks_2 : decode cX7_asks 2 = .ok (.invokevirtual 95, 3) := by decide +kernel
theorem dX7_asks_5 : decode cX7_asks 5 = .ok (.ifCond .ne 5, 3) := by decide +kernel
theorem dX7_asks_8 : decode cX7_asks 8 = .ok (.iconst (-1), 1) := by decide +kernel
theorem dX7_asks_9 : decode cX7_asks 9 = .ok (.ireturn, 1) := by decide +kernel
theorem dX7_asks_10 : decode cX7_asks 10 = .ok (.aload_n 0, 1) := by decide +kernel
theorem dX7_asks_11 : decode cX7_asks 11 = .ok (.getfield 26, 3) := by decide +kernel
theorem dX7_asks_14 : decode cX7_asks 14 = .ok (.getfield 87, 3) := by decide +kernel
theorem dX7_asks_17 : decode cX7_asks 17 = .ok (.iload_n 1, 1) := by decide +kernel
theorem dX7_asks_18 : decode cX7_asks 18 = .ok (.invokevirtual 118, 3) := by decide +kernel
theorem dX7_asks_21 : decode cX7_asks 21 = .ok (.ifCond .eq 6, 3) := by decide +kernel
theorem dX7_asks_24 : decode cX7_asks 24 = .ok (.bipush (-2), 2) := by decide +kernel
theorem dX7_asks_26 : decode cX7_asks 26 = .ok (.ireturn, 1) := by decide +kernel
theorem dX7_asks_27 : decode cX7_asks 27 = .ok (.aload_n 0, 1) := by decide +kernel
theorem dX7_asks_28 : decode cX7_asks 28 = .ok (.getfield 26, 3) := by decide +kernel
theorem dX7_asks_31 : decode cX7_asks 31 = .ok (.getfield 87, 3) := by decide +kernel
theorem dX7_asks_34 : decode cX7_asks 34 = .ok (.iconst 0, 1) := by decide +kernel
theorem dX7_asks_35 : decode cX7_asks 35 = .ok (.invokevirtual 151, 3) := by decide +kernel
theorem dX7_asks_38 : decode cX7_asks 38 = .ok (.istore_n 2, 1) := by decide +kernel
theorem dX7_asks_39 : decode cX7_asks 39 = .ok (.aload_n 0, 1) := by decide +kernel
theorem dX7_asks_40 : decode cX7_asks 40 = .ok (.getfield 26, 3) := by decide +kernel
theorem dX7_asks_43 : decode cX7_asks 43 = .ok (.getfield 87, 3) := by decide +kernel
theorem dX7_asks_46 : decode cX7_asks 46 = .ok (.iload_n 1, 1) := by decide +kernel
theorem dX7_asks_47 : decode cX7_asks 47 = .ok (.invokevirtual 154, 3) := by decide +kernel
theorem dX7_asks_50 : decode cX7_asks 50 = .ok (.aload_n 0, 1) := by decide +kernel
theorem dX7_asks_51 : decode cX7_asks 51 = .ok (.getfield 26, 3) := by decide +kernel
theorem dX7_asks_54 : decode cX7_asks 54 = .ok (.getfield 87, 3) := by decide +kernel
theorem dX7_asks_57 : decode cX7_asks 57 = .ok (.iconst 0, 1) := by decide +kernel
theorem dX7_asks_58 : decode cX7_asks 58 = .ok (.invokevirtual 151, 3) := by decide +kernel
theorem dX7_asks_61 : decode cX7_asks 61 = .ok (.iload_n 2, 1) := by decide +kernel
theorem dX7_asks_62 : decode cX7_asks 62 = .ok (.isub, 1) := by decide +kernel
theorem dX7_asks_63 : decode cX7_asks 63 = .ok (.ireturn, 1) := by decide +kernel
theorem dX7_undo_0 : decode cX7_undo 0 = .ok (.aload_n 0, 1) := by decide +kernel
theorem dX7_undo_1 : decode cX7_undo 1 = .ok (.getfield 26, 3) := by decide +kernel
theorem dX7_undo_4 : decode cX7_undo 4 = .ok (.getfield 87, 3) := by decide +kernel
theorem dX7_undo_7 : decode cX7_undo 7 = .ok (.getfield 157, 3) := by decide +kernel
theorem dX7_undo_10 : decode cX7_undo 10 = .ok (.ifCond .ne 6, 3) := by decide +kernel
theorem dX7_undo_13 : decode cX7_undo 13 = .ok (.bipush (-2), 2) := by decide +kernel
theorem dX7_undo_15 : decode cX7_undo 15 = .ok (.ireturn, 1) := by decide +kernel
theorem dX7_undo_16 : decode cX7_undo 16 = .ok (.aload_n 0, 1) := by decide +kernel
theorem dX7_undo_17 : decode cX7_undo 17 = .ok (.getfield 26, 3) := by decide +kernel
theorem dX7_undo_20 : decode cX7_undo 20 = .ok (.getfield 87, 3) := by decide +kernel
theorem dX7_undo_23 : decode cX7_undo 23 = .ok (.invokevirtual 160, 3) := by decide +kernel
theorem dX7_undo_26 : decode cX7_undo 26 = .ok (.aload_n 0, 1) := by decide +kernel
theorem dX7_undo_27 : decode cX7_undo 27 = .ok (.getfield 26, 3) := by decide +kernel
theorem dX7_undo_30 : decode cX7_undo 30 = .ok (.getfield 87, 3) := by decide +kernel
theorem dX7_undo_33 : decode cX7_undo 33 = .ok (.getfield 157, 3) := by decide +kernel
theorem dX7_undo_36 : decode cX7_undo 36 = .ok (.ireturn, 1) := by decide +kernel
theorem dX7_now_0 : decode cX7_now 0 = .ok (.iload_n 1, 1) := by decide +kernel
theorem dX7_now_1 : decode cX7_now 1 = .ok (.tableswitch 100 0 4 #[35, 46, 57, 69, 90], 35) := by decide +kernel
theorem dX7_now_36 : decode cX7_now 36 = .ok (.aload_n 0, 1) := by decide +kernel
theorem dX7_now_37 : decode cX7_now 37 = .ok (.getfield 26, 3) := by decide +kernel
theorem dX7_now_40 : decode cX7_now 40 = .ok (.getfield 87, 3) := by decide +kernel
theorem dX7_now_43 : decode cX7_now 43 = .ok (.getfield 111, 3) := by decide +kernel
theorem dX7_now_46 : decode cX7_now 46 = .ok (.ireturn, 1) := by decide +kernel
theorem dX7_now_47 : decode cX7_now 47 = .ok (.aload_n 0, 1) := by decide +kernel
theorem dX7_now_48 : decode cX7_now 48 = .ok (.getfield 26, 3) := by decide +kernel
theorem dX7_now_51 : decode cX7_now 51 = .ok (.getfield 87, 3) := by decide +kernel
theorem dX7_now_54 : decode cX7_now 54 = .ok (.getfield 137, 3) := by decide +kernel
theorem dX7_now_57 : decode cX7_now 57 = .ok (.ireturn, 1) := by decide +kernel
theorem dX7_now_58 : decode cX7_now 58 = .ok (.aload_n 0, 1) := by decide +kernel
theorem dX7_now_59 : decode cX7_now 59 = .ok (.getfield 26, 3) := by decide +kernel
theorem dX7_now_62 : decode cX7_now 62 = .ok (.getfield 87, 3) := by decide +kernel
theorem dX7_now_65 : decode cX7_now 65 = .ok (.iconst 0, 1) := by decide +kernel
theorem dX7_now_66 : decode cX7_now 66 = .ok (.invokevirtual 151, 3) := by decide +kernel
theorem dX7_now_69 : decode cX7_now 69 = .ok (.ireturn, 1) := by decide +kernel
theorem dX7_now_70 : decode cX7_now 70 = .ok (.aload_n 0, 1) := by decide +kernel
theorem dX7_now_71 : decode cX7_now 71 = .ok (.getfield 26, 3) := by decide +kernel
theorem dX7_now_74 : decode cX7_now 74 = .ok (.getfield 87, 3) := by decide +kernel
theorem dX7_now_77 : decode cX7_now 77 = .ok (.aload_n 0, 1) := by decide +kernel
theorem dX7_now_78 : decode cX7_now 78 = .ok (.getfield 26, 3) := by decide +kernel
theorem dX7_now_81 : decode cX7_now 81 = .ok (.getfield 98, 3) := by decide +kernel
theorem dX7_now_84 : decode cX7_now 84 = .ok (.invokevirtual 163, 3) := by decide +kernel
theorem dX7_now_87 : decode cX7_now 87 = .ok (.invokevirtual 167, 3) := by decide +kernel
theorem dX7_now_90 : decode cX7_now 90 = .ok (.ireturn, 1) := by decide +kernel
theorem dX7_now_91 : decode cX7_now 91 = .ok (.aload_n 0, 1) := by decide +kernel
theorem dX7_now_92 : decode cX7_now 92 = .ok (.getfield 26, 3) := by decide +kernel
theorem dX7_now_95 : decode cX7_now 95 = .ok (.ldc 170, 2) := by decide +kernel
theorem dX7_now_97 : decode cX7_now 97 = .ok (.invokevirtual 171, 3) := by decide +kernel
theorem dX7_now_100 : decode cX7_now 100 = .ok (.ireturn, 1) := by decide +kernel
theorem dX7_now_101 : decode cX7_now 101 = .ok (.iconst (-1), 1) := by decide +kernel
theorem dX7_now_102 : decode cX7_now 102 = .ok (.ireturn, 1) := by decide +kernel
theorem dX7_view_0 : decode cX7_view 0 = .ok (.aload_n 0, 1) := by decide +kernel
theorem dX7_view_1 : decode cX7_view 1 = .ok (.iload_n 1, 1) := by decide +kernel
theorem dX7_view_2 : decode cX7_view 2 = .ok (.invokevirtual 95, 3) := by decide +kernel
theorem dX7_view_5 : decode cX7_view 5 = .ok (.ifCond .eq 22, 3) := by decide +kernel
theorem dX7_view_8 : decode cX7_view 8 = .ok (.iload_n 2, 1) := by decide +kernel
theorem dX7_view_9 : decode cX7_view 9 = .ok (.invokestatic 174, 3) := by decide +kernel
theorem dX7_view_12 : decode cX7_view 12 = .ok (.ifCond .eq 15, 3) := by decide +kernel
theorem dX7_view_15 : decode cX7_view 15 = .ok (.aload_n 0, 1) := by decide +kernel
theorem dX7_view_16 : decode cX7_view 16 = .ok (.getfield 26, 3) := by decide +kernel
theorem dX7_view_19 : decode cX7_view 19 = .ok (.iload_n 1, 1) := by decide +kernel
theorem dX7_view_20 : decode cX7_view 20 = .ok (.iload_n 2, 1) := by decide +kernel
theorem dX7_view_21 : decode cX7_view 21 = .ok (.invokevirtual 177, 3) := by decide +kernel
theorem dX7_view_24 : decode cX7_view 24 = .ok (.goto 4, 3) := by decide +kernel
theorem dX7_view_27 : decode cX7_view 27 = .ok (.iconst (-1), 1) := by decide +kernel
theorem dX7_view_28 : decode cX7_view 28 = .ok (.ireturn, 1) := by decide +kernel
theorem dX7_blind_0 : decode cX7_blind 0 = .ok (.iload_n 1, 1) := by decide +kernel
theorem dX7_blind_1 : decode cX7_blind 1 = .ok (.invokestatic 174, 3) := by decide +kernel
theorem dX7_blind_4 : decode cX7_blind 4 = .ok (.ifCond .eq 14, 3) := by decide +kernel
theorem dX7_blind_7 : decode cX7_blind 7 = .ok (.aload_n 0, 1) := by decide +kernel
theorem dX7_blind_8 : decode cX7_blind 8 = .ok (.getfield 26, 3) := by decide +kernel
theorem dX7_blind_11 : decode cX7_blind 11 = .ok (.iload_n 1, 1) := by decide +kernel
theorem dX7_blind_12 : decode cX7_blind 12 = .ok (.invokevirtual 180, 3) := by decide +kernel
theorem dX7_blind_15 : decode cX7_blind 15 = .ok (.goto 4, 3) := by decide +kernel
theorem dX7_blind_18 : decode cX7_blind 18 = .ok (.iconst (-1), 1) := by decide +kernel
theorem dX7_blind_19 : decode cX7_blind 19 = .ok (.ireturn, 1) := by decide +kernel
theorem dX7_most_0 : decode cX7_most 0 = .ok (.iload_n 1, 1) := by decide +kernel
theorem dX7_most_1 : decode cX7_most 1 = .ok (.iconst 0, 1) := by decide +kernel
theorem dX7_most_2 : decode cX7_most 2 = .ok (.bipush 60, 2) := by decide +kernel
theorem dX7_most_4 : decode cX7_most 4 = .ok (.invokestatic 51, 3) := by decide +kernel
theorem dX7_most_7 : decode cX7_most 7 = .ok (.ifCond .eq 12, 3) := by decide +kernel
theorem dX7_most_10 : decode cX7_most 10 = .ok (.iload_n 2, 1) := by decide +kernel
theorem dX7_most_11 : decode cX7_most 11 = .ok (.iconst 0, 1) := by decide +kernel
theorem dX7_most_12 : decode cX7_most 12 = .ok (.iconst 1, 1) := by decide +kernel
theorem dX7_most_13 : decode cX7_most 13 = .ok (.invokestatic 51, 3) := by decide +kernel
theorem dX7_most_16 : decode cX7_most 16 = .ok (.ifCond .ne 5, 3) := by decide +kernel
theorem dX7_most_19 : decode cX7_most 19 = .ok (.iconst (-1), 1) := by decide +kernel
theorem dX7_most_20 : decode cX7_most 20 = .ok (.ireturn, 1) := by decide +kernel
theorem dX7_most_21 : decode cX7_most 21 = .ok (.aload_n 0, 1) := by decide +kernel
theorem dX7_most_22 : decode cX7_most 22 = .ok (.getfield 26, 3) := by decide +kernel
theorem dX7_most_25 : decode cX7_most 25 = .ok (.iload_n 1, 1) := by decide +kernel
theorem dX7_most_26 : decode cX7_most 26 = .ok (.invokevirtual 171, 3) := by decide +kernel
theorem dX7_most_29 : decode cX7_most 29 = .ok (.istore_n 3, 1) := by decide +kernel
theorem dX7_most_30 : decode cX7_most 30 = .ok (.iload_n 2, 1) := by decide +kernel
theorem dX7_most_31 : decode cX7_most 31 = .ok (.ifCond .ne 7, 3) := by decide +kernel
theorem dX7_most_34 : decode cX7_most 34 = .ok (.iload_n 3, 1) := by decide +kernel
theorem dX7_most_35 : decode cX7_most 35 = .ok (.goto 14, 3) := by decide +kernel
theorem dX7_most_38 : decode cX7_most 38 = .ok (.aload_n 0, 1) := by decide +kernel
theorem dX7_most_39 : decode cX7_most 39 = .ok (.getfield 26, 3) := by decide +kernel
theorem dX7_most_42 : decode cX7_most 42 = .ok (.getfield 87, 3) := by decide +kernel
theorem dX7_most_45 : decode cX7_most 45 = .ok (.iload_n 3, 1) := by decide +kernel
theorem dX7_most_46 : decode cX7_most 46 = .ok (.invokevirtual 151, 3) := by decide +kernel
theorem dX7_most_49 : decode cX7_most 49 = .ok (.ireturn, 1) := by decide +kernel
theorem dX7_odds_0 : decode cX7_odds 0 = .ok (.aload_n 0, 1) := by decide +kernel
theorem dX7_odds_1 : decode cX7_odds 1 = .ok (.iload_n 1, 1) := by decide +kernel
theorem dX7_odds_2 : decode cX7_odds 2 = .ok (.invokevirtual 95, 3) := by decide +kernel
theorem dX7_odds_5 : decode cX7_odds 5 = .ok (.ifCond .eq 25, 3) := by decide +kernel
theorem dX7_odds_8 : decode cX7_odds 8 = .ok (.iload_n 2, 1) := by decide +kernel
theorem dX7_odds_9 : decode cX7_odds 9 = .ok (.invokestatic 84, 3) := by decide +kernel
theorem dX7_odds_12 : decode cX7_odds 12 = .ok (.ifCond .eq 18, 3) := by decide +kernel
theorem dX7_odds_15 : decode cX7_odds 15 = .ok (.iload_n 3, 1) := by decide +kernel
theorem dX7_odds_16 : decode cX7_odds 16 = .ok (.invokestatic 174, 3) := by decide +kernel
theorem dX7_odds_19 : decode cX7_odds 19 = .ok (.ifCond .eq 11, 3) := by decide +kernel
theorem dX7_odds_22 : decode cX7_odds 22 = .ok (.iload 4, 2) := by decide +kernel
theorem dX7_odds_24 : decode cX7_odds 24 = .ok (.invokestatic 174, 3) := by decide +kernel
theorem dX7_odds_27 : decode cX7_odds 27 = .ok (.ifCond .ne 5, 3) := by decide +kernel
theorem dX7_odds_30 : decode cX7_odds 30 = .ok (.iconst (-1), 1) := by decide +kernel
theorem dX7_odds_31 : decode cX7_odds 31 = .ok (.ireturn, 1) := by decide +kernel
theorem dX7_odds_32 : decode cX7_odds 32 = .ok (.iload 4, 2) := by decide +kernel
theorem dX7_odds_34 : decode cX7_odds 34 = .ok (.iload_n 3, 1) := by decide +kernel
theorem dX7_odds_35 : decode cX7_odds 35 = .ok (.if_icmp .lt 12, 3) := by decide +kernel
theorem dX7_odds_38 : decode cX7_odds 38 = .ok (.iload 4, 2) := by decide +kernel
theorem dX7_odds_40 : decode cX7_odds 40 = .ok (.iload_n 3, 1) := by decide +kernel
theorem dX7_odds_41 : decode cX7_odds 41 = .ok (.isub, 1) := by decide +kernel
theorem dX7_odds_42 : decode cX7_odds 42 = .ok (.bipush 8, 2) := by decide +kernel
theorem dX7_odds_44 : decode cX7_odds 44 = .ok (.if_icmp .lt 5, 3) := by decide +kernel
theorem dX7_odds_47 : decode cX7_odds 47 = .ok (.iconst (-1), 1) := by decide +kernel
theorem dX7_odds_48 : decode cX7_odds 48 = .ok (.ireturn, 1) := by decide +kernel
theorem dX7_odds_49 : decode cX7_odds 49 = .ok (.iload 5, 2) := by decide +kernel
theorem dX7_odds_51 : decode cX7_odds 51 = .ok (.iconst 0, 1) := by decide +kernel
theorem dX7_odds_52 : decode cX7_odds 52 = .ok (.bipush 10, 2) := by decide +kernel
theorem dX7_odds_54 : decode cX7_odds 54 = .ok (.invokestatic 51, 3) := by decide +kernel
theorem dX7_odds_57 : decode cX7_odds 57 = .ok (.ifCond .eq 13, 3) := by decide +kernel
theorem dX7_odds_60 : decode cX7_odds 60 = .ok (.iload 6, 2) := by decide +kernel
theorem dX7_odds_62 : decode cX7_odds 62 = .ok (.iconst 0, 1) := by decide +kernel
theorem dX7_odds_63 : decode cX7_odds 63 = .ok (.iconst 1, 1) := by decide +kernel
theorem dX7_odds_64 : decode cX7_odds 64 = .ok (.invokestatic 51, 3) := by decide +kernel
theorem dX7_odds_67 : decode cX7_odds 67 = .ok (.ifCond .ne 5, 3) := by decide +kernel
theorem dX7_odds_70 : decode cX7_odds 70 = .ok (.iconst (-1), 1) := by decide +kernel
theorem dX7_odds_71 : decode cX7_odds 71 = .ok (.ireturn, 1) := by decide +kernel
theorem dX7_odds_72 : decode cX7_odds 72 = .ok (.aload_n 0, 1) := by decide +kernel
theorem dX7_odds_73 : decode cX7_odds 73 = .ok (.getfield 26, 3) := by decide +kernel
theorem dX7_odds_76 : decode cX7_odds 76 = .ok (.iload_n 1, 1) := by decide +kernel
theorem dX7_odds_77 : decode cX7_odds 77 = .ok (.iload_n 2, 1) := by decide +kernel
theorem dX7_odds_78 : decode cX7_odds 78 = .ok (.iload_n 3, 1) := by decide +kernel
theorem dX7_odds_79 : decode cX7_odds 79 = .ok (.iload 4, 2) := by decide +kernel
theorem dX7_odds_81 : decode cX7_odds 81 = .ok (.invokevirtual 183, 3) := by decide +kernel
theorem dX7_odds_84 : decode cX7_odds 84 = .ok (.istore 7, 2) := by decide +kernel
theorem dX7_odds_86 : decode cX7_odds 86 = .ok (.iload 5, 2) := by decide +kernel
theorem dX7_odds_88 : decode cX7_odds 88 = .ok (.invokestatic 187, 3) := by decide +kernel
theorem dX7_odds_91 : decode cX7_odds 91 = .ok (.istore 8, 2) := by decide +kernel
theorem dX7_odds_93 : decode cX7_odds 93 = .ok (.bipush 10, 2) := by decide +kernel
theorem dX7_odds_95 : decode cX7_odds 95 = .ok (.iload 8, 2) := by decide +kernel
theorem dX7_odds_97 : decode cX7_odds 97 = .ok (.idiv, 1) := by decide +kernel
theorem dX7_odds_98 : decode cX7_odds 98 = .ok (.iload 7, 2) := by decide +kernel
theorem dX7_odds_100 : decode cX7_odds 100 = .ok (.invokestatic 190, 3) := by decide +kernel
theorem dX7_odds_103 : decode cX7_odds 103 = .ok (.istore 9, 2) := by decide +kernel
theorem dX7_odds_105 : decode cX7_odds 105 = .ok (.iload 6, 2) := by decide +kernel
theorem dX7_odds_107 : decode cX7_odds 107 = .ok (.ifCond .ne 19, 3) := by decide +kernel
theorem dX7_odds_110 : decode cX7_odds 110 = .ok (.iload 9, 2) := by decide +kernel
theorem dX7_odds_112 : decode cX7_odds 112 = .ok (.iload 5, 2) := by decide +kernel
theorem dX7_odds_114 : decode cX7_odds 114 = .ok (.iload 8, 2) := by decide +kernel
theorem dX7_odds_116 : decode cX7_odds 116 = .ok (.idiv, 1) := by decide +kernel
theorem dX7_odds_117 : decode cX7_odds 117 = .ok (.iload 7, 2) := by decide +kernel
theorem dX7_odds_119 : decode cX7_odds 119 = .ok (.invokestatic 190, 3) := by decide +kernel
theorem dX7_odds_122 : decode cX7_odds 122 = .ok (.isub, 1) := by decide +kernel
theorem dX7_odds_123 : decode cX7_odds 123 = .ok (.goto 5, 3) := by decide +kernel
theorem dX7_odds_126 : decode cX7_odds 126 = .ok (.iload 9, 2) := by decide +kernel
theorem dX7_odds_128 : decode cX7_odds 128 = .ok (.ireturn, 1) := by decide +kernel
theorem dX7_faced_0 : decode cX7_faced 0 = .ok (.iload_n 1, 1) := by decide +kernel
theorem dX7_faced_1 : decode cX7_faced 1 = .ok (.invokestatic 174, 3) := by decide +kernel
theorem dX7_faced_4 : decode cX7_faced 4 = .ok (.ifCond .eq 12, 3) := by decide +kernel
theorem dX7_faced_7 : decode cX7_faced 7 = .ok (.iload_n 2, 1) := by decide +kernel
theorem dX7_faced_8 : decode cX7_faced 8 = .ok (.iconst 0, 1) := by decide +kernel
theorem dX7_faced_9 : decode cX7_faced 9 = .ok (.iconst 1, 1) := by decide +kernel
theorem dX7_faced_10 : decode cX7_faced 10 = .ok (.invokestatic 51, 3) := by decide +kernel
theorem dX7_faced_13 : decode cX7_faced 13 = .ok (.ifCond .ne 5, 3) := by decide +kernel
theorem dX7_faced_16 : decode cX7_faced 16 = .ok (.iconst (-1), 1) := by decide +kernel
theorem dX7_faced_17 : decode cX7_faced 17 = .ok (.ireturn, 1) := by decide +kernel
theorem dX7_faced_18 : decode cX7_faced 18 = .ok (.aload_n 0, 1) := by decide +kernel
theorem dX7_faced_19 : decode cX7_faced 19 = .ok (.getfield 33, 3) := by decide +kernel
theorem dX7_faced_22 : decode cX7_faced 22 = .ok (.iload_n 1, 1) := by decide +kernel
theorem dX7_faced_23 : decode cX7_faced 23 = .ok (.iload_n 2, 1) := by decide +kernel
theorem dX7_faced_24 : decode cX7_faced 24 = .ok (.invokevirtual 193, 3) := by decide +kernel
theorem dX7_faced_27 : decode cX7_faced 27 = .ok (.ifCond .eq 13, 3) := by decide +kernel
theorem dX7_faced_30 : decode cX7_faced 30 = .ok (.aload_n 0, 1) := by decide +kernel
theorem dX7_faced_31 : decode cX7_faced 31 = .ok (.getfield 33, 3) := by decide +kernel
theorem dX7_faced_34 : decode cX7_faced 34 = .ok (.getfield 197, 3) := by decide +kernel
theorem dX7_faced_37 : decode cX7_faced 37 = .ok (.goto 5, 3) := by decide +kernel
theorem dX7_faced_40 : decode cX7_faced 40 = .ok (.bipush (-3), 2) := by decide +kernel
theorem dX7_faced_42 : decode cX7_faced 42 = .ok (.ireturn, 1) := by decide +kernel
theorem dX7_laws_0 : decode cX7_laws 0 = .ok (.iload_n 1, 1) := by decide +kernel
theorem dX7_laws_1 : decode cX7_laws 1 = .ok (.lookupswitch 43 #[(0, 27), (1, 35)], 27) := by decide +kernel
theorem dX7_laws_28 : decode cX7_laws 28 = .ok (.aload_n 0, 1) := by decide +kernel
theorem dX7_laws_29 : decode cX7_laws 29 = .ok (.getfield 33, 3) := by decide +kernel
theorem dX7_laws_32 : decode cX7_laws 32 = .ok (.invokevirtual 200, 3) := by decide +kernel
theorem dX7_laws_35 : decode cX7_laws 35 = .ok (.ireturn, 1) := by decide +kernel
theorem dX7_laws_36 : decode cX7_laws 36 = .ok (.aload_n 0, 1) := by decide +kernel
theorem dX7_laws_37 : decode cX7_laws 37 = .ok (.getfield 33, 3) := by decide +kernel
theorem dX7_laws_40 : decode cX7_laws 40 = .ok (.invokevirtual 203, 3) := by decide +kernel
theorem dX7_laws_43 : decode cX7_laws 43 = .ok (.ireturn, 1) := by decide +kernel
theorem dX7_laws_44 : decode cX7_laws 44 = .ok (.iconst (-1), 1) := by decide +kernel
theorem dX7_laws_45 : decode cX7_laws 45 = .ok (.ireturn, 1) := by decide +kernel
theorem dX7_tryNext_0 : decode cX7_tryNext 0 = .ok (.aload_n 0, 1) := by decide +kernel
theorem dX7_tryNext_1 : decode cX7_tryNext 1 = .ok (.getfield 33, 3) := by decide +kernel
theorem dX7_tryNext_4 : decode cX7_tryNext 4 = .ok (.invokevirtual 206, 3) := by decide +kernel
theorem dX7_tryNext_7 : decode cX7_tryNext 7 = .ok (.ireturn, 1) := by decide +kernel
theorem dX7_met_0 : decode cX7_met 0 = .ok (.iload_n 1, 1) := by decide +kernel
theorem dX7_met_1 : decode cX7_met 1 = .ok (.invokestatic 84, 3) := by decide +kernel
theorem dX7_met_4 : decode cX7_met 4 = .ok (.ifCond .eq 10, 3) := by decide +kernel
theorem dX7_met_7 : decode cX7_met 7 = .ok (.iload_n 2, 1) := by decide +kernel
theorem dX7_met_8 : decode cX7_met 8 = .ok (.invokestatic 174, 3) := by decide +kernel
theorem dX7_met_11 : decode cX7_met 11 = .ok (.ifCond .ne 5, 3) := by decide +kernel
theorem dX7_met_14 : decode cX7_met 14 = .ok (.iconst (-1), 1) := by decide +kernel
theorem dX7_met_15 : decode cX7_met 15 = .ok (.ireturn, 1) := by decide +kernel
theorem dX7_met_16 : decode cX7_met 16 = .ok (.aload_n 0, 1) := by decide +kernel
theorem dX7_met_17 : decode cX7_met 17 = .ok (.getfield 33, 3) := by decide +kernel
theorem dX7_met_20 : decode cX7_met 20 = .ok (.iload_n 1, 1) := by decide +kernel
theorem dX7_met_21 : decode cX7_met 21 = .ok (.iload_n 2, 1) := by decide +kernel
theorem dX7_met_22 : decode cX7_met 22 = .ok (.invokevirtual 209, 3) := by decide +kernel
theorem dX7_met_25 : decode cX7_met 25 = .ok (.ifCond .eq 13, 3) := by decide +kernel
theorem dX7_met_28 : decode cX7_met 28 = .ok (.aload_n 0, 1) := by decide +kernel
theorem dX7_met_29 : decode cX7_met 29 = .ok (.getfield 33, 3) := by decide +kernel
theorem dX7_met_32 : decode cX7_met 32 = .ok (.getfield 212, 3) := by decide +kernel
theorem dX7_met_35 : decode cX7_met 35 = .ok (.goto 5, 3) := by decide +kernel
theorem dX7_met_38 : decode cX7_met 38 = .ok (.bipush (-3), 2) := by decide +kernel
theorem dX7_met_40 : decode cX7_met 40 = .ok (.ireturn, 1) := by decide +kernel
theorem dX7_ways_0 : decode cX7_ways 0 = .ok (.iload_n 1, 1) := by decide +kernel
theorem dX7_ways_1 : decode cX7_ways 1 = .ok (.lookupswitch 65 #[(0, 27), (1, 35)], 27) := by decide +kernel
theorem dX7_ways_28 : decode cX7_ways 28 = .ok (.aload_n 0, 1) := by decide +kernel
theorem dX7_ways_29 : decode cX7_ways 29 = .ok (.getfield 33, 3) := by decide +kernel
theorem dX7_ways_32 : decode cX7_ways 32 = .ok (.invokevirtual 215, 3) := by decide +kernel
theorem dX7_ways_35 : decode cX7_ways 35 = .ok (.ireturn, 1) := by decide +kernel
theorem dX7_ways_36 : decode cX7_ways 36 = .ok (.aload_n 0, 1) := by decide +kernel
theorem dX7_ways_37 : decode cX7_ways 37 = .ok (.getfield 33, 3) := by decide +kernel
theorem dX7_ways_40 : decode cX7_ways 40 = .ok (.aload_n 0, 1) := by decide +kernel
theorem dX7_ways_41 : decode cX7_ways 41 = .ok (.getfield 33, 3) := by decide +kernel
theorem dX7_ways_44 : decode cX7_ways 44 = .ok (.invokevirtual 218, 3) := by decide +kernel
theorem dX7_ways_47 : decode cX7_ways 47 = .ok (.invokevirtual 221, 3) := by decide +kernel
theorem dX7_ways_50 : decode cX7_ways 50 = .ok (.ifCond .ne 13, 3) := by decide +kernel
theorem dX7_ways_53 : decode cX7_ways 53 = .ok (.aload_n 0, 1) := by decide +kernel
theorem dX7_ways_54 : decode cX7_ways 54 = .ok (.getfield 33, 3) := by decide +kernel
theorem dX7_ways_57 : decode cX7_ways 57 = .ok (.invokevirtual 218, 3) := by decide +kernel
theorem dX7_ways_60 : decode cX7_ways 60 = .ok (.goto 5, 3) := by decide +kernel
theorem dX7_ways_63 : decode cX7_ways 63 = .ok (.bipush (-9), 2) := by decide +kernel
theorem dX7_ways_65 : decode cX7_ways 65 = .ok (.ireturn, 1) := by decide +kernel
theorem dX7_ways_66 : decode cX7_ways 66 = .ok (.iconst (-1), 1) := by decide +kernel
theorem dX7_ways_67 : decode cX7_ways 67 = .ok (.ireturn, 1) := by decide +kernel
theorem dX7_falses_0 : decode cX7_falses 0 = .ok (.iload_n 1, 1) := by decide +kernel
theorem dX7_falses_1 : decode cX7_falses 1 = .ok (.lookupswitch 50 #[(0, 27), (1, 42)], 27) := by decide +kernel
theorem dX7_falses_28 : decode cX7_falses 28 = .ok (.aload_n 0, 1) := by decide +kernel
theorem dX7_falses_29 : decode cX7_falses 29 = .ok (.getfield 33, 3) := by decide +kernel
theorem dX7_falses_32 : decode cX7_falses 32 = .ok (.aload_n 0, 1) := by decide +kernel
theorem dX7_falses_33 : decode cX7_falses 33 = .ok (.getfield 33, 3) := by decide +kernel
theorem dX7_falses_36 : decode cX7_falses 36 = .ok (.invokevirtual 218, 3) := by decide +kernel
theorem dX7_falses_39 : decode cX7_falses 39 = .ok (.invokevirtual 221, 3) := by decide +kernel
theorem dX7_falses_42 : decode cX7_falses 42 = .ok (.ireturn, 1) := by decide +kernel
theorem dX7_falses_43 : decode cX7_falses 43 = .ok (.aload_n 0, 1) := by decide +kernel
theorem dX7_falses_44 : decode cX7_falses 44 = .ok (.getfield 33, 3) := by decide +kernel
theorem dX7_falses_47 : decode cX7_falses 47 = .ok (.invokevirtual 218, 3) := by decide +kernel
theorem dX7_falses_50 : decode cX7_falses 50 = .ok (.ireturn, 1) := by decide +kernel
theorem dX7_falses_51 : decode cX7_falses 51 = .ok (.iconst (-1), 1) := by decide +kernel
theorem dX7_falses_52 : decode cX7_falses 52 = .ok (.ireturn, 1) := by decide +kernel
theorem dX7_forget_0 : decode cX7_forget 0 = .ok (.aload_n 0, 1) := by decide +kernel
theorem dX7_forget_1 : decode cX7_forget 1 = .ok (.getfield 33, 3) := by decide +kernel
theorem dX7_forget_4 : decode cX7_forget 4 = .ok (.getfield 197, 3) := by decide +kernel
theorem dX7_forget_7 : decode cX7_forget 7 = .ok (.aload_n 0, 1) := by decide +kernel
theorem dX7_forget_8 : decode cX7_forget 8 = .ok (.getfield 33, 3) := by decide +kernel
theorem dX7_forget_11 : decode cX7_forget 11 = .ok (.getfield 212, 3) := by decide +kernel
theorem dX7_forget_14 : decode cX7_forget 14 = .ok (.iadd, 1) := by decide +kernel
theorem dX7_forget_15 : decode cX7_forget 15 = .ok (.istore_n 1, 1) := by decide +kernel
theorem dX7_forget_16 : decode cX7_forget 16 = .ok (.aload_n 0, 1) := by decide +kernel
theorem dX7_forget_17 : decode cX7_forget 17 = .ok (.getfield 33, 3) := by decide +kernel
theorem dX7_forget_20 : decode cX7_forget 20 = .ok (.invokevirtual 78, 3) := by decide +kernel
theorem dX7_forget_23 : decode cX7_forget 23 = .ok (.iload_n 1, 1) := by decide +kernel
theorem dX7_forget_24 : decode cX7_forget 24 = .ok (.ireturn, 1) := by decide +kernel
theorem dX7_mark_0 : decode cX7_mark 0 = .ok (.aload_n 0, 1) := by decide +kernel
theorem dX7_mark_1 : decode cX7_mark 1 = .ok (.iload_n 2, 1) := by decide +kernel
theorem dX7_mark_2 : decode cX7_mark 2 = .ok (.invokevirtual 95, 3) := by decide +kernel
theorem dX7_mark_5 : decode cX7_mark 5 = .ok (.ifCond .eq 19, 3) := by decide +kernel
theorem dX7_mark_8 : decode cX7_mark 8 = .ok (.aload_n 0, 1) := by decide +kernel
theorem dX7_mark_9 : decode cX7_mark 9 = .ok (.getfield 40, 3) := by decide +kernel
theorem dX7_mark_12 : decode cX7_mark 12 = .ok (.iload_n 1, 1) := by decide +kernel
theorem dX7_mark_13 : decode cX7_mark 13 = .ok (.aload_n 0, 1) := by decide +kernel
theorem dX7_mark_14 : decode cX7_mark 14 = .ok (.getfield 26, 3) := by decide +kernel
theorem dX7_mark_17 : decode cX7_mark 17 = .ok (.iload_n 2, 1) := by decide +kernel
theorem dX7_mark_18 : decode cX7_mark 18 = .ok (.invokevirtual 224, 3) := by decide +kernel
theorem dX7_mark_21 : decode cX7_mark 21 = .ok (.goto 5, 3) := by decide +kernel
theorem dX7_mark_24 : decode cX7_mark 24 = .ok (.ldc 127, 2) := by decide +kernel
theorem dX7_mark_26 : decode cX7_mark 26 = .ok (.ireturn, 1) := by decide +kernel
theorem dX7_keep_0 : decode cX7_keep 0 = .ok (.iload_n 1, 1) := by decide +kernel
theorem dX7_keep_1 : decode cX7_keep 1 = .ok (.iconst 0, 1) := by decide +kernel
theorem dX7_keep_2 : decode cX7_keep 2 = .ok (.aload_n 0, 1) := by decide +kernel
theorem dX7_keep_3 : decode cX7_keep 3 = .ok (.getfield 47, 3) := by decide +kernel
theorem dX7_keep_6 : decode cX7_keep 6 = .ok (.arraylength, 1) := by decide +kernel
theorem dX7_keep_7 : decode cX7_keep 7 = .ok (.iconst 1, 1) := by decide +kernel
theorem dX7_keep_8 : decode cX7_keep 8 = .ok (.isub, 1) := by decide +kernel
theorem dX7_keep_9 : decode cX7_keep 9 = .ok (.invokestatic 51, 3) := by decide +kernel
theorem dX7_keep_12 : decode cX7_keep 12 = .ok (.ifCond .ne 5, 3) := by decide +kernel
theorem dX7_keep_15 : decode cX7_keep 15 = .ok (.iconst (-1), 1) := by decide +kernel
theorem dX7_keep_16 : decode cX7_keep 16 = .ok (.ireturn, 1) := by decide +kernel
theorem dX7_keep_17 : decode cX7_keep 17 = .ok (.aload_n 0, 1) := by decide +kernel
theorem dX7_keep_18 : decode cX7_keep 18 = .ok (.getfield 47, 3) := by decide +kernel
theorem dX7_keep_21 : decode cX7_keep 21 = .ok (.iload_n 1, 1) := by decide +kernel
theorem dX7_keep_22 : decode cX7_keep 22 = .ok (.aaload, 1) := by decide +kernel
theorem dX7_keep_23 : decode cX7_keep 23 = .ok (.aload_n 0, 1) := by decide +kernel
theorem dX7_keep_24 : decode cX7_keep 24 = .ok (.getfield 26, 3) := by decide +kernel
theorem dX7_keep_27 : decode cX7_keep 27 = .ok (.getfield 87, 3) := by decide +kernel
theorem dX7_keep_30 : decode cX7_keep 30 = .ok (.invokevirtual 228, 3) := by decide +kernel
theorem dX7_keep_33 : decode cX7_keep 33 = .ok (.aload_n 0, 1) := by decide +kernel
theorem dX7_keep_34 : decode cX7_keep 34 = .ok (.dup, 1) := by decide +kernel
theorem dX7_keep_35 : decode cX7_keep 35 = .ok (.getfield 81, 3) := by decide +kernel
theorem dX7_keep_38 : decode cX7_keep 38 = .ok (.iconst 1, 1) := by decide +kernel
theorem dX7_keep_39 : decode cX7_keep 39 = .ok (.iload_n 1, 1) := by decide +kernel
theorem dX7_keep_40 : decode cX7_keep 40 = .ok (.ishl, 1) := by decide +kernel
theorem dX7_keep_41 : decode cX7_keep 41 = .ok (.ior, 1) := by decide +kernel
theorem dX7_keep_42 : decode cX7_keep 42 = .ok (.putfield 81, 3) := by decide +kernel
theorem dX7_keep_45 : decode cX7_keep 45 = .ok (.aload_n 0, 1) := by decide +kernel
theorem dX7_keep_46 : decode cX7_keep 46 = .ok (.getfield 26, 3) := by decide +kernel
theorem dX7_keep_49 : decode cX7_keep 49 = .ok (.getfield 87, 3) := by decide +kernel
theorem dX7_keep_52 : decode cX7_keep 52 = .ok (.getfield 111, 3) := by decide +kernel
theorem dX7_keep_55 : decode cX7_keep 55 = .ok (.ireturn, 1) := by decide +kernel
theorem dX7_back_0 : decode cX7_back 0 = .ok (.iload_n 1, 1) := by decide +kernel
theorem dX7_back_1 : decode cX7_back 1 = .ok (.iconst 0, 1) := by decide +kernel
theorem dX7_back_2 : decode cX7_back 2 = .ok (.aload_n 0, 1) := by decide +kernel
theorem dX7_back_3 : decode cX7_back 3 = .ok (.getfield 47, 3) := by decide +kernel
theorem dX7_back_6 : decode cX7_back 6 = .ok (.arraylength, 1) := by decide +kernel
theorem dX7_back_7 : decode cX7_back 7 = .ok (.iconst 1, 1) := by decide +kernel
theorem dX7_back_8 : decode cX7_back 8 = .ok (.isub, 1) := by decide +kernel
theorem dX7_back_9 : decode cX7_back 9 = .ok (.invokestatic 51, 3) := by decide +kernel
theorem dX7_back_12 : decode cX7_back 12 = .ok (.ifCond .ne 5, 3) := by decide +kernel
theorem dX7_back_15 : decode cX7_back 15 = .ok (.iconst (-1), 1) := by decide +kernel
theorem dX7_back_16 : decode cX7_back 16 = .ok (.ireturn, 1) := by decide +kernel
theorem dX7_back_17 : decode cX7_back 17 = .ok (.iload_n 1, 1) := by decide +kernel
theorem dX7_back_18 : decode cX7_back 18 = .ok (.aload_n 0, 1) := by decide +kernel
theorem dX7_back_19 : decode cX7_back 19 = .ok (.getfield 81, 3) := by decide +kernel
theorem dX7_back_22 : decode cX7_back 22 = .ok (.invokestatic 232, 3) := by decide +kernel
theorem dX7_back_25 : decode cX7_back 25 = .ok (.ifCond .ne 6, 3) := by decide +kernel
theorem dX7_back_28 : decode cX7_back 28 = .ok (.bipush (-2), 2) := by decide +kernel
theorem dX7_back_30 : decode cX7_back 30 = .ok (.ireturn, 1) := by decide +kernel
theorem dX7_back_31 : decode cX7_back 31 = .ok (.aload_n 0, 1) := by decide +kernel
theorem dX7_back_32 : decode cX7_back 32 = .ok (.getfield 26, 3) := by decide +kernel
theorem dX7_back_35 : decode cX7_back 35 = .ok (.getfield 87, 3) := by decide +kernel
theorem dX7_back_38 : decode cX7_back 38 = .ok (.aload_n 0, 1) := by decide +kernel
theorem dX7_back_39 : decode cX7_back 39 = .ok (.getfield 47, 3) := by decide +kernel
theorem dX7_back_42 : decode cX7_back 42 = .ok (.iload_n 1, 1) := by decide +kernel
theorem dX7_back_43 : decode cX7_back 43 = .ok (.aaload, 1) := by decide +kernel
theorem dX7_back_44 : decode cX7_back 44 = .ok (.invokevirtual 228, 3) := by decide +kernel
theorem dX7_back_47 : decode cX7_back 47 = .ok (.aload_n 0, 1) := by decide +kernel
theorem dX7_back_48 : decode cX7_back 48 = .ok (.getfield 26, 3) := by decide +kernel
theorem dX7_back_51 : decode cX7_back 51 = .ok (.getfield 87, 3) := by decide +kernel
theorem dX7_back_54 : decode cX7_back 54 = .ok (.getfield 111, 3) := by decide +kernel
theorem dX7_back_57 : decode cX7_back 57 = .ok (.ireturn, 1) := by decide +kernel
theorem dX7_count_0 : decode cX7_count 0 = .ok (.iload_n 1, 1) := by decide +kernel
theorem dX7_count_1 : decode cX7_count 1 = .ok (.tableswitch 111 0 6 #[43, 54, 65, 76, 84, 92, 103], 43) := by decide +kernel
theorem dX7_count_44 : decode cX7_count 44 = .ok (.aload_n 0, 1) := by decide +kernel
theorem dX7_count_45 : decode cX7_count 45 = .ok (.getfield 26, 3) := by decide +kernel
theorem dX7_count_48 : decode cX7_count 48 = .ok (.getfield 98, 3) := by decide +kernel
theorem dX7_count_51 : decode cX7_count 51 = .ok (.getfield 235, 3) := by decide +kernel
theorem dX7_count_54 : decode cX7_count 54 = .ok (.ireturn, 1) := by decide +kernel
theorem dX7_count_55 : decode cX7_count 55 = .ok (.aload_n 0, 1) := by decide +kernel
theorem dX7_count_56 : decode cX7_count 56 = .ok (.getfield 26, 3) := by decide +kernel
theorem dX7_count_59 : decode cX7_count 59 = .ok (.getfield 98, 3) := by decide +kernel
theorem dX7_count_62 : decode cX7_count 62 = .ok (.getfield 238, 3) := by decide +kernel
theorem dX7_count_65 : decode cX7_count 65 = .ok (.ireturn, 1) := by decide +kernel
theorem dX7_count_66 : decode cX7_count 66 = .ok (.aload_n 0, 1) := by decide +kernel
theorem dX7_count_67 : decode cX7_count 67 = .ok (.getfield 26, 3) := by decide +kernel
theorem dX7_count_70 : decode cX7_count 70 = .ok (.getfield 98, 3) := by decide +kernel
theorem dX7_count_73 : decode cX7_count 73 = .ok (.getfield 241, 3) := by decide +kernel
theorem dX7_count_76 : decode cX7_count 76 = .ok (.ireturn, 1) := by decide +kernel
theorem dX7_count_77 : decode cX7_count 77 = .ok (.aload_n 0, 1) := by decide +kernel
theorem dX7_count_78 : decode cX7_count 78 = .ok (.getfield 33, 3) := by decide +kernel
theorem dX7_count_81 : decode cX7_count 81 = .ok (.getfield 197, 3) := by decide +kernel
theorem dX7_count_84 : decode cX7_count 84 = .ok (.ireturn, 1) := by decide +kernel
theorem dX7_count_85 : decode cX7_count 85 = .ok (.aload_n 0, 1) := by decide +kernel
theorem dX7_count_86 : decode cX7_count 86 = .ok (.getfield 33, 3) := by decide +kernel
theorem dX7_count_89 : decode cX7_count 89 = .ok (.getfield 212, 3) := by decide +kernel
theorem dX7_count_92 : decode cX7_count 92 = .ok (.ireturn, 1) := by decide +kernel
theorem dX7_count_93 : decode cX7_count 93 = .ok (.aload_n 0, 1) := by decide +kernel
theorem dX7_count_94 : decode cX7_count 94 = .ok (.getfield 26, 3) := by decide +kernel
theorem dX7_count_97 : decode cX7_count 97 = .ok (.getfield 87, 3) := by decide +kernel
theorem dX7_count_100 : decode cX7_count 100 = .ok (.getfield 157, 3) := by decide +kernel
theorem dX7_count_103 : decode cX7_count 103 = .ok (.ireturn, 1) := by decide +kernel
theorem dX7_count_104 : decode cX7_count 104 = .ok (.aload_n 0, 1) := by decide +kernel
theorem dX7_count_105 : decode cX7_count 105 = .ok (.getfield 10, 3) := by decide +kernel
theorem dX7_count_108 : decode cX7_count 108 = .ok (.getfield 59, 3) := by decide +kernel
theorem dX7_count_111 : decode cX7_count 111 = .ok (.ireturn, 1) := by decide +kernel
theorem dX7_count_112 : decode cX7_count 112 = .ok (.iconst (-1), 1) := by decide +kernel
theorem dX7_count_113 : decode cX7_count 113 = .ok (.ireturn, 1) := by decide +kernel
theorem dX7_trace_0 : decode cX7_trace 0 = .ok (.aload_n 0, 1) := by decide +kernel
theorem dX7_trace_1 : decode cX7_trace 1 = .ok (.getfield 40, 3) := by decide +kernel
theorem dX7_trace_4 : decode cX7_trace 4 = .ok (.getfield 244, 3) := by decide +kernel
theorem dX7_trace_7 : decode cX7_trace 7 = .ok (.lreturn, 1) := by decide +kernel
theorem dX7_isCock_0 : decode cX7_isCock 0 = .ok (.iload_n 1, 1) := by decide +kernel
theorem dX7_isCock_1 : decode cX7_isCock 1 = .ok (.iconst 0, 1) := by decide +kernel
theorem dX7_isCock_2 : decode cX7_isCock 2 = .ok (.aload_n 0, 1) := by decide +kernel
theorem dX7_isCock_3 : decode cX7_isCock 3 = .ok (.getfield 26, 3) := by decide +kernel
theorem dX7_isCock_6 : decode cX7_isCock 6 = .ok (.getfield 98, 3) := by decide +kernel
theorem dX7_isCock_9 : decode cX7_isCock 9 = .ok (.getfield 235, 3) := by decide +kernel
theorem dX7_isCock_12 : decode cX7_isCock 12 = .ok (.iconst 1, 1) := by decide +kernel
theorem dX7_isCock_13 : decode cX7_isCock 13 = .ok (.isub, 1) := by decide +kernel
theorem dX7_isCock_14 : decode cX7_isCock 14 = .ok (.invokestatic 51, 3) := by decide +kernel
theorem dX7_isCock_17 : decode cX7_isCock 17 = .ok (.ireturn, 1) := by decide +kernel
theorem dX7_isOne_0 : decode cX7_isOne 0 = .ok (.iload_n 1, 1) := by decide +kernel
theorem dX7_isOne_1 : decode cX7_isOne 1 = .ok (.iconst 0, 1) := by decide +kernel
theorem dX7_isOne_2 : decode cX7_isOne 2 = .ok (.aload_n 0, 1) := by decide +kernel
theorem dX7_isOne_3 : decode cX7_isOne 3 = .ok (.getfield 26, 3) := by decide +kernel
theorem dX7_isOne_6 : decode cX7_isOne 6 = .ok (.getfield 98, 3) := by decide +kernel
theorem dX7_isOne_9 : decode cX7_isOne 9 = .ok (.getfield 238, 3) := by decide +kernel
theorem dX7_isOne_12 : decode cX7_isOne 12 = .ok (.iconst 1, 1) := by decide +kernel
theorem dX7_isOne_13 : decode cX7_isOne 13 = .ok (.isub, 1) := by decide +kernel
theorem dX7_isOne_14 : decode cX7_isOne 14 = .ok (.invokestatic 51, 3) := by decide +kernel
theorem dX7_isOne_17 : decode cX7_isOne 17 = .ok (.ireturn, 1) := by decide +kernel
theorem dX7_isCell_0 : decode cX7_isCell 0 = .ok (.iload_n 0, 1) := by decide +kernel
theorem dX7_isCell_1 : decode cX7_isCell 1 = .ok (.iconst 0, 1) := by decide +kernel
theorem dX7_isCell_2 : decode cX7_isCell 2 = .ok (.bipush 23, 2) := by decide +kernel
theorem dX7_isCell_4 : decode cX7_isCell 4 = .ok (.invokestatic 51, 3) := by decide +kernel
theorem dX7_isCell_7 : decode cX7_isCell 7 = .ok (.ireturn, 1) := by decide +kernel
theorem dX7_isHour_0 : decode cX7_isHour 0 = .ok (.iload_n 0, 1) := by decide +kernel
theorem dX7_isHour_1 : decode cX7_isHour 1 = .ok (.iconst 0, 1) := by decide +kernel
theorem dX7_isHour_2 : decode cX7_isHour 2 = .ok (.bipush 29, 2) := by decide +kernel
theorem dX7_isHour_4 : decode cX7_isHour 4 = .ok (.invokestatic 51, 3) := by decide +kernel
theorem dX7_isHour_7 : decode cX7_isHour 7 = .ok (.ireturn, 1) := by decide +kernel
theorem dX7_isWithin_0 : decode cX7_isWithin 0 = .ok (.iload_n 1, 1) := by decide +kernel
theorem dX7_isWithin_1 : decode cX7_isWithin 1 = .ok (.iload_n 0, 1) := by decide +kernel
theorem dX7_isWithin_2 : decode cX7_isWithin 2 = .ok (.if_icmp .gt 12, 3) := by decide +kernel
theorem dX7_isWithin_5 : decode cX7_isWithin 5 = .ok (.iload_n 0, 1) := by decide +kernel
theorem dX7_isWithin_6 : decode cX7_isWithin 6 = .ok (.iload_n 2, 1) := by decide +kernel
theorem dX7_isWithin_7 : decode cX7_isWithin 7 = .ok (.if_icmp .gt 7, 3) := by decide +kernel
theorem dX7_isWithin_10 : decode cX7_isWithin 10 = .ok (.iconst 1, 1) := by decide +kernel
theorem dX7_isWithin_11 : decode cX7_isWithin 11 = .ok (.goto 4, 3) := by decide +kernel
theorem dX7_isWithin_14 : decode cX7_isWithin 14 = .ok (.iconst 0, 1) := by decide +kernel
theorem dX7_isWithin_15 : decode cX7_isWithin 15 = .ok (.ireturn, 1) := by decide +kernel
theorem dX7_isIn_0 : decode cX7_isIn 0 = .ok (.iload_n 1, 1) := by decide +kernel
theorem dX7_isIn_1 : decode cX7_isIn 1 = .ok (.iload_n 0, 1) := by decide +kernel
theorem dX7_isIn_2 : decode cX7_isIn 2 = .ok (.ishr, 1) := by decide +kernel
theorem dX7_isIn_3 : decode cX7_isIn 3 = .ok (.iconst 1, 1) := by decide +kernel
theorem dX7_isIn_4 : decode cX7_isIn 4 = .ok (.iand, 1) := by decide +kernel
theorem dX7_isIn_5 : decode cX7_isIn 5 = .ok (.iconst 1, 1) := by decide +kernel
theorem dX7_isIn_6 : decode cX7_isIn 6 = .ok (.if_icmp .ne 7, 3) := by decide +kernel
theorem dX7_isIn_9 : decode cX7_isIn 9 = .ok (.iconst 1, 1) := by decide +kernel
theorem dX7_isIn_10 : decode cX7_isIn 10 = .ok (.goto 4, 3) := by decide +kernel
theorem dX7_isIn_13 : decode cX7_isIn 13 = .ok (.iconst 0, 1) := by decide +kernel
theorem dX7_isIn_14 : decode cX7_isIn 14 = .ok (.ireturn, 1) := by decide +kernel
theorem dX7_sideBy_0 : decode cX7_sideBy 0 = .ok (.iload_n 1, 1) := by decide +kernel
theorem dX7_sideBy_1 : decode cX7_sideBy 1 = .ok (.ifCond .gt 5, 3) := by decide +kernel
theorem dX7_sideBy_4 : decode cX7_sideBy 4 = .ok (.iload_n 0, 1) := by decide +kernel
theorem dX7_sideBy_5 : decode cX7_sideBy 5 = .ok (.ireturn, 1) := by decide +kernel
theorem dX7_sideBy_6 : decode cX7_sideBy 6 = .ok (.iload_n 2, 1) := by decide +kernel
theorem dX7_sideBy_7 : decode cX7_sideBy 7 = .ok (.iload_n 1, 1) := by decide +kernel
theorem dX7_sideBy_8 : decode cX7_sideBy 8 = .ok (.idiv, 1) := by decide +kernel
theorem dX7_sideBy_9 : decode cX7_sideBy 9 = .ok (.iconst 2, 1) := by decide +kernel
theorem dX7_sideBy_10 : decode cX7_sideBy 10 = .ok (.irem, 1) := by decide +kernel
theorem dX7_sideBy_11 : decode cX7_sideBy 11 = .ok (.iconst 1, 1) := by decide +kernel
theorem dX7_sideBy_12 : decode cX7_sideBy 12 = .ok (.if_icmp .ne 7, 3) := by decide +kernel
theorem dX7_sideBy_15 : decode cX7_sideBy 15 = .ok (.iconst 1, 1) := by decide +kernel
theorem dX7_sideBy_16 : decode cX7_sideBy 16 = .ok (.goto 4, 3) := by decide +kernel
theorem dX7_sideBy_19 : decode cX7_sideBy 19 = .ok (.iconst 0, 1) := by decide +kernel
theorem dX7_sideBy_20 : decode cX7_sideBy 20 = .ok (.istore_n 3, 1) := by decide +kernel
theorem dX7_sideBy_21 : decode cX7_sideBy 21 = .ok (.iload_n 3, 1) := by decide +kernel
theorem dX7_sideBy_22 : decode cX7_sideBy 22 = .ok (.ifCond .eq 9, 3) := by decide +kernel
theorem dX7_sideBy_25 : decode cX7_sideBy 25 = .ok (.iconst 1, 1) := by decide +kernel
theorem dX7_sideBy_26 : decode cX7_sideBy 26 = .ok (.iload_n 0, 1) := by decide +kernel
theorem dX7_sideBy_27 : decode cX7_sideBy 27 = .ok (.isub, 1) := by decide +kernel
theorem dX7_sideBy_28 : decode cX7_sideBy 28 = .ok (.goto 4, 3) := by decide +kernel
theorem dX7_sideBy_31 : decode cX7_sideBy 31 = .ok (.iload_n 0, 1) := by decide +kernel
theorem dX7_sideBy_32 : decode cX7_sideBy 32 = .ok (.ireturn, 1) := by decide +kernel
theorem dX7_placeBy_0 : decode cX7_placeBy 0 = .ok (.iload_n 0, 1) := by decide +kernel
theorem dX7_placeBy_1 : decode cX7_placeBy 1 = .ok (.iload_n 2, 1) := by decide +kernel
theorem dX7_placeBy_2 : decode cX7_placeBy 2 = .ok (.iload_n 1, 1) := by decide +kernel
theorem dX7_placeBy_3 : decode cX7_placeBy 3 = .ok (.imul, 1) := by decide +kernel
theorem dX7_placeBy_4 : decode cX7_placeBy 4 = .ok (.iadd, 1) := by decide +kernel
theorem dX7_placeBy_5 : decode cX7_placeBy 5 = .ok (.ireturn, 1) := by decide +kernel
theorem dX7_power_0 : decode cX7_power 0 = .ok (.iconst 1, 1) := by decide +kernel
theorem dX7_power_1 : decode cX7_power 1 = .ok (.istore_n 2, 1) := by decide +kernel
theorem dX7_power_2 : decode cX7_power 2 = .ok (.iconst 0, 1) := by decide +kernel
theorem dX7_power_3 : decode cX7_power 3 = .ok (.istore_n 3, 1) := by decide +kernel
theorem dX7_power_4 : decode cX7_power 4 = .ok (.iload_n 3, 1) := by decide +kernel
theorem dX7_power_5 : decode cX7_power 5 = .ok (.iload_n 1, 1) := by decide +kernel
theorem dX7_power_6 : decode cX7_power 6 = .ok (.if_icmp .ge 13, 3) := by decide +kernel
theorem dX7_power_9 : decode cX7_power 9 = .ok (.iload_n 2, 1) := by decide +kernel
theorem dX7_power_10 : decode cX7_power 10 = .ok (.iload_n 0, 1) := by decide +kernel
theorem dX7_power_11 : decode cX7_power 11 = .ok (.imul, 1) := by decide +kernel
theorem dX7_power_12 : decode cX7_power 12 = .ok (.istore_n 2, 1) := by decide +kernel
theorem dX7_power_13 : decode cX7_power 13 = .ok (.iinc 3 1, 3) := by decide +kernel
theorem dX7_power_16 : decode cX7_power 16 = .ok (.goto (-12), 3) := by decide +kernel
theorem dX7_power_19 : decode cX7_power 19 = .ok (.iload_n 2, 1) := by decide +kernel
theorem dX7_power_20 : decode cX7_power 20 = .ok (.ireturn, 1) := by decide +kernel
theorem dX7_sharedWithTen_0 : decode cX7_sharedWithTen 0 = .ok (.bipush 10, 2) := by decide +kernel
theorem dX7_sharedWithTen_2 : decode cX7_sharedWithTen 2 = .ok (.istore_n 1, 1) := by decide +kernel
theorem dX7_sharedWithTen_3 : decode cX7_sharedWithTen 3 = .ok (.iload_n 1, 1) := by decide +kernel
theorem dX7_sharedWithTen_4 : decode cX7_sharedWithTen 4 = .ok (.iconst 1, 1) := by decide +kernel
theorem dX7_sharedWithTen_5 : decode cX7_sharedWithTen 5 = .ok (.if_icmp .le 24, 3) := by decide +kernel
theorem dX7_sharedWithTen_8 : decode cX7_sharedWithTen 8 = .ok (.bipush 10, 2) := by decide +kernel
theorem dX7_sharedWithTen_10 : decode cX7_sharedWithTen 10 = .ok (.iload_n 1, 1) := by decide +kernel
theorem dX7_sharedWithTen_11 : decode cX7_sharedWithTen 11 = .ok (.irem, 1) := by decide +kernel
theorem dX7_sharedWithTen_12 : decode cX7_sharedWithTen 12 = .ok (.ifCond .ne 11, 3) := by decide +kernel
theorem dX7_sharedWithTen_15 : decode cX7_sharedWithTen 15 = .ok (.iload_n 0, 1) := by decide +kernel
theorem dX7_sharedWithTen_16 : decode cX7_sharedWithTen 16 = .ok (.iload_n 1, 1) := by decide +kernel
theorem dX7_sharedWithTen_17 : decode cX7_sharedWithTen 17 = .ok (.irem, 1) := by decide +kernel
theorem dX7_sharedWithTen_18 : decode cX7_sharedWithTen 18 = .ok (.ifCond .ne 5, 3) := by decide +kernel
theorem dX7_sharedWithTen_21 : decode cX7_sharedWithTen 21 = .ok (.iload_n 1, 1) := by decide +kernel
theorem dX7_sharedWithTen_22 : decode cX7_sharedWithTen 22 = .ok (.ireturn, 1) := by decide +kernel
theorem dX7_sharedWithTen_23 : decode cX7_sharedWithTen 23 = .ok (.iinc 1 (-1), 3) := by decide +kernel
theorem dX7_sharedWithTen_26 : decode cX7_sharedWithTen 26 = .ok (.goto (-23), 3) := by decide +kernel
theorem dX7_sharedWithTen_29 : decode cX7_sharedWithTen 29 = .ok (.iconst 1, 1) := by decide +kernel
theorem dX7_sharedWithTen_30 : decode cX7_sharedWithTen 30 = .ok (.ireturn, 1) := by decide +kernel
theorem dX7_copyRows_0 : decode cX7_copyRows 0 = .ok (.iconst 0, 1) := by decide +kernel
theorem dX7_copyRows_1 : decode cX7_copyRows 1 = .ok (.istore_n 2, 1) := by decide +kernel
theorem dX7_copyRows_2 : decode cX7_copyRows 2 = .ok (.iload_n 2, 1) := by decide +kernel
theorem dX7_copyRows_3 : decode cX7_copyRows 3 = .ok (.aload_n 0, 1) := by decide +kernel
theorem dX7_copyRows_4 : decode cX7_copyRows 4 = .ok (.arraylength, 1) := by decide +kernel
theorem dX7_copyRows_5 : decode cX7_copyRows 5 = .ok (.if_icmp .ge 37, 3) := by decide +kernel
theorem dX7_copyRows_8 : decode cX7_copyRows 8 = .ok (.iload_n 2, 1) := by decide +kernel
theorem dX7_copyRows_9 : decode cX7_copyRows 9 = .ok (.aload_n 1, 1) := by decide +kernel
theorem dX7_copyRows_10 : decode cX7_copyRows 10 = .ok (.arraylength, 1) := by decide +kernel
theorem dX7_copyRows_11 : decode cX7_copyRows 11 = .ok (.if_icmp .ge 31, 3) := by decide +kernel
theorem dX7_copyRows_14 : decode cX7_copyRows 14 = .ok (.aload_n 0, 1) := by decide +kernel
theorem dX7_copyRows_15 : decode cX7_copyRows 15 = .ok (.iload_n 2, 1) := by decide +kernel
theorem dX7_copyRows_16 : decode cX7_copyRows 16 = .ok (.aaload, 1) := by decide +kernel
theorem dX7_copyRows_17 : decode cX7_copyRows 17 = .ok (.iconst 0, 1) := by decide +kernel
theorem dX7_copyRows_18 : decode cX7_copyRows 18 = .ok (.aload_n 1, 1) := by decide +kernel
theorem dX7_copyRows_19 : decode cX7_copyRows 19 = .ok (.iload_n 2, 1) := by decide +kernel
theorem dX7_copyRows_20 : decode cX7_copyRows 20 = .ok (.aaload, 1) := by decide +kernel
theorem dX7_copyRows_21 : decode cX7_copyRows 21 = .ok (.iconst 0, 1) := by decide +kernel
theorem dX7_copyRows_22 : decode cX7_copyRows 22 = .ok (.aload_n 0, 1) := by decide +kernel
theorem dX7_copyRows_23 : decode cX7_copyRows 23 = .ok (.iload_n 2, 1) := by decide +kernel
theorem dX7_copyRows_24 : decode cX7_copyRows 24 = .ok (.aaload, 1) := by decide +kernel
theorem dX7_copyRows_25 : decode cX7_copyRows 25 = .ok (.arraylength, 1) := by decide +kernel
theorem dX7_copyRows_26 : decode cX7_copyRows 26 = .ok (.aload_n 1, 1) := by decide +kernel
theorem dX7_copyRows_27 : decode cX7_copyRows 27 = .ok (.iload_n 2, 1) := by decide +kernel
theorem dX7_copyRows_28 : decode cX7_copyRows 28 = .ok (.aaload, 1) := by decide +kernel
theorem dX7_copyRows_29 : decode cX7_copyRows 29 = .ok (.arraylength, 1) := by decide +kernel
theorem dX7_copyRows_30 : decode cX7_copyRows 30 = .ok (.invokestatic 248, 3) := by decide +kernel
theorem dX7_copyRows_33 : decode cX7_copyRows 33 = .ok (.invokestatic 253, 3) := by decide +kernel
theorem dX7_copyRows_36 : decode cX7_copyRows 36 = .ok (.iinc 2 1, 3) := by decide +kernel
theorem dX7_copyRows_39 : decode cX7_copyRows 39 = .ok (.goto (-37), 3) := by decide +kernel
theorem dX7_copyRows_42 : decode cX7_copyRows 42 = .ok (.return_, 1) := by decide +kernel
theorem dX8_init_0 : decode cX8_init 0 = .ok (.aload_n 0, 1) := by decide +kernel
theorem dX8_init_1 : decode cX8_init 1 = .ok (.invokespecial 1, 3) := by decide +kernel
theorem dX8_init_4 : decode cX8_init 4 = .ok (.aload_n 0, 1) := by decide +kernel
theorem dX8_init_5 : decode cX8_init 5 = .ok (.iconst 5, 1) := by decide +kernel
theorem dX8_init_6 : decode cX8_init 6 = .ok (.newarray .int, 2) := by decide +kernel
theorem dX8_init_8 : decode cX8_init 8 = .ok (.putfield 7, 3) := by decide +kernel
theorem dX8_init_11 : decode cX8_init 11 = .ok (.aload_n 0, 1) := by decide +kernel
theorem dX8_init_12 : decode cX8_init 12 = .ok (.iconst 5, 1) := by decide +kernel
theorem dX8_init_13 : decode cX8_init 13 = .ok (.newarray .int, 2) := by decide +kernel
theorem dX8_init_15 : decode cX8_init 15 = .ok (.putfield 13, 3) := by decide +kernel
theorem dX8_init_18 : decode cX8_init 18 = .ok (.aload_n 0, 1) := by decide +kernel
theorem dX8_init_19 : decode cX8_init 19 = .ok (.iconst 5, 1) := by decide +kernel
theorem dX8_init_20 : decode cX8_init 20 = .ok (.newarray .int, 2) := by decide +kernel
theorem dX8_init_22 : decode cX8_init 22 = .ok (.putfield 16, 3) := by decide +kernel
theorem dX8_init_25 : decode cX8_init 25 = .ok (.aload_n 0, 1) := by decide +kernel
theorem dX8_init_26 : decode cX8_init 26 = .ok (.iconst 5, 1) := by decide +kernel
theorem dX8_init_27 : decode cX8_init 27 = .ok (.newarray .int, 2) := by decide +kernel
theorem dX8_init_29 : decode cX8_init 29 = .ok (.putfield 19, 3) := by decide +kernel
theorem dX8_init_32 : decode cX8_init 32 = .ok (.aload_n 0, 1) := by decide +kernel
theorem dX8_init_33 : decode cX8_init 33 = .ok (.iconst 4, 1) := by decide +kernel
theorem dX8_init_34 : decode cX8_init 34 = .ok (.newarray .int, 2) := by decide +kernel
theorem dX8_init_36 : decode cX8_init 36 = .ok (.putfield 22, 3) := by decide +kernel
theorem dX8_init_39 : decode cX8_init 39 = .ok (.aload_n 0, 1) := by decide +kernel
theorem dX8_init_40 : decode cX8_init 40 = .ok (.iconst 4, 1) := by decide +kernel
theorem dX8_init_41 : decode cX8_init 41 = .ok (.newarray .int, 2) := by decide +kernel
theorem dX8_init_43 : decode cX8_init 43 = .ok (.putfield 25, 3) := by decide +kernel
theorem dX8_init_46 : decode cX8_init 46 = .ok (.aload_n 0, 1) := by decide +kernel
theorem dX8_init_47 : decode cX8_init 47 = .ok (.bipush 12, 2) := by decide +kernel
theorem dX8_init_49 : decode cX8_init 49 = .ok (.newarray .int, 2) := by decide +kernel
theorem dX8_init_51 : decode cX8_init 51 = .ok (.putfield 28, 3) := by decide +kernel
theorem dX8_init_54 : decode cX8_init 54 = .ok (.aload_n 0, 1) := by decide +kernel
theorem dX8_init_55 : decode cX8_init 55 = .ok (.sipush 507, 3) := by decide +kernel
theorem dX8_init_58 : decode cX8_init 58 = .ok (.newarray .int, 2) := by decide +kernel
theorem dX8_init_60 : decode cX8_init 60 = .ok (.putfield 31, 3) := by decide +kernel
theorem dX8_init_63 : decode cX8_init 63 = .ok (.aload_n 0, 1) := by decide +kernel
theorem dX8_init_64 : decode cX8_init 64 = .ok (.sipush 1014, 3) := by decide +kernel
theorem dX8_init_67 : decode cX8_init 67 = .ok (.newarray .int, 2) := by decide +kernel
theorem dX8_init_69 : decode cX8_init 69 = .ok (.putfield 34, 3) := by decide +kernel
theorem dX8_init_72 : decode cX8_init 72 = .ok (.aload_n 0, 1) := by decide +kernel
theorem dX8_init_73 : decode cX8_init 73 = .ok (.iconst 2, 1) := by decide +kernel
theorem dX8_init_74 : decode cX8_init 74 = .ok (.newarray .boolean, 2) := by decide +kernel
theorem dX8_init_76 : decode cX8_init 76 = .ok (.putfield 37, 3) := by decide +kernel
theorem dX8_init_79 : decode cX8_init 79 = .ok (.aload_n 0, 1) := by decide +kernel
theorem dX8_init_80 : decode cX8_init 80 = .ok (.bipush 12, 2) := by decide +kernel
theorem dX8_init_82 : decode cX8_init 82 = .ok (.newarray .int, 2) := by decide +kernel
theorem dX8_init_84 : decode cX8_init 84 = .ok (.putfield 41, 3) := by decide +kernel
theorem dX8_init_87 : decode cX8_init 87 = .ok (.aload_n 0, 1) := by decide +kernel
theorem dX8_init_88 : decode cX8_init 88 = .ok (.bipush 12, 2) := by decide +kernel
theorem dX8_init_90 : decode cX8_init 90 = .ok (.newarray .int, 2) := by decide +kernel
theorem dX8_init_92 : decode cX8_init 92 = .ok (.putfield 44, 3) := by decide +kernel
theorem dX8_init_95 : decode cX8_init 95 = .ok (.aload_n 0, 1) := by decide +kernel
theorem dX8_init_96 : decode cX8_init 96 = .ok (.sipush 150, 3) := by decide +kernel
theorem dX8_init_99 : decode cX8_init 99 = .ok (.newarray .int, 2) := by decide +kernel
theorem dX8_init_101 : decode cX8_init 101 = .ok (.putfield 47, 3) := by decide +kernel
theorem dX8_init_104 : decode cX8_init 104 = .ok (.aload_n 0, 1) := by decide +kernel
theorem dX8_init_105 : decode cX8_init 105 = .ok (.bipush 24, 2) := by decide +kernel
theorem dX8_init_107 : decode cX8_init 107 = .ok (.newarray .int, 2) := by decide +kernel
theorem dX8_init_109 : decode cX8_init 109 = .ok (.putfield 50, 3) := by decide +kernel
theorem dX8_init_112 : decode cX8_init 112 = .ok (.aload_n 0, 1) := by decide +kernel
theorem dX8_init_113 : decode cX8_init 113 = .ok (.iconst 5, 1) := by decide +kernel
theorem dX8_init_114 : decode cX8_init 114 = .ok (.newarray .int, 2) := by decide +kernel
theorem dX8_init_116 : decode cX8_init 116 = .ok (.putfield 53, 3) := by decide +kernel
theorem dX8_init_119 : decode cX8_init 119 = .ok (.aload_n 0, 1) := by decide +kernel
theorem dX8_init_120 : decode cX8_init 120 = .ok (.iconst 5, 1) := by decide +kernel
theorem dX8_init_121 : decode cX8_init 121 = .ok (.newarray .int, 2) := by decide +kernel
theorem dX8_init_123 : decode cX8_init 123 = .ok (.putfield 56, 3) := by decide +kernel
theorem dX8_init_126 : decode cX8_init 126 = .ok (.aload_n 0, 1) := by decide +kernel
theorem dX8_init_127 : decode cX8_init 127 = .ok (.iconst 5, 1) := by decide +kernel
theorem dX8_init_128 : decode cX8_init 128 = .ok (.newarray .int, 2) := by decide +kernel
theorem dX8_init_130 : decode cX8_init 130 = .ok (.putfield 59, 3) := by decide +kernel
theorem dX8_init_133 : decode cX8_init 133 = .ok (.aload_n 0, 1) := by decide +kernel
theorem dX8_init_134 : decode cX8_init 134 = .ok (.iconst 5, 1) := by decide +kernel
theorem dX8_init_135 : decode cX8_init 135 = .ok (.newarray .int, 2) := by decide +kernel
theorem dX8_init_137 : decode cX8_init 137 = .ok (.putfield 62, 3) := by decide +kernel
theorem dX8_init_140 : decode cX8_init 140 = .ok (.aload_n 0, 1) := by decide +kernel
theorem dX8_init_141 : decode cX8_init 141 = .ok (.iconst 4, 1) := by decide +kernel
theorem dX8_init_142 : decode cX8_init 142 = .ok (.newarray .int, 2) := by decide +kernel
theorem dX8_init_144 : decode cX8_init 144 = .ok (.putfield 65, 3) := by decide +kernel
theorem dX8_init_147 : decode cX8_init 147 = .ok (.aload_n 0, 1) := by decide +kernel
theorem dX8_init_148 : decode cX8_init 148 = .ok (.iconst 4, 1) := by decide +kernel
theorem dX8_init_149 : decode cX8_init 149 = .ok (.newarray .int, 2) := by decide +kernel
theorem dX8_init_151 : decode cX8_init 151 = .ok (.putfield 68, 3) := by decide +kernel
theorem dX8_init_154 : decode cX8_init 154 = .ok (.aload_n 0, 1) := by decide +kernel
theorem dX8_init_155 : decode cX8_init 155 = .ok (.bipush 12, 2) := by decide +kernel
theorem dX8_init_157 : decode cX8_init 157 = .ok (.newarray .int, 2) := by decide +kernel
theorem dX8_init_159 : decode cX8_init 159 = .ok (.putfield 71, 3) := by decide +kernel
theorem dX8_init_162 : decode cX8_init 162 = .ok (.return_, 1) := by decide +kernel
theorem dX8_in_0 : decode cX8_in 0 = .ok (.iload_n 0, 1) := by decide +kernel
theorem dX8_in_1 : decode cX8_in 1 = .ok (.iload_n 1, 1) := by decide +kernel
theorem dX8_in_2 : decode cX8_in 2 = .ok (.if_icmp .lt 12, 3) := by decide +kernel
theorem dX8_in_5 : decode cX8_in 5 = .ok (.iload_n 0, 1) := by decide +kernel
theorem dX8_in_6 : decode cX8_in 6 = .ok (.iload_n 2, 1) := by decide +kernel
theorem dX8_in_7 : decode cX8_in 7 = .ok (.if_icmp .gt 7, 3) := by decide +kernel
theorem dX8_in_10 : decode cX8_in 10 = .ok (.iconst 1, 1) := by decide +kernel
theorem dX8_in_11 : decode cX8_in 11 = .ok (.goto 4, 3) := by decide +kernel
theorem dX8_in_14 : decode cX8_in 14 = .ok (.iconst 0, 1) := by decide +kernel
theorem dX8_in_15 : decode cX8_in 15 = .ok (.ireturn, 1) := by decide +kernel
theorem dX8_has_0 : decode cX8_has 0 = .ok (.iload_n 0, 1) := by decide +kernel
theorem dX8_has_1 : decode cX8_has 1 = .ok (.iload_n 1, 1) := by decide +kernel
theorem dX8_has_2 : decode cX8_has 2 = .ok (.ishr, 1) := by decide +kernel
theorem dX8_has_3 : decode cX8_has 3 = .ok (.iconst 1, 1) := by decide +kernel
theorem dX8_has_4 : decode cX8_has 4 = .ok (.iand, 1) := by decide +kernel
theorem dX8_has_5 : decode cX8_has 5 = .ok (.iconst 1, 1) := by decide +kernel
theorem dX8_has_6 : decode cX8_has 6 = .ok (.if_icmp .ne 7, 3) := by decide +kernel
theorem dX8_has_9 : decode cX8_has 9 = .ok (.iconst 1, 1) := by decide +kernel
theorem dX8_has_10 : decode cX8_has 10 = .ok (.goto 4, 3) := by decide +kernel
theorem dX8_has_13 : decode cX8_has 13 = .ok (.iconst 0, 1) := by decide +kernel
theorem dX8_has_14 : decode cX8_has 14 = .ok (.ireturn, 1) := by decide +kernel
theorem dX8_bits_0 : decode cX8_bits 0 = .ok (.iconst 0, 1) := by decide +kernel
theorem dX8_bits_1 : decode cX8_bits 1 = .ok (.istore_n 1, 1) := by decide +kernel
theorem dX8_bits_2 : decode cX8_bits 2 = .ok (.iconst 0, 1) := by decide +kernel
theorem dX8_bits_3 : decode cX8_bits 3 = .ok (.istore_n 2, 1) := by decide +kernel
theorem dX8_bits_4 : decode cX8_bits 4 = .ok (.iload_n 2, 1) := by decide +kernel
theorem dX8_bits_5 : decode cX8_bits 5 = .ok (.bipush 30, 2) := by decide +kernel
theorem dX8_bits_7 : decode cX8_bits 7 = .ok (.if_icmp .ge 17, 3) := by decide +kernel
theorem dX8_bits_10 : decode cX8_bits 10 = .ok (.iload_n 1, 1) := by decide +kernel
theorem dX8_bits_11 : decode cX8_bits 11 = .ok (.iload_n 0, 1) := by decide +kernel
theorem dX8_bits_12 : decode cX8_bits 12 = .ok (.iload_n 2, 1) := by decide +kernel
theorem dX8_bits_13 : decode cX8_bits 13 = .ok (.ishr, 1) := by decide +kernel
theorem dX8_bits_14 : decode cX8_bits 14 = .ok (.iconst 1, 1) := by decide +kernel
theorem dX8_bits_15 : decode cX8_bits 15 = .ok (.iand, 1) := by decide +kernel
theorem dX8_bits_16 : decode cX8_bits 16 = .ok (.iadd, 1) := by decide +kernel
theorem dX8_bits_17 : decode cX8_bits 17 = .ok (.istore_n 1, 1) := by decide +kernel
theorem dX8_bits_18 : decode cX8_bits 18 = .ok (.iinc 2 1, 3) := by decide +kernel
theorem dX8_bits_21 : decode cX8_bits 21 = .ok (.goto (-17), 3) := by decide +kernel
theorem dX8_bits_24 : decode cX8_bits 24 = .ok (.iload_n 1, 1) := by decide +kernel
theorem dX8_bits_25 : decode cX8_bits 25 = .ok (.ireturn, 1) := by decide +kernel
theorem dX8_isCock_0 : decode cX8_isCock 0 = .ok (.iload_n 1, 1) := by decide +kernel
theorem dX8_isCock_1 : decode cX8_isCock 1 = .ok (.iconst 0, 1) := by decide +kernel
theorem dX8_isCock_2 : decode cX8_isCock 2 = .ok (.aload_n 0, 1) := by decide +kernel
theorem dX8_isCock_3 : decode cX8_isCock 3 = .ok (.getfield 74, 3) := by decide +kernel
theorem dX8_isCock_6 : decode cX8_isCock 6 = .ok (.iconst 1, 1) := by decide +kernel
theorem dX8_isCock_7 : decode cX8_isCock 7 = .ok (.isub, 1) := by decide +kernel
theorem dX8_isCock_8 : decode cX8_isCock 8 = .ok (.invokestatic 78, 3) := by decide +kernel
theorem dX8_isCock_11 : decode cX8_isCock 11 = .ok (.ireturn, 1) := by decide +kernel
theorem dX8_isOne_0 : decode cX8_isOne 0 = .ok (.iload_n 1, 1) := by decide +kernel
theorem dX8_isOne_1 : decode cX8_isOne 1 = .ok (.iconst 0, 1) := by decide +kernel
theorem dX8_isOne_2 : decode cX8_isOne 2 = .ok (.aload_n 0, 1) := by decide +kernel
theorem dX8_isOne_3 : decode cX8_isOne 3 = .ok (.getfield 82, 3) := by decide +kernel
theorem dX8_isOne_6 : decode cX8_isOne 6 = .ok (.iconst 1, 1) := by decide +kernel
theorem dX8_isOne_7 : decode cX8_isOne 7 = .ok (.isub, 1) := by decide +kernel
theorem dX8_isOne_8 : decode cX8_isOne 8 = .ok (.invokestatic 78, 3) := by decide +kernel
theorem dX8_isOne_11 : decode cX8_isOne 11 = .ok (.ireturn, 1) := by decide +kernel
theorem dX8_isCell_0 : decode cX8_isCell 0 = .ok (.iload_n 0, 1) := by decide +kernel
theorem dX8_isCell_1 : decode cX8_isCell 1 = .ok (.iconst 0, 1) := by decide +kernel
theorem dX8_isCell_2 : decode cX8_isCell 2 = .ok (.bipush 23, 2) := by decide +kernel
theorem dX8_isCell_4 : decode cX8_isCell 4 = .ok (.invokestatic 78, 3) := by decide +kernel
theorem dX8_isCell_7 : decode cX8_isCell 7 = .ok (.ireturn, 1) := by decide +kernel
theorem dX8_isHour_0 : decode cX8_isHour 0 = .ok (.iload_n 0, 1) := by decide +kernel
theorem dX8_isHour_1 : decode cX8_isHour 1 = .ok (.iconst 0, 1) := by decide +kernel
theorem dX8_isHour_2 : decode cX8_isHour 2 = .ok (.bipush 29, 2) := by decide +kernel
theorem dX8_isHour_4 : decode cX8_isHour 4 = .ok (.invokestatic 78, 3) := by decide +kernel
theorem dX8_isHour_7 : decode cX8_isHour 7 = .ok (.ireturn, 1) := by decide +kernel
theorem dX8_type_0 : decode cX8_type 0 = .ok (.iload_n 1, 1) := by decide +kernel
theorem dX8_type_1 : decode cX8_type 1 = .ok (.iconst 0, 1) := by decide +kernel
theorem dX8_type_2 : decode cX8_type 2 = .ok (.sipush 255, 3) := by decide +kernel
theorem dX8_type_5 : decode cX8_type 5 = .ok (.invokestatic 78, 3) := by decide +kernel
theorem dX8_type_8 : decode cX8_type 8 = .ok (.ifCond .ne 5, 3) := by decide +kernel
theorem dX8_type_11 : decode cX8_type 11 = .ok (.iconst (-1), 1) := by decide +kernel
theorem dX8_type_12 : decode cX8_type 12 = .ok (.ireturn, 1) := by decide +kernel
theorem dX8_type_13 : decode cX8_type 13 = .ok (.aload_n 0, 1) := by decide +kernel
theorem dX8_type_14 : decode cX8_type 14 = .ok (.getfield 85, 3) := by decide +kernel
theorem dX8_type_17 : decode cX8_type 17 = .ok (.sipush 150, 3) := by decide +kernel
theorem dX8_type_20 : decode cX8_type 20 = .ok (.if_icmp .ne 6, 3) := by decide +kernel
theorem dX8_type_23 : decode cX8_type 23 = .ok (.bipush (-3), 2) := by decide +kernel
theorem dX8_type_25 : decode cX8_type 25 = .ok (.ireturn, 1) := by decide +kernel
theorem dX8_type_26 : decode cX8_type 26 = .ok (.aload_n 0, 1) := by decide +kernel
theorem dX8_type_27 : decode cX8_type 27 = .ok (.getfield 47, 3) := by decide +kernel
theorem dX8_type_30 : decode cX8_type 30 = .ok (.aload_n 0, 1) := by decide +kernel
theorem dX8_type_31 : decode cX8_type 31 = .ok (.getfield 85, 3) := by decide +kernel
theorem dX8_type_34 : decode cX8_type 34 = .ok (.iload_n 1, 1) := by decide +kernel
theorem dX8_type_35 : decode cX8_type 35 = .ok (.iastore, 1) := by decide +kernel
theorem dX8_type_36 : decode cX8_type 36 = .ok (.aload_n 0, 1) := by decide +kernel
theorem dX8_type_37 : decode cX8_type 37 = .ok (.dup, 1) := by decide +kernel
theorem dX8_type_38 : decode cX8_type 38 = .ok (.getfield 85, 3) := by decide +kernel
theorem dX8_type_41 : decode cX8_type 41 = .ok (.iconst 1, 1) := by decide +kernel
theorem dX8_type_42 : decode cX8_type 42 = .ok (.iadd, 1) := by decide +kernel
theorem dX8_type_43 : decode cX8_type 43 = .ok (.putfield 85, 3) := by decide +kernel
theorem dX8_type_46 : decode cX8_type 46 = .ok (.aload_n 0, 1) := by decide +kernel
theorem dX8_type_47 : decode cX8_type 47 = .ok (.getfield 85, 3) := by decide +kernel
theorem dX8_type_50 : decode cX8_type 50 = .ok (.ireturn, 1) := by decide +kernel
theorem dX8_clear_0 : decode cX8_clear 0 = .ok (.aload_n 0, 1) := by decide +kernel
theorem dX8_clear_1 : decode cX8_clear 1 = .ok (.getfield 85, 3) := by decide +kernel
theorem dX8_clear_4 : decode cX8_clear 4 = .ok (.istore_n 1, 1) := by decide +kernel
theorem dX8_clear_5 : decode cX8_clear 5 = .ok (.aload_n 0, 1) := by decide +kernel
theorem dX8_clear_6 : decode cX8_clear 6 = .ok (.iconst 0, 1) := by decide +kernel
theorem dX8_clear_7 : decode cX8_clear 7 = .ok (.putfield 85, 3) := by decide +kernel
theorem dX8_clear_10 : decode cX8_clear 10 = .ok (.iload_n 1, 1) := by decide +kernel
theorem dX8_clear_11 : decode cX8_clear 11 = .ok (.ireturn, 1) := by decide +kernel
theorem dX8_letterAt_0 : decode cX8_letterAt 0 = .ok (.iload_n 1, 1) := by decide +kernel
theorem dX8_letterAt_1 : decode cX8_letterAt 1 = .ok (.aload_n 0, 1) := by decide +kernel
theorem dX8_letterAt_2 : decode cX8_letterAt 2 = .ok (.getfield 85, 3) := by decide +kernel
theorem dX8_letterAt_5 : decode cX8_letterAt 5 = .ok (.if_icmp .ge 12, 3) := by decide +kernel
theorem dX8_letterAt_8 : decode cX8_letterAt 8 = .ok (.aload_n 0, 1) := by decide +kernel
theorem dX8_letterAt_9 : decode cX8_letterAt 9 = .ok (.getfield 47, 3) := by decide +kernel
theorem dX8_letterAt_12 : decode cX8_letterAt 12 = .ok (.iload_n 1, 1) := by decide +kernel
theorem dX8_letterAt_13 : decode cX8_letterAt 13 = .ok (.iaload, 1) := by decide +kernel
theorem dX8_letterAt_14 : decode cX8_letterAt 14 = .ok (.goto 4, 3) := by decide +kernel
theorem dX8_letterAt_17 : decode cX8_letterAt 17 = .ok (.iconst (-1), 1) := by decide +kernel
theorem dX8_letterAt_18 : decode cX8_letterAt 18 = .ok (.ireturn, 1) := by decide +kernel
theorem dX8_isFigure_0 : decode cX8_isFigure 0 = .ok (.iload_n 0, 1) := by decide +kernel
theorem dX8_isFigure_1 : decode cX8_isFigure 1 = .ok (.bipush 48, 2) := by decide +kernel
theorem dX8_isFigure_3 : decode cX8_isFigure 3 = .ok (.bipush 57, 2) := by decide +kernel
theorem dX8_isFigure_5 : decode cX8_isFigure 5 = .ok (.invokestatic 78, 3) := by decide +kernel
theorem dX8_isFigure_8 : decode cX8_isFigure 8 = .ok (.ireturn, 1) := by decide +kernel
theorem dX8_isLetter_0 : decode cX8_isLetter 0 = .ok (.iload_n 0, 1) := by decide +kernel
theorem dX8_isLetter_1 : decode cX8_isLetter 1 = .ok (.bipush 97, 2) := by decide +kernel
theorem dX8_isLetter_3 : decode cX8_isLetter 3 = .ok (.bipush 122, 2) := by decide +kernel
theorem dX8_isLetter_5 : decode cX8_isLetter 5 = .ok (.invokestatic 78, 3) := by decide +kernel
theorem dX8_isLetter_8 : decode cX8_isLetter 8 = .ok (.ireturn, 1) := by decide +kernel
theorem dX8_next_0 : decode cX8_next 0 = .ok (.aload_n 0, 1) := by decide +kernel
theorem dX8_next_1 : decode cX8_next 1 = .ok (.aload_n 0, 1) := by decide +kernel
theorem dX8_next_2 : decode cX8_next 2 = .ok (.getfield 88, 3) := by decide +kernel
theorem dX8_next_5 : decode cX8_next 5 = .ok (.invokevirtual 91, 3) := by decide +kernel
theorem dX8_next_8 : decode cX8_next 8 = .ok (.bipush 32, 2) := by decide +kernel
theorem dX8_next_10 : decode cX8_next 10 = .ok (.if_icmp .ne 16, 3) := by decide +kernel
theorem dX8_next_13 : decode cX8_next 13 = .ok (.aload_n 0, 1) := by decide +kernel
theorem dX8_next_14 : decode cX8_next 14 = .ok (.dup, 1) := by decide +kernel
theorem dX8_next_15 : decode cX8_next 15 = .ok (.getfield 88, 3) := by decide +kernel
theorem dX8_next_18 : decode cX8_next 18 = .ok (.iconst 1, 1) := by decide +kernel
theorem dX8_next_19 : decode cX8_next 19 = .ok (.iadd, 1) := by decide +kernel
theorem dX8_next_20 : decode cX8_next 20 = .ok (.putfield 88, 3) := by decide +kernel
theorem dX8_next_23 : decode cX8_next 23 = .ok (.goto (-23), 3) := by decide +kernel
theorem dX8_next_26 : decode cX8_next 26 = .ok (.aload_n 0, 1) := by decide +kernel
theorem dX8_next_27 : decode cX8_next 27 = .ok (.aload_n 0, 1) := by decide +kernel
theorem dX8_next_28 : decode cX8_next 28 = .ok (.getfield 88, 3) := by decide +kernel
theorem dX8_next_31 : decode cX8_next 31 = .ok (.putfield 95, 3) := by decide +kernel
theorem dX8_next_34 : decode cX8_next 34 = .ok (.aload_n 0, 1) := by decide +kernel
theorem dX8_next_35 : decode cX8_next 35 = .ok (.aload_n 0, 1) := by decide +kernel
theorem dX8_next_36 : decode cX8_next 36 = .ok (.getfield 88, 3) := by decide +kernel
theorem dX8_next_39 : decode cX8_next 39 = .ok (.invokevirtual 91, 3) := by decide +kernel
theorem dX8_next_42 : decode cX8_next 42 = .ok (.istore_n 1, 1) := by decide +kernel
theorem dX8_next_43 : decode cX8_next 43 = .ok (.aload_n 0, 1) := by decide +kernel
