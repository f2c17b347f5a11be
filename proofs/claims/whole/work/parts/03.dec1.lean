theorem dX0_init_0 : decode cX0_init 0 = .ok (.aload_n 0, 1) := by decide +kernel
theorem dX0_init_1 : decode cX0_init 1 = .ok (.invokespecial 3, 3) := by decide +kernel
theorem dX0_init_4 : decode cX0_init 4 = .ok (.aload_n 0, 1) := by decide +kernel
theorem dX0_init_5 : decode cX0_init 5 = .ok (.bipush 6, 2) := by decide +kernel
theorem dX0_init_7 : decode cX0_init 7 = .ok (.newarray .int, 2) := by decide +kernel
theorem dX0_init_9 : decode cX0_init 9 = .ok (.putfield 11, 3) := by decide +kernel
theorem dX0_init_12 : decode cX0_init 12 = .ok (.aload_n 0, 1) := by decide +kernel
theorem dX0_init_13 : decode cX0_init 13 = .ok (.bipush 6, 2) := by decide +kernel
theorem dX0_init_15 : decode cX0_init 15 = .ok (.newarray .int, 2) := by decide +kernel
theorem dX0_init_17 : decode cX0_init 17 = .ok (.putfield 15, 3) := by decide +kernel
theorem dX0_init_20 : decode cX0_init 20 = .ok (.aload_n 0, 1) := by decide +kernel
theorem dX0_init_21 : decode cX0_init 21 = .ok (.bipush 6, 2) := by decide +kernel
theorem dX0_init_23 : decode cX0_init 23 = .ok (.newarray .int, 2) := by decide +kernel
theorem dX0_init_25 : decode cX0_init 25 = .ok (.putfield 18, 3) := by decide +kernel
theorem dX0_init_28 : decode cX0_init 28 = .ok (.aload_n 0, 1) := by decide +kernel
theorem dX0_init_29 : decode cX0_init 29 = .ok (.bipush 6, 2) := by decide +kernel
theorem dX0_init_31 : decode cX0_init 31 = .ok (.newarray .int, 2) := by decide +kernel
theorem dX0_init_33 : decode cX0_init 33 = .ok (.putfield 21, 3) := by decide +kernel
theorem dX0_init_36 : decode cX0_init 36 = .ok (.return_, 1) := by decide +kernel
theorem dX0_drop_0 : decode cX0_drop 0 = .ok (.aload_n 0, 1) := by decide +kernel
theorem dX0_drop_1 : decode cX0_drop 1 = .ok (.iconst 0, 1) := by decide +kernel
theorem dX0_drop_2 : decode cX0_drop 2 = .ok (.putfield 24, 3) := by decide +kernel
theorem dX0_drop_5 : decode cX0_drop 5 = .ok (.aload_n 0, 1) := by decide +kernel
theorem dX0_drop_6 : decode cX0_drop 6 = .ok (.iconst 0, 1) := by decide +kernel
theorem dX0_drop_7 : decode cX0_drop 7 = .ok (.putfield 28, 3) := by decide +kernel
theorem dX0_drop_10 : decode cX0_drop 10 = .ok (.return_, 1) := by decide +kernel
theorem dX0_addFaced_0 : decode cX0_addFaced 0 = .ok (.aload_n 0, 1) := by decide +kernel
theorem dX0_addFaced_1 : decode cX0_addFaced 1 = .ok (.getfield 24, 3) := by decide +kernel
theorem dX0_addFaced_4 : decode cX0_addFaced 4 = .ok (.bipush 6, 2) := by decide +kernel
theorem dX0_addFaced_6 : decode cX0_addFaced 6 = .ok (.if_icmp .lt 5, 3) := by decide +kernel
theorem dX0_addFaced_9 : decode cX0_addFaced 9 = .ok (.iconst 0, 1) := by decide +kernel
theorem dX0_addFaced_10 : decode cX0_addFaced 10 = .ok (.ireturn, 1) := by decide +kernel
theorem dX0_addFaced_11 : decode cX0_addFaced 11 = .ok (.aload_n 0, 1) := by decide +kernel
theorem dX0_addFaced_12 : decode cX0_addFaced 12 = .ok (.getfield 11, 3) := by decide +kernel
theorem dX0_addFaced_15 : decode cX0_addFaced 15 = .ok (.aload_n 0, 1) := by decide +kernel
theorem dX0_addFaced_16 : decode cX0_addFaced 16 = .ok (.getfield 24, 3) := by decide +kernel
theorem dX0_addFaced_19 : decode cX0_addFaced 19 = .ok (.iload_n 1, 1) := by decide +kernel
theorem dX0_addFaced_20 : decode cX0_addFaced 20 = .ok (.iastore, 1) := by decide +kernel
theorem dX0_addFaced_21 : decode cX0_addFaced 21 = .ok (.aload_n 0, 1) := by decide +kernel
theorem dX0_addFaced_22 : decode cX0_addFaced 22 = .ok (.getfield 15, 3) := by decide +kernel
theorem dX0_addFaced_25 : decode cX0_addFaced 25 = .ok (.aload_n 0, 1) := by decide +kernel
theorem dX0_addFaced_26 : decode cX0_addFaced 26 = .ok (.getfield 24, 3) := by decide +kernel
theorem dX0_addFaced_29 : decode cX0_addFaced 29 = .ok (.iload_n 2, 1) := by decide +kernel
theorem dX0_addFaced_30 : decode cX0_addFaced 30 = .ok (.iastore, 1) := by decide +kernel
theorem dX0_addFaced_31 : decode cX0_addFaced 31 = .ok (.aload_n 0, 1) := by decide +kernel
theorem dX0_addFaced_32 : decode cX0_addFaced 32 = .ok (.dup, 1) := by decide +kernel
theorem dX0_addFaced_33 : decode cX0_addFaced 33 = .ok (.getfield 24, 3) := by decide +kernel
theorem dX0_addFaced_36 : decode cX0_addFaced 36 = .ok (.iconst 1, 1) := by decide +kernel
theorem dX0_addFaced_37 : decode cX0_addFaced 37 = .ok (.iadd, 1) := by decide +kernel
theorem dX0_addFaced_38 : decode cX0_addFaced 38 = .ok (.putfield 24, 3) := by decide +kernel
theorem dX0_addFaced_41 : decode cX0_addFaced 41 = .ok (.iconst 1, 1) := by decide +kernel
theorem dX0_addFaced_42 : decode cX0_addFaced 42 = .ok (.ireturn, 1) := by decide +kernel
theorem dX0_addMet_0 : decode cX0_addMet 0 = .ok (.aload_n 0, 1) := by decide +kernel
theorem dX0_addMet_1 : decode cX0_addMet 1 = .ok (.getfield 28, 3) := by decide +kernel
theorem dX0_addMet_4 : decode cX0_addMet 4 = .ok (.bipush 6, 2) := by decide +kernel
theorem dX0_addMet_6 : decode cX0_addMet 6 = .ok (.if_icmp .lt 5, 3) := by decide +kernel
theorem dX0_addMet_9 : decode cX0_addMet 9 = .ok (.iconst 0, 1) := by decide +kernel
theorem dX0_addMet_10 : decode cX0_addMet 10 = .ok (.ireturn, 1) := by decide +kernel
theorem dX0_addMet_11 : decode cX0_addMet 11 = .ok (.aload_n 0, 1) := by decide +kernel
theorem dX0_addMet_12 : decode cX0_addMet 12 = .ok (.getfield 18, 3) := by decide +kernel
theorem dX0_addMet_15 : decode cX0_addMet 15 = .ok (.aload_n 0, 1) := by decide +kernel
theorem dX0_addMet_16 : decode cX0_addMet 16 = .ok (.getfield 28, 3) := by decide +kernel
theorem dX0_addMet_19 : decode cX0_addMet 19 = .ok (.iload_n 1, 1) := by decide +kernel
theorem dX0_addMet_20 : decode cX0_addMet 20 = .ok (.iastore, 1) := by decide +kernel
theorem dX0_addMet_21 : decode cX0_addMet 21 = .ok (.aload_n 0, 1) := by decide +kernel
theorem dX0_addMet_22 : decode cX0_addMet 22 = .ok (.getfield 21, 3) := by decide +kernel
theorem dX0_addMet_25 : decode cX0_addMet 25 = .ok (.aload_n 0, 1) := by decide +kernel
theorem dX0_addMet_26 : decode cX0_addMet 26 = .ok (.getfield 28, 3) := by decide +kernel
theorem dX0_addMet_29 : decode cX0_addMet 29 = .ok (.iload_n 2, 1) := by decide +kernel
theorem dX0_addMet_30 : decode cX0_addMet 30 = .ok (.iastore, 1) := by decide +kernel
theorem dX0_addMet_31 : decode cX0_addMet 31 = .ok (.aload_n 0, 1) := by decide +kernel
theorem dX0_addMet_32 : decode cX0_addMet 32 = .ok (.dup, 1) := by decide +kernel
theorem dX0_addMet_33 : decode cX0_addMet 33 = .ok (.getfield 28, 3) := by decide +kernel
theorem dX0_addMet_36 : decode cX0_addMet 36 = .ok (.iconst 1, 1) := by decide +kernel
theorem dX0_addMet_37 : decode cX0_addMet 37 = .ok (.iadd, 1) := by decide +kernel
theorem dX0_addMet_38 : decode cX0_addMet 38 = .ok (.putfield 28, 3) := by decide +kernel
theorem dX0_addMet_41 : decode cX0_addMet 41 = .ok (.iconst 1, 1) := by decide +kernel
theorem dX0_addMet_42 : decode cX0_addMet 42 = .ok (.ireturn, 1) := by decide +kernel
theorem dX0_isLaw_0 : decode cX0_isLaw 0 = .ok (.iconst 0, 1) := by decide +kernel
theorem dX0_isLaw_1 : decode cX0_isLaw 1 = .ok (.istore_n 3, 1) := by decide +kernel
theorem dX0_isLaw_2 : decode cX0_isLaw 2 = .ok (.iload_n 3, 1) := by decide +kernel
theorem dX0_isLaw_3 : decode cX0_isLaw 3 = .ok (.aload_n 0, 1) := by decide +kernel
theorem dX0_isLaw_4 : decode cX0_isLaw 4 = .ok (.getfield 24, 3) := by decide +kernel
theorem dX0_isLaw_7 : decode cX0_isLaw 7 = .ok (.if_icmp .ge 31, 3) := by decide +kernel
theorem dX0_isLaw_10 : decode cX0_isLaw 10 = .ok (.iload_n 1, 1) := by decide +kernel
theorem dX0_isLaw_11 : decode cX0_isLaw 11 = .ok (.iload_n 2, 1) := by decide +kernel
theorem dX0_isLaw_12 : decode cX0_isLaw 12 = .ok (.aload_n 0, 1) := by decide +kernel
theorem dX0_isLaw_13 : decode cX0_isLaw 13 = .ok (.getfield 11, 3) := by decide +kernel
theorem dX0_isLaw_16 : decode cX0_isLaw 16 = .ok (.iload_n 3, 1) := by decide +kernel
theorem dX0_isLaw_17 : decode cX0_isLaw 17 = .ok (.iaload, 1) := by decide +kernel
theorem dX0_isLaw_18 : decode cX0_isLaw 18 = .ok (.invokestatic 31, 3) := by decide +kernel
theorem dX0_isLaw_21 : decode cX0_isLaw 21 = .ok (.aload_n 0, 1) := by decide +kernel
theorem dX0_isLaw_22 : decode cX0_isLaw 22 = .ok (.getfield 15, 3) := by decide +kernel
theorem dX0_isLaw_25 : decode cX0_isLaw 25 = .ok (.iload_n 3, 1) := by decide +kernel
theorem dX0_isLaw_26 : decode cX0_isLaw 26 = .ok (.iaload, 1) := by decide +kernel
theorem dX0_isLaw_27 : decode cX0_isLaw 27 = .ok (.if_icmp .eq 5, 3) := by decide +kernel
theorem dX0_isLaw_30 : decode cX0_isLaw 30 = .ok (.iconst 0, 1) := by decide +kernel
theorem dX0_isLaw_31 : decode cX0_isLaw 31 = .ok (.ireturn, 1) := by decide +kernel
theorem dX0_isLaw_32 : decode cX0_isLaw 32 = .ok (.iinc 3 1, 3) := by decide +kernel
theorem dX0_isLaw_35 : decode cX0_isLaw 35 = .ok (.goto (-33), 3) := by decide +kernel
theorem dX0_isLaw_38 : decode cX0_isLaw 38 = .ok (.iconst 1, 1) := by decide +kernel
theorem dX0_isLaw_39 : decode cX0_isLaw 39 = .ok (.ireturn, 1) := by decide +kernel
theorem dX0_lawCount_0 : decode cX0_lawCount 0 = .ok (.aload_n 0, 1) := by decide +kernel
theorem dX0_lawCount_1 : decode cX0_lawCount 1 = .ok (.iconst 0, 1) := by decide +kernel
theorem dX0_lawCount_2 : decode cX0_lawCount 2 = .ok (.iconst 0, 1) := by decide +kernel
theorem dX0_lawCount_3 : decode cX0_lawCount 3 = .ok (.invokevirtual 35, 3) := by decide +kernel
theorem dX0_lawCount_6 : decode cX0_lawCount 6 = .ok (.aload_n 0, 1) := by decide +kernel
theorem dX0_lawCount_7 : decode cX0_lawCount 7 = .ok (.iconst 1, 1) := by decide +kernel
theorem dX0_lawCount_8 : decode cX0_lawCount 8 = .ok (.iconst 0, 1) := by decide +kernel
theorem dX0_lawCount_9 : decode cX0_lawCount 9 = .ok (.invokevirtual 35, 3) := by decide +kernel
theorem dX0_lawCount_12 : decode cX0_lawCount 12 = .ok (.iadd, 1) := by decide +kernel
theorem dX0_lawCount_13 : decode cX0_lawCount 13 = .ok (.ireturn, 1) := by decide +kernel
theorem dX0_lawsFacing_0 : decode cX0_lawsFacing 0 = .ok (.iconst 0, 1) := by decide +kernel
theorem dX0_lawsFacing_1 : decode cX0_lawsFacing 1 = .ok (.istore_n 3, 1) := by decide +kernel
theorem dX0_lawsFacing_2 : decode cX0_lawsFacing 2 = .ok (.iconst 0, 1) := by decide +kernel
theorem dX0_lawsFacing_3 : decode cX0_lawsFacing 3 = .ok (.istore 4, 2) := by decide +kernel
theorem dX0_lawsFacing_5 : decode cX0_lawsFacing 5 = .ok (.iload 4, 2) := by decide +kernel
theorem dX0_lawsFacing_7 : decode cX0_lawsFacing 7 = .ok (.iconst 1, 1) := by decide +kernel
theorem dX0_lawsFacing_8 : decode cX0_lawsFacing 8 = .ok (.if_icmp .gt 51, 3) := by decide +kernel
theorem dX0_lawsFacing_11 : decode cX0_lawsFacing 11 = .ok (.iconst 0, 1) := by decide +kernel
theorem dX0_lawsFacing_12 : decode cX0_lawsFacing 12 = .ok (.istore 5, 2) := by decide +kernel
theorem dX0_lawsFacing_14 : decode cX0_lawsFacing 14 = .ok (.iload 5, 2) := by decide +kernel
theorem dX0_lawsFacing_16 : decode cX0_lawsFacing 16 = .ok (.bipush 9, 2) := by decide +kernel
theorem dX0_lawsFacing_18 : decode cX0_lawsFacing 18 = .ok (.if_icmp .gt 35, 3) := by decide +kernel
theorem dX0_lawsFacing_21 : decode cX0_lawsFacing 21 = .ok (.aload_n 0, 1) := by decide +kernel
theorem dX0_lawsFacing_22 : decode cX0_lawsFacing 22 = .ok (.iload 4, 2) := by decide +kernel
theorem dX0_lawsFacing_24 : decode cX0_lawsFacing 24 = .ok (.iload 5, 2) := by decide +kernel
theorem dX0_lawsFacing_26 : decode cX0_lawsFacing 26 = .ok (.invokevirtual 39, 3) := by decide +kernel
theorem dX0_lawsFacing_29 : decode cX0_lawsFacing 29 = .ok (.ifCond .eq 18, 3) := by decide +kernel
theorem dX0_lawsFacing_32 : decode cX0_lawsFacing 32 = .ok (.iload 4, 2) := by decide +kernel
theorem dX0_lawsFacing_34 : decode cX0_lawsFacing 34 = .ok (.iload 5, 2) := by decide +kernel
theorem dX0_lawsFacing_36 : decode cX0_lawsFacing 36 = .ok (.iload_n 2, 1) := by decide +kernel
theorem dX0_lawsFacing_37 : decode cX0_lawsFacing 37 = .ok (.invokestatic 31, 3) := by decide +kernel
theorem dX0_lawsFacing_40 : decode cX0_lawsFacing 40 = .ok (.iload_n 1, 1) := by decide +kernel
theorem dX0_lawsFacing_41 : decode cX0_lawsFacing 41 = .ok (.if_icmp .ne 6, 3) := by decide +kernel
theorem dX0_lawsFacing_44 : decode cX0_lawsFacing 44 = .ok (.iinc 3 1, 3) := by decide +kernel
theorem dX0_lawsFacing_47 : decode cX0_lawsFacing 47 = .ok (.iinc 5 1, 3) := by decide +kernel
theorem dX0_lawsFacing_50 : decode cX0_lawsFacing 50 = .ok (.goto (-36), 3) := by decide +kernel
theorem dX0_lawsFacing_53 : decode cX0_lawsFacing 53 = .ok (.iinc 4 1, 3) := by decide +kernel
theorem dX0_lawsFacing_56 : decode cX0_lawsFacing 56 = .ok (.goto (-51), 3) := by decide +kernel
theorem dX0_lawsFacing_59 : decode cX0_lawsFacing 59 = .ok (.iload_n 3, 1) := by decide +kernel
theorem dX0_lawsFacing_60 : decode cX0_lawsFacing 60 = .ok (.ireturn, 1) := by decide +kernel
theorem dX0_firstLaw_0 : decode cX0_firstLaw 0 = .ok (.iconst 0, 1) := by decide +kernel
theorem dX0_firstLaw_1 : decode cX0_firstLaw 1 = .ok (.istore_n 1, 1) := by decide +kernel
theorem dX0_firstLaw_2 : decode cX0_firstLaw 2 = .ok (.iload_n 1, 1) := by decide +kernel
theorem dX0_firstLaw_3 : decode cX0_firstLaw 3 = .ok (.iconst 1, 1) := by decide +kernel
theorem dX0_firstLaw_4 : decode cX0_firstLaw 4 = .ok (.if_icmp .gt 39, 3) := by decide +kernel
theorem dX0_firstLaw_7 : decode cX0_firstLaw 7 = .ok (.iconst 0, 1) := by decide +kernel
theorem dX0_firstLaw_8 : decode cX0_firstLaw 8 = .ok (.istore_n 2, 1) := by decide +kernel
theorem dX0_firstLaw_9 : decode cX0_firstLaw 9 = .ok (.iload_n 2, 1) := by decide +kernel
theorem dX0_firstLaw_10 : decode cX0_firstLaw 10 = .ok (.bipush 9, 2) := by decide +kernel
theorem dX0_firstLaw_12 : decode cX0_firstLaw 12 = .ok (.if_icmp .gt 25, 3) := by decide +kernel
theorem dX0_firstLaw_15 : decode cX0_firstLaw 15 = .ok (.aload_n 0, 1) := by decide +kernel
theorem dX0_firstLaw_16 : decode cX0_firstLaw 16 = .ok (.iload_n 1, 1) := by decide +kernel
theorem dX0_firstLaw_17 : decode cX0_firstLaw 17 = .ok (.iload_n 2, 1) := by decide +kernel
theorem dX0_firstLaw_18 : decode cX0_firstLaw 18 = .ok (.invokevirtual 39, 3) := by decide +kernel
theorem dX0_firstLaw_21 : decode cX0_firstLaw 21 = .ok (.ifCond .eq 10, 3) := by decide +kernel
theorem dX0_firstLaw_24 : decode cX0_firstLaw 24 = .ok (.bipush 10, 2) := by decide +kernel
theorem dX0_firstLaw_26 : decode cX0_firstLaw 26 = .ok (.iload_n 1, 1) := by decide +kernel
theorem dX0_firstLaw_27 : decode cX0_firstLaw 27 = .ok (.imul, 1) := by decide +kernel
theorem dX0_firstLaw_28 : decode cX0_firstLaw 28 = .ok (.iload_n 2, 1) := by decide +kernel
theorem dX0_firstLaw_29 : decode cX0_firstLaw 29 = .ok (.iadd, 1) := by decide +kernel
theorem dX0_firstLaw_30 : decode cX0_firstLaw 30 = .ok (.ireturn, 1) := by decide +kernel
theorem dX0_firstLaw_31 : decode cX0_firstLaw 31 = .ok (.iinc 2 1, 3) := by decide +kernel
theorem dX0_firstLaw_34 : decode cX0_firstLaw 34 = .ok (.goto (-25), 3) := by decide +kernel
theorem dX0_firstLaw_37 : decode cX0_firstLaw 37 = .ok (.iinc 1 1, 3) := by decide +kernel
theorem dX0_firstLaw_40 : decode cX0_firstLaw 40 = .ok (.goto (-38), 3) := by decide +kernel
theorem dX0_firstLaw_43 : decode cX0_firstLaw 43 = .ok (.bipush (-9), 2) := by decide +kernel
theorem dX0_firstLaw_45 : decode cX0_firstLaw 45 = .ok (.ireturn, 1) := by decide +kernel
theorem dX0_bestHourToTry_0 : decode cX0_bestHourToTry 0 = .ok (.bipush (-9), 2) := by decide +kernel
theorem dX0_bestHourToTry_2 : decode cX0_bestHourToTry 2 = .ok (.istore_n 1, 1) := by decide +kernel
theorem dX0_bestHourToTry_3 : decode cX0_bestHourToTry 3 = .ok (.aload_n 0, 1) := by decide +kernel
theorem dX0_bestHourToTry_4 : decode cX0_bestHourToTry 4 = .ok (.invokevirtual 43, 3) := by decide +kernel
theorem dX0_bestHourToTry_7 : decode cX0_bestHourToTry 7 = .ok (.istore_n 2, 1) := by decide +kernel
theorem dX0_bestHourToTry_8 : decode cX0_bestHourToTry 8 = .ok (.iconst 0, 1) := by decide +kernel
theorem dX0_bestHourToTry_9 : decode cX0_bestHourToTry 9 = .ok (.istore_n 3, 1) := by decide +kernel
theorem dX0_bestHourToTry_10 : decode cX0_bestHourToTry 10 = .ok (.iload_n 3, 1) := by decide +kernel
theorem dX0_bestHourToTry_11 : decode cX0_bestHourToTry 11 = .ok (.bipush 29, 2) := by decide +kernel
theorem dX0_bestHourToTry_13 : decode cX0_bestHourToTry 13 = .ok (.if_icmp .gt 37, 3) := by decide +kernel
theorem dX0_bestHourToTry_16 : decode cX0_bestHourToTry 16 = .ok (.aload_n 0, 1) := by decide +kernel
theorem dX0_bestHourToTry_17 : decode cX0_bestHourToTry 17 = .ok (.iconst 0, 1) := by decide +kernel
theorem dX0_bestHourToTry_18 : decode cX0_bestHourToTry 18 = .ok (.iload_n 3, 1) := by decide +kernel
theorem dX0_bestHourToTry_19 : decode cX0_bestHourToTry 19 = .ok (.invokevirtual 35, 3) := by decide +kernel
theorem dX0_bestHourToTry_22 : decode cX0_bestHourToTry 22 = .ok (.aload_n 0, 1) := by decide +kernel
theorem dX0_bestHourToTry_23 : decode cX0_bestHourToTry 23 = .ok (.iconst 1, 1) := by decide +kernel
theorem dX0_bestHourToTry_24 : decode cX0_bestHourToTry 24 = .ok (.iload_n 3, 1) := by decide +kernel
theorem dX0_bestHourToTry_25 : decode cX0_bestHourToTry 25 = .ok (.invokevirtual 35, 3) := by decide +kernel
theorem dX0_bestHourToTry_28 : decode cX0_bestHourToTry 28 = .ok (.invokestatic 47, 3) := by decide +kernel
theorem dX0_bestHourToTry_31 : decode cX0_bestHourToTry 31 = .ok (.istore 4, 2) := by decide +kernel
theorem dX0_bestHourToTry_33 : decode cX0_bestHourToTry 33 = .ok (.iload 4, 2) := by decide +kernel
theorem dX0_bestHourToTry_35 : decode cX0_bestHourToTry 35 = .ok (.iload_n 2, 1) := by decide +kernel
theorem dX0_bestHourToTry_36 : decode cX0_bestHourToTry 36 = .ok (.if_icmp .ge 8, 3) := by decide +kernel
theorem dX0_bestHourToTry_39 : decode cX0_bestHourToTry 39 = .ok (.iload_n 3, 1) := by decide +kernel
theorem dX0_bestHourToTry_40 : decode cX0_bestHourToTry 40 = .ok (.istore_n 1, 1) := by decide +kernel
theorem dX0_bestHourToTry_41 : decode cX0_bestHourToTry 41 = .ok (.iload 4, 2) := by decide +kernel
theorem dX0_bestHourToTry_43 : decode cX0_bestHourToTry 43 = .ok (.istore_n 2, 1) := by decide +kernel
theorem dX0_bestHourToTry_44 : decode cX0_bestHourToTry 44 = .ok (.iinc 3 1, 3) := by decide +kernel
theorem dX0_bestHourToTry_47 : decode cX0_bestHourToTry 47 = .ok (.goto (-37), 3) := by decide +kernel
theorem dX0_bestHourToTry_50 : decode cX0_bestHourToTry 50 = .ok (.iload_n 1, 1) := by decide +kernel
theorem dX0_bestHourToTry_51 : decode cX0_bestHourToTry 51 = .ok (.ireturn, 1) := by decide +kernel
theorem dX0_falsesOf_0 : decode cX0_falsesOf 0 = .ok (.iload_n 1, 1) := by decide +kernel
theorem dX0_falsesOf_1 : decode cX0_falsesOf 1 = .ok (.bipush 10, 2) := by decide +kernel
theorem dX0_falsesOf_3 : decode cX0_falsesOf 3 = .ok (.idiv, 1) := by decide +kernel
theorem dX0_falsesOf_4 : decode cX0_falsesOf 4 = .ok (.istore_n 2, 1) := by decide +kernel
theorem dX0_falsesOf_5 : decode cX0_falsesOf 5 = .ok (.iload_n 1, 1) := by decide +kernel
theorem dX0_falsesOf_6 : decode cX0_falsesOf 6 = .ok (.bipush 10, 2) := by decide +kernel
theorem dX0_falsesOf_8 : decode cX0_falsesOf 8 = .ok (.irem, 1) := by decide +kernel
theorem dX0_falsesOf_9 : decode cX0_falsesOf 9 = .ok (.iconst 3, 1) := by decide +kernel
theorem dX0_falsesOf_10 : decode cX0_falsesOf 10 = .ok (.isub, 1) := by decide +kernel
theorem dX0_falsesOf_11 : decode cX0_falsesOf 11 = .ok (.istore_n 3, 1) := by decide +kernel
theorem dX0_falsesOf_12 : decode cX0_falsesOf 12 = .ok (.iconst 0, 1) := by decide +kernel
theorem dX0_falsesOf_13 : decode cX0_falsesOf 13 = .ok (.istore 4, 2) := by decide +kernel
theorem dX0_falsesOf_15 : decode cX0_falsesOf 15 = .ok (.iconst 0, 1) := by decide +kernel
theorem dX0_falsesOf_16 : decode cX0_falsesOf 16 = .ok (.istore 5, 2) := by decide +kernel
theorem dX0_falsesOf_18 : decode cX0_falsesOf 18 = .ok (.iload 5, 2) := by decide +kernel
theorem dX0_falsesOf_20 : decode cX0_falsesOf 20 = .ok (.aload_n 0, 1) := by decide +kernel
theorem dX0_falsesOf_21 : decode cX0_falsesOf 21 = .ok (.getfield 28, 3) := by decide +kernel
theorem dX0_falsesOf_24 : decode cX0_falsesOf 24 = .ok (.if_icmp .ge 34, 3) := by decide +kernel
theorem dX0_falsesOf_27 : decode cX0_falsesOf 27 = .ok (.iload_n 2, 1) := by decide +kernel
theorem dX0_falsesOf_28 : decode cX0_falsesOf 28 = .ok (.iload_n 3, 1) := by decide +kernel
theorem dX0_falsesOf_29 : decode cX0_falsesOf 29 = .ok (.aload_n 0, 1) := by decide +kernel
theorem dX0_falsesOf_30 : decode cX0_falsesOf 30 = .ok (.getfield 21, 3) := by decide +kernel
theorem dX0_falsesOf_33 : decode cX0_falsesOf 33 = .ok (.iload 5, 2) := by decide +kernel
theorem dX0_falsesOf_35 : decode cX0_falsesOf 35 = .ok (.iaload, 1) := by decide +kernel
theorem dX0_falsesOf_36 : decode cX0_falsesOf 36 = .ok (.invokestatic 52, 3) := by decide +kernel
theorem dX0_falsesOf_39 : decode cX0_falsesOf 39 = .ok (.aload_n 0, 1) := by decide +kernel
theorem dX0_falsesOf_40 : decode cX0_falsesOf 40 = .ok (.getfield 18, 3) := by decide +kernel
theorem dX0_falsesOf_43 : decode cX0_falsesOf 43 = .ok (.iload 5, 2) := by decide +kernel
theorem dX0_falsesOf_45 : decode cX0_falsesOf 45 = .ok (.iaload, 1) := by decide +kernel
theorem dX0_falsesOf_46 : decode cX0_falsesOf 46 = .ok (.if_icmp .eq 6, 3) := by decide +kernel
theorem dX0_falsesOf_49 : decode cX0_falsesOf 49 = .ok (.iinc 4 1, 3) := by decide +kernel
theorem dX0_falsesOf_52 : decode cX0_falsesOf 52 = .ok (.iinc 5 1, 3) := by decide +kernel
theorem dX0_falsesOf_55 : decode cX0_falsesOf 55 = .ok (.goto (-37), 3) := by decide +kernel
theorem dX0_falsesOf_58 : decode cX0_falsesOf 58 = .ok (.iload 4, 2) := by decide +kernel
theorem dX0_falsesOf_60 : decode cX0_falsesOf 60 = .ok (.ireturn, 1) := by decide +kernel
theorem dX0_wayCount_0 : decode cX0_wayCount 0 = .ok (.iconst 0, 1) := by decide +kernel
theorem dX0_wayCount_1 : decode cX0_wayCount 1 = .ok (.istore_n 1, 1) := by decide +kernel
theorem dX0_wayCount_2 : decode cX0_wayCount 2 = .ok (.iconst 0, 1) := by decide +kernel
theorem dX0_wayCount_3 : decode cX0_wayCount 3 = .ok (.istore_n 2, 1) := by decide +kernel
theorem dX0_wayCount_4 : decode cX0_wayCount 4 = .ok (.iload_n 2, 1) := by decide +kernel
theorem dX0_wayCount_5 : decode cX0_wayCount 5 = .ok (.bipush 24, 2) := by decide +kernel
theorem dX0_wayCount_7 : decode cX0_wayCount 7 = .ok (.if_icmp .ge 39, 3) := by decide +kernel
theorem dX0_wayCount_10 : decode cX0_wayCount 10 = .ok (.iconst 0, 1) := by decide +kernel
theorem dX0_wayCount_11 : decode cX0_wayCount 11 = .ok (.istore_n 3, 1) := by decide +kernel
theorem dX0_wayCount_12 : decode cX0_wayCount 12 = .ok (.iload_n 3, 1) := by decide +kernel
theorem dX0_wayCount_13 : decode cX0_wayCount 13 = .ok (.bipush 6, 2) := by decide +kernel
theorem dX0_wayCount_15 : decode cX0_wayCount 15 = .ok (.if_icmp .gt 25, 3) := by decide +kernel
theorem dX0_wayCount_18 : decode cX0_wayCount 18 = .ok (.aload_n 0, 1) := by decide +kernel
theorem dX0_wayCount_19 : decode cX0_wayCount 19 = .ok (.bipush 10, 2) := by decide +kernel
theorem dX0_wayCount_21 : decode cX0_wayCount 21 = .ok (.iload_n 2, 1) := by decide +kernel
theorem dX0_wayCount_22 : decode cX0_wayCount 22 = .ok (.imul, 1) := by decide +kernel
theorem dX0_wayCount_23 : decode cX0_wayCount 23 = .ok (.iload_n 3, 1) := by decide +kernel
theorem dX0_wayCount_24 : decode cX0_wayCount 24 = .ok (.iadd, 1) := by decide +kernel
theorem dX0_wayCount_25 : decode cX0_wayCount 25 = .ok (.invokevirtual 55, 3) := by decide +kernel
theorem dX0_wayCount_28 : decode cX0_wayCount 28 = .ok (.ifCond .ne 6, 3) := by decide +kernel
theorem dX0_wayCount_31 : decode cX0_wayCount 31 = .ok (.iinc 1 1, 3) := by decide +kernel
theorem dX0_wayCount_34 : decode cX0_wayCount 34 = .ok (.iinc 3 1, 3) := by decide +kernel
theorem dX0_wayCount_37 : decode cX0_wayCount 37 = .ok (.goto (-25), 3) := by decide +kernel
theorem dX0_wayCount_40 : decode cX0_wayCount 40 = .ok (.iinc 2 1, 3) := by decide +kernel
theorem dX0_wayCount_43 : decode cX0_wayCount 43 = .ok (.goto (-39), 3) := by decide +kernel
theorem dX0_wayCount_46 : decode cX0_wayCount 46 = .ok (.iload_n 1, 1) := by decide +kernel
theorem dX0_wayCount_47 : decode cX0_wayCount 47 = .ok (.ireturn, 1) := by decide +kernel
theorem dX0_bestWay_0 : decode cX0_bestWay 0 = .ok (.iconst 0, 1) := by decide +kernel
theorem dX0_bestWay_1 : decode cX0_bestWay 1 = .ok (.istore_n 1, 1) := by decide +kernel
theorem dX0_bestWay_2 : decode cX0_bestWay 2 = .ok (.iconst 0, 1) := by decide +kernel
theorem dX0_bestWay_3 : decode cX0_bestWay 3 = .ok (.istore_n 2, 1) := by decide +kernel
theorem dX0_bestWay_4 : decode cX0_bestWay 4 = .ok (.iload_n 2, 1) := by decide +kernel
theorem dX0_bestWay_5 : decode cX0_bestWay 5 = .ok (.bipush 24, 2) := by decide +kernel
theorem dX0_bestWay_7 : decode cX0_bestWay 7 = .ok (.if_icmp .ge 48, 3) := by decide +kernel
theorem dX0_bestWay_10 : decode cX0_bestWay 10 = .ok (.iconst 0, 1) := by decide +kernel
theorem dX0_bestWay_11 : decode cX0_bestWay 11 = .ok (.istore_n 3, 1) := by decide +kernel
theorem dX0_bestWay_12 : decode cX0_bestWay 12 = .ok (.iload_n 3, 1) := by decide +kernel
theorem dX0_bestWay_13 : decode cX0_bestWay 13 = .ok (.bipush 6, 2) := by decide +kernel
theorem dX0_bestWay_15 : decode cX0_bestWay 15 = .ok (.if_icmp .gt 34, 3) := by decide +kernel
theorem dX0_bestWay_18 : decode cX0_bestWay 18 = .ok (.bipush 10, 2) := by decide +kernel
theorem dX0_bestWay_20 : decode cX0_bestWay 20 = .ok (.iload_n 2, 1) := by decide +kernel
theorem dX0_bestWay_21 : decode cX0_bestWay 21 = .ok (.imul, 1) := by decide +kernel
theorem dX0_bestWay_22 : decode cX0_bestWay 22 = .ok (.iload_n 3, 1) := by decide +kernel
theorem dX0_bestWay_23 : decode cX0_bestWay 23 = .ok (.iadd, 1) := by decide +kernel
theorem dX0_bestWay_24 : decode cX0_bestWay 24 = .ok (.istore 4, 2) := by decide +kernel
theorem dX0_bestWay_26 : decode cX0_bestWay 26 = .ok (.aload_n 0, 1) := by decide +kernel
theorem dX0_bestWay_27 : decode cX0_bestWay 27 = .ok (.iload 4, 2) := by decide +kernel
theorem dX0_bestWay_29 : decode cX0_bestWay 29 = .ok (.invokevirtual 55, 3) := by decide +kernel
theorem dX0_bestWay_32 : decode cX0_bestWay 32 = .ok (.aload_n 0, 1) := by decide +kernel
theorem dX0_bestWay_33 : decode cX0_bestWay 33 = .ok (.iload_n 1, 1) := by decide +kernel
theorem dX0_bestWay_34 : decode cX0_bestWay 34 = .ok (.invokevirtual 55, 3) := by decide +kernel
theorem dX0_bestWay_37 : decode cX0_bestWay 37 = .ok (.if_icmp .ge 6, 3) := by decide +kernel
theorem dX0_bestWay_40 : decode cX0_bestWay 40 = .ok (.iload 4, 2) := by decide +kernel
theorem dX0_bestWay_42 : decode cX0_bestWay 42 = .ok (.istore_n 1, 1) := by decide +kernel
theorem dX0_bestWay_43 : decode cX0_bestWay 43 = .ok (.iinc 3 1, 3) := by decide +kernel
theorem dX0_bestWay_46 : decode cX0_bestWay 46 = .ok (.goto (-34), 3) := by decide +kernel
theorem dX0_bestWay_49 : decode cX0_bestWay 49 = .ok (.iinc 2 1, 3) := by decide +kernel
theorem dX0_bestWay_52 : decode cX0_bestWay 52 = .ok (.goto (-48), 3) := by decide +kernel
theorem dX0_bestWay_55 : decode cX0_bestWay 55 = .ok (.iload_n 1, 1) := by decide +kernel
theorem dX0_bestWay_56 : decode cX0_bestWay 56 = .ok (.ireturn, 1) := by decide +kernel
theorem dX1_init_0 : decode cX1_init 0 = .ok (.aload_n 0, 1) := by decide +kernel
theorem dX1_init_1 : decode cX1_init 1 = .ok (.invokespecial 3, 3) := by decide +kernel
theorem dX1_init_4 : decode cX1_init 4 = .ok (.aload_n 0, 1) := by decide +kernel
theorem dX1_init_5 : decode cX1_init 5 = .ok (.bipush 24, 2) := by decide +kernel
theorem dX1_init_7 : decode cX1_init 7 = .ok (.newarray .int, 2) := by decide +kernel
theorem dX1_init_9 : decode cX1_init 9 = .ok (.putfield 9, 3) := by decide +kernel
theorem dX1_init_12 : decode cX1_init 12 = .ok (.aload_n 0, 1) := by decide +kernel
theorem dX1_init_13 : decode cX1_init 13 = .ok (.iconst 5, 1) := by decide +kernel
theorem dX1_init_14 : decode cX1_init 14 = .ok (.iconst 4, 1) := by decide +kernel
theorem dX1_init_15 : decode cX1_init 15 = .ok (.multianewarray 15 2, 4) := by decide +kernel
theorem dX1_init_19 : decode cX1_init 19 = .ok (.putfield 17, 3) := by decide +kernel
theorem dX1_init_22 : decode cX1_init 22 = .ok (.aload_n 0, 1) := by decide +kernel
theorem dX1_init_23 : decode cX1_init 23 = .ok (.iconst 4, 1) := by decide +kernel
theorem dX1_init_24 : decode cX1_init 24 = .ok (.iconst 2, 1) := by decide +kernel
theorem dX1_init_25 : decode cX1_init 25 = .ok (.multianewarray 15 2, 4) := by decide +kernel
theorem dX1_init_29 : decode cX1_init 29 = .ok (.putfield 20, 3) := by decide +kernel
theorem dX1_init_32 : decode cX1_init 32 = .ok (.aload_n 0, 1) := by decide +kernel
theorem dX1_init_33 : decode cX1_init 33 = .ok (.iconst 4, 1) := by decide +kernel
theorem dX1_init_34 : decode cX1_init 34 = .ok (.iconst 3, 1) := by decide +kernel
theorem dX1_init_35 : decode cX1_init 35 = .ok (.multianewarray 15 2, 4) := by decide +kernel
theorem dX1_init_39 : decode cX1_init 39 = .ok (.putfield 23, 3) := by decide +kernel
theorem dX1_init_42 : decode cX1_init 42 = .ok (.return_, 1) := by decide +kernel
theorem dX1_empty_0 : decode cX1_empty 0 = .ok (.aload_n 0, 1) := by decide +kernel
theorem dX1_empty_1 : decode cX1_empty 1 = .ok (.getfield 9, 3) := by decide +kernel
theorem dX1_empty_4 : decode cX1_empty 4 = .ok (.iconst 0, 1) := by decide +kernel
theorem dX1_empty_5 : decode cX1_empty 5 = .ok (.invokestatic 26, 3) := by decide +kernel
theorem dX1_empty_8 : decode cX1_empty 8 = .ok (.aload_n 0, 1) := by decide +kernel
theorem dX1_empty_9 : decode cX1_empty 9 = .ok (.iconst 0, 1) := by decide +kernel
theorem dX1_empty_10 : decode cX1_empty 10 = .ok (.putfield 32, 3) := by decide +kernel
theorem dX1_empty_13 : decode cX1_empty 13 = .ok (.aload_n 0, 1) := by decide +kernel
theorem dX1_empty_14 : decode cX1_empty 14 = .ok (.iconst 0, 1) := by decide +kernel
theorem dX1_empty_15 : decode cX1_empty 15 = .ok (.putfield 36, 3) := by decide +kernel
theorem dX1_empty_18 : decode cX1_empty 18 = .ok (.aload_n 0, 1) := by decide +kernel
theorem dX1_empty_19 : decode cX1_empty 19 = .ok (.iconst 0, 1) := by decide +kernel
theorem dX1_empty_20 : decode cX1_empty 20 = .ok (.putfield 39, 3) := by decide +kernel
theorem dX1_empty_23 : decode cX1_empty 23 = .ok (.return_, 1) := by decide +kernel
theorem dX1_addCock_0 : decode cX1_addCock 0 = .ok (.aload_n 1, 1) := by decide +kernel
theorem dX1_addCock_1 : decode cX1_addCock 1 = .ok (.iconst 0, 1) := by decide +kernel
theorem dX1_addCock_2 : decode cX1_addCock 2 = .ok (.aload_n 0, 1) := by decide +kernel
theorem dX1_addCock_3 : decode cX1_addCock 3 = .ok (.getfield 17, 3) := by decide +kernel
theorem dX1_addCock_6 : decode cX1_addCock 6 = .ok (.aload_n 0, 1) := by decide +kernel
theorem dX1_addCock_7 : decode cX1_addCock 7 = .ok (.getfield 32, 3) := by decide +kernel
theorem dX1_addCock_10 : decode cX1_addCock 10 = .ok (.aaload, 1) := by decide +kernel
theorem dX1_addCock_11 : decode cX1_addCock 11 = .ok (.iconst 0, 1) := by decide +kernel
theorem dX1_addCock_12 : decode cX1_addCock 12 = .ok (.iconst 4, 1) := by decide +kernel
theorem dX1_addCock_13 : decode cX1_addCock 13 = .ok (.invokestatic 42, 3) := by decide +kernel
theorem dX1_addCock_16 : decode cX1_addCock 16 = .ok (.aload_n 0, 1) := by decide +kernel
theorem dX1_addCock_17 : decode cX1_addCock 17 = .ok (.dup, 1) := by decide +kernel
theorem dX1_addCock_18 : decode cX1_addCock 18 = .ok (.getfield 32, 3) := by decide +kernel
theorem dX1_addCock_21 : decode cX1_addCock 21 = .ok (.iconst 1, 1) := by decide +kernel
theorem dX1_addCock_22 : decode cX1_addCock 22 = .ok (.iadd, 1) := by decide +kernel
theorem dX1_addCock_23 : decode cX1_addCock 23 = .ok (.putfield 32, 3) := by decide +kernel
theorem dX1_addCock_26 : decode cX1_addCock 26 = .ok (.return_, 1) := by decide +kernel
theorem dX1_addOne_0 : decode cX1_addOne 0 = .ok (.aload_n 0, 1) := by decide +kernel
theorem dX1_addOne_1 : decode cX1_addOne 1 = .ok (.getfield 20, 3) := by decide +kernel
theorem dX1_addOne_4 : decode cX1_addOne 4 = .ok (.aload_n 0, 1) := by decide +kernel
theorem dX1_addOne_5 : decode cX1_addOne 5 = .ok (.getfield 36, 3) := by decide +kernel
theorem dX1_addOne_8 : decode cX1_addOne 8 = .ok (.aaload, 1) := by decide +kernel
theorem dX1_addOne_9 : decode cX1_addOne 9 = .ok (.iconst 0, 1) := by decide +kernel
theorem dX1_addOne_10 : decode cX1_addOne 10 = .ok (.aload_n 1, 1) := by decide +kernel
theorem dX1_addOne_11 : decode cX1_addOne 11 = .ok (.iconst 0, 1) := by decide +kernel
theorem dX1_addOne_12 : decode cX1_addOne 12 = .ok (.iaload, 1) := by decide +kernel
theorem dX1_addOne_13 : decode cX1_addOne 13 = .ok (.iastore, 1) := by decide +kernel
theorem dX1_addOne_14 : decode cX1_addOne 14 = .ok (.aload_n 0, 1) := by decide +kernel
theorem dX1_addOne_15 : decode cX1_addOne 15 = .ok (.getfield 20, 3) := by decide +kernel
theorem dX1_addOne_18 : decode cX1_addOne 18 = .ok (.aload_n 0, 1) := by decide +kernel
theorem dX1_addOne_19 : decode cX1_addOne 19 = .ok (.getfield 36, 3) := by decide +kernel
theorem dX1_addOne_22 : decode cX1_addOne 22 = .ok (.aaload, 1) := by decide +kernel
theorem dX1_addOne_23 : decode cX1_addOne 23 = .ok (.iconst 1, 1) := by decide +kernel
theorem dX1_addOne_24 : decode cX1_addOne 24 = .ok (.aload_n 1, 1) := by decide +kernel
theorem dX1_addOne_25 : decode cX1_addOne 25 = .ok (.iconst 1, 1) := by decide +kernel
theorem dX1_addOne_26 : decode cX1_addOne 26 = .ok (.iaload, 1) := by decide +kernel
theorem dX1_addOne_27 : decode cX1_addOne 27 = .ok (.iconst 3, 1) := by decide +kernel
theorem dX1_addOne_28 : decode cX1_addOne 28 = .ok (.isub, 1) := by decide +kernel
theorem dX1_addOne_29 : decode cX1_addOne 29 = .ok (.iastore, 1) := by decide +kernel
theorem dX1_addOne_30 : decode cX1_addOne 30 = .ok (.aload_n 0, 1) := by decide +kernel
theorem dX1_addOne_31 : decode cX1_addOne 31 = .ok (.dup, 1) := by decide +kernel
theorem dX1_addOne_32 : decode cX1_addOne 32 = .ok (.getfield 36, 3) := by decide +kernel
theorem dX1_addOne_35 : decode cX1_addOne 35 = .ok (.iconst 1, 1) := by decide +kernel
theorem dX1_addOne_36 : decode cX1_addOne 36 = .ok (.iadd, 1) := by decide +kernel
theorem dX1_addOne_37 : decode cX1_addOne 37 = .ok (.putfield 36, 3) := by decide +kernel
theorem dX1_addOne_40 : decode cX1_addOne 40 = .ok (.return_, 1) := by decide +kernel
theorem dX1_addSmoke_0 : decode cX1_addSmoke 0 = .ok (.aload_n 1, 1) := by decide +kernel
theorem dX1_addSmoke_1 : decode cX1_addSmoke 1 = .ok (.iconst 0, 1) := by decide +kernel
theorem dX1_addSmoke_2 : decode cX1_addSmoke 2 = .ok (.aload_n 0, 1) := by decide +kernel
theorem dX1_addSmoke_3 : decode cX1_addSmoke 3 = .ok (.getfield 23, 3) := by decide +kernel
theorem dX1_addSmoke_6 : decode cX1_addSmoke 6 = .ok (.aload_n 0, 1) := by decide +kernel
theorem dX1_addSmoke_7 : decode cX1_addSmoke 7 = .ok (.getfield 39, 3) := by decide +kernel
theorem dX1_addSmoke_10 : decode cX1_addSmoke 10 = .ok (.aaload, 1) := by decide +kernel
theorem dX1_addSmoke_11 : decode cX1_addSmoke 11 = .ok (.iconst 0, 1) := by decide +kernel
theorem dX1_addSmoke_12 : decode cX1_addSmoke 12 = .ok (.iconst 3, 1) := by decide +kernel
theorem dX1_addSmoke_13 : decode cX1_addSmoke 13 = .ok (.invokestatic 42, 3) := by decide +kernel
theorem dX1_addSmoke_16 : decode cX1_addSmoke 16 = .ok (.aload_n 0, 1) := by decide +kernel
theorem dX1_addSmoke_17 : decode cX1_addSmoke 17 = .ok (.dup, 1) := by decide +kernel
theorem dX1_addSmoke_18 : decode cX1_addSmoke 18 = .ok (.getfield 39, 3) := by decide +kernel
theorem dX1_addSmoke_21 : decode cX1_addSmoke 21 = .ok (.iconst 1, 1) := by decide +kernel
theorem dX1_addSmoke_22 : decode cX1_addSmoke 22 = .ok (.iadd, 1) := by decide +kernel
theorem dX1_addSmoke_23 : decode cX1_addSmoke 23 = .ok (.putfield 39, 3) := by decide +kernel
theorem dX1_addSmoke_26 : decode cX1_addSmoke 26 = .ok (.return_, 1) := by decide +kernel
theorem dX1_becomeAs_0 : decode cX1_becomeAs 0 = .ok (.aload_n 1, 1) := by decide +kernel
theorem dX1_becomeAs_1 : decode cX1_becomeAs 1 = .ok (.getfield 9, 3) := by decide +kernel
theorem dX1_becomeAs_4 : decode cX1_becomeAs 4 = .ok (.iconst 0, 1) := by decide +kernel
theorem dX1_becomeAs_5 : decode cX1_becomeAs 5 = .ok (.aload_n 0, 1) := by decide +kernel
theorem dX1_becomeAs_6 : decode cX1_becomeAs 6 = .ok (.getfield 9, 3) := by decide +kernel
theorem dX1_becomeAs_9 : decode cX1_becomeAs 9 = .ok (.iconst 0, 1) := by decide +kernel
theorem dX1_becomeAs_10 : decode cX1_becomeAs 10 = .ok (.bipush 24, 2) := by decide +kernel
theorem dX1_becomeAs_12 : decode cX1_becomeAs 12 = .ok (.invokestatic 42, 3) := by decide +kernel
theorem dX1_becomeAs_15 : decode cX1_becomeAs 15 = .ok (.aload_n 1, 1) := by decide +kernel
theorem dX1_becomeAs_16 : decode cX1_becomeAs 16 = .ok (.getfield 17, 3) := by decide +kernel
theorem dX1_becomeAs_19 : decode cX1_becomeAs 19 = .ok (.aload_n 0, 1) := by decide +kernel
theorem dX1_becomeAs_20 : decode cX1_becomeAs 20 = .ok (.getfield 17, 3) := by decide +kernel
theorem dX1_becomeAs_23 : decode cX1_becomeAs 23 = .ok (.invokestatic 48, 3) := by decide +kernel
theorem dX1_becomeAs_26 : decode cX1_becomeAs 26 = .ok (.aload_n 1, 1) := by decide +kernel
theorem dX1_becomeAs_27 : decode cX1_becomeAs 27 = .ok (.getfield 20, 3) := by decide +kernel
theorem dX1_becomeAs_30 : decode cX1_becomeAs 30 = .ok (.aload_n 0, 1) := by decide +kernel
theorem dX1_becomeAs_31 : decode cX1_becomeAs 31 = .ok (.getfield 20, 3) := by decide +kernel
theorem dX1_becomeAs_34 : decode cX1_becomeAs 34 = .ok (.invokestatic 48, 3) := by decide +kernel
theorem dX1_becomeAs_37 : decode cX1_becomeAs 37 = .ok (.aload_n 1, 1) := by decide +kernel
theorem dX1_becomeAs_38 : decode cX1_becomeAs 38 = .ok (.getfield 23, 3) := by decide +kernel
theorem dX1_becomeAs_41 : decode cX1_becomeAs 41 = .ok (.aload_n 0, 1) := by decide +kernel
theorem dX1_becomeAs_42 : decode cX1_becomeAs 42 = .ok (.getfield 23, 3) := by decide +kernel
theorem dX1_becomeAs_45 : decode cX1_becomeAs 45 = .ok (.invokestatic 48, 3) := by decide +kernel
theorem dX1_becomeAs_48 : decode cX1_becomeAs 48 = .ok (.aload_n 0, 1) := by decide +kernel
theorem dX1_becomeAs_49 : decode cX1_becomeAs 49 = .ok (.aload_n 1, 1) := by decide +kernel
theorem dX1_becomeAs_50 : decode cX1_becomeAs 50 = .ok (.getfield 32, 3) := by decide +kernel
theorem dX1_becomeAs_53 : decode cX1_becomeAs 53 = .ok (.putfield 32, 3) := by decide +kernel
theorem dX1_becomeAs_56 : decode cX1_becomeAs 56 = .ok (.aload_n 0, 1) := by decide +kernel
theorem dX1_becomeAs_57 : decode cX1_becomeAs 57 = .ok (.aload_n 1, 1) := by decide +kernel
theorem dX1_becomeAs_58 : decode cX1_becomeAs 58 = .ok (.getfield 36, 3) := by decide +kernel
theorem dX1_becomeAs_61 : decode cX1_becomeAs 61 = .ok (.putfield 36, 3) := by decide +kernel
theorem dX1_becomeAs_64 : decode cX1_becomeAs 64 = .ok (.aload_n 0, 1) := by decide +kernel
theorem dX1_becomeAs_65 : decode cX1_becomeAs 65 = .ok (.aload_n 1, 1) := by decide +kernel
theorem dX1_becomeAs_66 : decode cX1_becomeAs 66 = .ok (.getfield 39, 3) := by decide +kernel
theorem dX1_becomeAs_69 : decode cX1_becomeAs 69 = .ok (.putfield 39, 3) := by decide +kernel
theorem dX1_becomeAs_72 : decode cX1_becomeAs 72 = .ok (.return_, 1) := by decide +kernel
theorem dX1_allCocks_0 : decode cX1_allCocks 0 = .ok (.iconst 1, 1) := by decide +kernel
theorem dX1_allCocks_1 : decode cX1_allCocks 1 = .ok (.aload_n 0, 1) := by decide +kernel
theorem dX1_allCocks_2 : decode cX1_allCocks 2 = .ok (.getfield 32, 3) := by decide +kernel
theorem dX1_allCocks_5 : decode cX1_allCocks 5 = .ok (.ishl, 1) := by decide +kernel
theorem dX1_allCocks_6 : decode cX1_allCocks 6 = .ok (.iconst 1, 1) := by decide +kernel
theorem dX1_allCocks_7 : decode cX1_allCocks 7 = .ok (.isub, 1) := by decide +kernel
theorem dX1_allCocks_8 : decode cX1_allCocks 8 = .ok (.ireturn, 1) := by decide +kernel
theorem dX1_sideOf_0 : decode cX1_sideOf 0 = .ok (.aload_n 0, 1) := by decide +kernel
theorem dX1_sideOf_1 : decode cX1_sideOf 1 = .ok (.getfield 17, 3) := by decide +kernel
theorem dX1_sideOf_4 : decode cX1_sideOf 4 = .ok (.iload_n 1, 1) := by decide +kernel
theorem dX1_sideOf_5 : decode cX1_sideOf 5 = .ok (.aaload, 1) := by decide +kernel
theorem dX1_sideOf_6 : decode cX1_sideOf 6 = .ok (.iconst 2, 1) := by decide +kernel
theorem dX1_sideOf_7 : decode cX1_sideOf 7 = .ok (.iaload, 1) := by decide +kernel
theorem dX1_sideOf_8 : decode cX1_sideOf 8 = .ok (.aload_n 0, 1) := by decide +kernel
theorem dX1_sideOf_9 : decode cX1_sideOf 9 = .ok (.getfield 17, 3) := by decide +kernel
theorem dX1_sideOf_12 : decode cX1_sideOf 12 = .ok (.iload_n 1, 1) := by decide +kernel
theorem dX1_sideOf_13 : decode cX1_sideOf 13 = .ok (.aaload, 1) := by decide +kernel
theorem dX1_sideOf_14 : decode cX1_sideOf 14 = .ok (.iconst 3, 1) := by decide +kernel
theorem dX1_sideOf_15 : decode cX1_sideOf 15 = .ok (.iaload, 1) := by decide +kernel
theorem dX1_sideOf_16 : decode cX1_sideOf 16 = .ok (.iload_n 2, 1) := by decide +kernel
theorem dX1_sideOf_17 : decode cX1_sideOf 17 = .ok (.invokestatic 52, 3) := by decide +kernel
theorem dX1_sideOf_20 : decode cX1_sideOf 20 = .ok (.ireturn, 1) := by decide +kernel
theorem dX1_cellOf_0 : decode cX1_cellOf 0 = .ok (.aload_n 0, 1) := by decide +kernel
theorem dX1_cellOf_1 : decode cX1_cellOf 1 = .ok (.getfield 20, 3) := by decide +kernel
theorem dX1_cellOf_4 : decode cX1_cellOf 4 = .ok (.iload_n 1, 1) := by decide +kernel
theorem dX1_cellOf_5 : decode cX1_cellOf 5 = .ok (.aaload, 1) := by decide +kernel
theorem dX1_cellOf_6 : decode cX1_cellOf 6 = .ok (.iconst 0, 1) := by decide +kernel
theorem dX1_cellOf_7 : decode cX1_cellOf 7 = .ok (.iaload, 1) := by decide +kernel
theorem dX1_cellOf_8 : decode cX1_cellOf 8 = .ok (.aload_n 0, 1) := by decide +kernel
theorem dX1_cellOf_9 : decode cX1_cellOf 9 = .ok (.getfield 20, 3) := by decide +kernel
theorem dX1_cellOf_12 : decode cX1_cellOf 12 = .ok (.iload_n 1, 1) := by decide +kernel
theorem dX1_cellOf_13 : decode cX1_cellOf 13 = .ok (.aaload, 1) := by decide +kernel
theorem dX1_cellOf_14 : decode cX1_cellOf 14 = .ok (.iconst 1, 1) := by decide +kernel
theorem dX1_cellOf_15 : decode cX1_cellOf 15 = .ok (.iaload, 1) := by decide +kernel
theorem dX1_cellOf_16 : decode cX1_cellOf 16 = .ok (.iload_n 2, 1) := by decide +kernel
theorem dX1_cellOf_17 : decode cX1_cellOf 17 = .ok (.invokestatic 56, 3) := by decide +kernel
theorem dX1_cellOf_20 : decode cX1_cellOf 20 = .ok (.istore_n 3, 1) := by decide +kernel
theorem dX1_cellOf_21 : decode cX1_cellOf 21 = .ok (.iload_n 3, 1) := by decide +kernel
theorem dX1_cellOf_22 : decode cX1_cellOf 22 = .ok (.invokestatic 59, 3) := by decide +kernel
theorem dX1_cellOf_25 : decode cX1_cellOf 25 = .ok (.ifCond .eq 7, 3) := by decide +kernel
theorem dX1_cellOf_28 : decode cX1_cellOf 28 = .ok (.iload_n 3, 1) := by decide +kernel
theorem dX1_cellOf_29 : decode cX1_cellOf 29 = .ok (.goto 5, 3) := by decide +kernel
theorem dX1_cellOf_32 : decode cX1_cellOf 32 = .ok (.bipush (-9), 2) := by decide +kernel
theorem dX1_cellOf_34 : decode cX1_cellOf 34 = .ok (.ireturn, 1) := by decide +kernel
theorem dX1_isSmoky_0 : decode cX1_isSmoky 0 = .ok (.iconst 0, 1) := by decide +kernel
theorem dX1_isSmoky_1 : decode cX1_isSmoky 1 = .ok (.istore_n 3, 1) := by decide +kernel
theorem dX1_isSmoky_2 : decode cX1_isSmoky 2 = .ok (.iload_n 3, 1) := by decide +kernel
theorem dX1_isSmoky_3 : decode cX1_isSmoky 3 = .ok (.aload_n 0, 1) := by decide +kernel
theorem dX1_isSmoky_4 : decode cX1_isSmoky 4 = .ok (.getfield 39, 3) := by decide +kernel
theorem dX1_isSmoky_7 : decode cX1_isSmoky 7 = .ok (.if_icmp .ge 46, 3) := by decide +kernel
theorem dX1_isSmoky_10 : decode cX1_isSmoky 10 = .ok (.aload_n 0, 1) := by decide +kernel
theorem dX1_isSmoky_11 : decode cX1_isSmoky 11 = .ok (.getfield 23, 3) := by decide +kernel
theorem dX1_isSmoky_14 : decode cX1_isSmoky 14 = .ok (.iload_n 3, 1) := by decide +kernel
theorem dX1_isSmoky_15 : decode cX1_isSmoky 15 = .ok (.aaload, 1) := by decide +kernel
theorem dX1_isSmoky_16 : decode cX1_isSmoky 16 = .ok (.iconst 0, 1) := by decide +kernel
theorem dX1_isSmoky_17 : decode cX1_isSmoky 17 = .ok (.iaload, 1) := by decide +kernel
theorem dX1_isSmoky_18 : decode cX1_isSmoky 18 = .ok (.iload_n 1, 1) := by decide +kernel
theorem dX1_isSmoky_19 : decode cX1_isSmoky 19 = .ok (.if_icmp .ne 28, 3) := by decide +kernel
theorem dX1_isSmoky_22 : decode cX1_isSmoky 22 = .ok (.iload_n 2, 1) := by decide +kernel
theorem dX1_isSmoky_23 : decode cX1_isSmoky 23 = .ok (.aload_n 0, 1) := by decide +kernel
theorem dX1_isSmoky_24 : decode cX1_isSmoky 24 = .ok (.getfield 23, 3) := by decide +kernel
theorem dX1_isSmoky_27 : decode cX1_isSmoky 27 = .ok (.iload_n 3, 1) := by decide +kernel
theorem dX1_isSmoky_28 : decode cX1_isSmoky 28 = .ok (.aaload, 1) := by decide +kernel
theorem dX1_isSmoky_29 : decode cX1_isSmoky 29 = .ok (.iconst 1, 1) := by decide +kernel
theorem dX1_isSmoky_30 : decode cX1_isSmoky 30 = .ok (.iaload, 1) := by decide +kernel
theorem dX1_isSmoky_31 : decode cX1_isSmoky 31 = .ok (.aload_n 0, 1) := by decide +kernel
theorem dX1_isSmoky_32 : decode cX1_isSmoky 32 = .ok (.getfield 23, 3) := by decide +kernel
theorem dX1_isSmoky_35 : decode cX1_isSmoky 35 = .ok (.iload_n 3, 1) := by decide +kernel
theorem dX1_isSmoky_36 : decode cX1_isSmoky 36 = .ok (.aaload, 1) := by decide +kernel
theorem dX1_isSmoky_37 : decode cX1_isSmoky 37 = .ok (.iconst 2, 1) := by decide +kernel
theorem dX1_isSmoky_38 : decode cX1_isSmoky 38 = .ok (.iaload, 1) := by decide +kernel
theorem dX1_isSmoky_39 : decode cX1_isSmoky 39 = .ok (.invokestatic 63, 3) := by decide +kernel
theorem dX1_isSmoky_42 : decode cX1_isSmoky 42 = .ok (.ifCond .eq 5, 3) := by decide +kernel
theorem dX1_isSmoky_45 : decode cX1_isSmoky 45 = .ok (.iconst 1, 1) := by decide +kernel
theorem dX1_isSmoky_46 : decode cX1_isSmoky 46 = .ok (.ireturn, 1) := by decide +kernel
theorem dX1_isSmoky_47 : decode cX1_isSmoky 47 = .ok (.iinc 3 1, 3) := by decide +kernel
theorem dX1_isSmoky_50 : decode cX1_isSmoky 50 = .ok (.goto (-48), 3) := by decide +kernel
theorem dX1_isSmoky_53 : decode cX1_isSmoky 53 = .ok (.iconst 0, 1) := by decide +kernel
theorem dX1_isSmoky_54 : decode cX1_isSmoky 54 = .ok (.ireturn, 1) := by decide +kernel
theorem dX2_init_0 : decode cX2_init 0 = .ok (.aload_n 0, 1) := by decide +kernel
theorem dX2_init_1 : decode cX2_init 1 = .ok (.invokespecial 3, 3) := by decide +kernel
theorem dX2_init_4 : decode cX2_init 4 = .ok (.return_, 1) := by decide +kernel
theorem dX2_markAs_0 : decode cX2_markAs 0 = .ok (.iload_n 1, 1) := by decide +kernel
theorem dX2_markAs_1 : decode cX2_markAs 1 = .ok (.tableswitch 81 0 5 #[39, 46, 53, 60, 67, 74], 39) := by decide +kernel
theorem dX2_markAs_40 : decode cX2_markAs 40 = .ok (.aload_n 0, 1) := by decide +kernel
theorem dX2_markAs_41 : decode cX2_markAs 41 = .ok (.aload_n 2, 1) := by decide +kernel
theorem dX2_markAs_42 : decode cX2_markAs 42 = .ok (.iload_n 3, 1) := by decide +kernel
theorem dX2_markAs_43 : decode cX2_markAs 43 = .ok (.invokevirtual 9, 3) := by decide +kernel
theorem dX2_markAs_46 : decode cX2_markAs 46 = .ok (.ireturn, 1) := by decide +kernel
theorem dX2_markAs_47 : decode cX2_markAs 47 = .ok (.aload_n 0, 1) := by decide +kernel
theorem dX2_markAs_48 : decode cX2_markAs 48 = .ok (.aload_n 2, 1) := by decide +kernel
theorem dX2_markAs_49 : decode cX2_markAs 49 = .ok (.iload_n 3, 1) := by decide +kernel
theorem dX2_markAs_50 : decode cX2_markAs 50 = .ok (.invokevirtual 15, 3) := by decide +kernel
theorem dX2_markAs_53 : decode cX2_markAs 53 = .ok (.ireturn, 1) := by decide +kernel
theorem dX2_markAs_54 : decode cX2_markAs 54 = .ok (.aload_n 0, 1) := by decide +kernel
theorem dX2_markAs_55 : decode cX2_markAs 55 = .ok (.aload_n 2, 1) := by decide +kernel
theorem dX2_markAs_56 : decode cX2_markAs 56 = .ok (.iload_n 3, 1) := by decide +kernel
theorem dX2_markAs_57 : decode cX2_markAs 57 = .ok (.invokevirtual 18, 3) := by decide +kernel
theorem dX2_markAs_60 : decode cX2_markAs 60 = .ok (.ireturn, 1) := by decide +kernel
theorem dX2_markAs_61 : decode cX2_markAs 61 = .ok (.aload_n 0, 1) := by decide +kernel
theorem dX2_markAs_62 : decode cX2_markAs 62 = .ok (.aload_n 2, 1) := by decide +kernel
theorem dX2_markAs_63 : decode cX2_markAs 63 = .ok (.iload_n 3, 1) := by decide +kernel
theorem dX2_markAs_64 : decode cX2_markAs 64 = .ok (.invokevirtual 21, 3) := by decide +kernel
theorem dX2_markAs_67 : decode cX2_markAs 67 = .ok (.ireturn, 1) := by decide +kernel
theorem dX2_markAs_68 : decode cX2_markAs 68 = .ok (.aload_n 0, 1) := by decide +kernel
theorem dX2_markAs_69 : decode cX2_markAs 69 = .ok (.aload_n 2, 1) := by decide +kernel
theorem dX2_markAs_70 : decode cX2_markAs 70 = .ok (.iload_n 3, 1) := by decide +kernel
theorem dX2_markAs_71 : decode cX2_markAs 71 = .ok (.invokevirtual 24, 3) := by decide +kernel
theorem dX2_markAs_74 : decode cX2_markAs 74 = .ok (.ireturn, 1) := by decide +kernel
theorem dX2_markAs_75 : decode cX2_markAs 75 = .ok (.aload_n 0, 1) := by decide +kernel
theorem dX2_markAs_76 : decode cX2_markAs 76 = .ok (.aload_n 2, 1) := by decide +kernel
theorem dX2_markAs_77 : decode cX2_markAs 77 = .ok (.iload_n 3, 1) := by decide +kernel
theorem dX2_markAs_78 : decode cX2_markAs 78 = .ok (.invokevirtual 27, 3) := by decide +kernel
theorem dX2_markAs_81 : decode cX2_markAs 81 = .ok (.ireturn, 1) := by decide +kernel
theorem dX2_markAs_82 : decode cX2_markAs 82 = .ok (.ldc 30, 2) := by decide +kernel
theorem dX2_markAs_84 : decode cX2_markAs 84 = .ok (.ireturn, 1) := by decide +kernel
theorem dX2_markAsCock_0 : decode cX2_markAsCock 0 = .ok (.aload_n 0, 1) := by decide +kernel
theorem dX2_markAsCock_1 : decode cX2_markAsCock 1 = .ok (.dup, 1) := by decide +kernel
theorem dX2_markAsCock_2 : decode cX2_markAsCock 2 = .ok (.getfield 31, 3) := by decide +kernel
theorem dX2_markAsCock_5 : decode cX2_markAsCock 5 = .ok (.lconst 1, 1) := by decide +kernel
theorem dX2_markAsCock_6 : decode cX2_markAsCock 6 = .ok (.ladd, 1) := by decide +kernel
theorem dX2_markAsCock_7 : decode cX2_markAsCock 7 = .ok (.putfield 31, 3) := by decide +kernel
theorem dX2_markAsCock_10 : decode cX2_markAsCock 10 = .ok (.aload_n 1, 1) := by decide +kernel
theorem dX2_markAsCock_11 : decode cX2_markAsCock 11 = .ok (.iload_n 2, 1) := by decide +kernel
theorem dX2_markAsCock_12 : decode cX2_markAsCock 12 = .ok (.invokevirtual 35, 3) := by decide +kernel
theorem dX2_markAsCock_15 : decode cX2_markAsCock 15 = .ok (.ireturn, 1) := by decide +kernel
theorem dX2_markAsGold_0 : decode cX2_markAsGold 0 = .ok (.aload_n 0, 1) := by decide +kernel
theorem dX2_markAsGold_1 : decode cX2_markAsGold 1 = .ok (.dup, 1) := by decide +kernel
theorem dX2_markAsGold_2 : decode cX2_markAsGold 2 = .ok (.getfield 31, 3) := by decide +kernel
theorem dX2_markAsGold_5 : decode cX2_markAsGold 5 = .ok (.ldc2_w 41, 3) := by decide +kernel
theorem dX2_markAsGold_8 : decode cX2_markAsGold 8 = .ok (.ladd, 1) := by decide +kernel
theorem dX2_markAsGold_9 : decode cX2_markAsGold 9 = .ok (.putfield 31, 3) := by decide +kernel
theorem dX2_markAsGold_12 : decode cX2_markAsGold 12 = .ok (.aload_n 0, 1) := by decide +kernel
theorem dX2_markAsGold_13 : decode cX2_markAsGold 13 = .ok (.aload_n 1, 1) := by decide +kernel
theorem dX2_markAsGold_14 : decode cX2_markAsGold 14 = .ok (.iload_n 2, 1) := by decide +kernel
theorem dX2_markAsGold_15 : decode cX2_markAsGold 15 = .ok (.invokevirtual 9, 3) := by decide +kernel
theorem dX2_markAsGold_18 : decode cX2_markAsGold 18 = .ok (.aload_n 1, 1) := by decide +kernel
theorem dX2_markAsGold_19 : decode cX2_markAsGold 19 = .ok (.getfield 43, 3) := by decide +kernel
theorem dX2_markAsGold_22 : decode cX2_markAsGold 22 = .ok (.iload_n 2, 1) := by decide +kernel
theorem dX2_markAsGold_23 : decode cX2_markAsGold 23 = .ok (.invokevirtual 47, 3) := by decide +kernel
theorem dX2_markAsGold_26 : decode cX2_markAsGold 26 = .ok (.iadd, 1) := by decide +kernel
theorem dX2_markAsGold_27 : decode cX2_markAsGold 27 = .ok (.ireturn, 1) := by decide +kernel
theorem dX2_markAsIron_0 : decode cX2_markAsIron 0 = .ok (.aload_n 0, 1) := by decide +kernel
theorem dX2_markAsIron_1 : decode cX2_markAsIron 1 = .ok (.dup, 1) := by decide +kernel
theorem dX2_markAsIron_2 : decode cX2_markAsIron 2 = .ok (.getfield 31, 3) := by decide +kernel
theorem dX2_markAsIron_5 : decode cX2_markAsIron 5 = .ok (.ldc2_w 52, 3) := by decide +kernel
theorem dX2_markAsIron_8 : decode cX2_markAsIron 8 = .ok (.ladd, 1) := by decide +kernel
theorem dX2_markAsIron_9 : decode cX2_markAsIron 9 = .ok (.putfield 31, 3) := by decide +kernel
theorem dX2_markAsIron_12 : decode cX2_markAsIron 12 = .ok (.aload_n 0, 1) := by decide +kernel
theorem dX2_markAsIron_13 : decode cX2_markAsIron 13 = .ok (.aload_n 1, 1) := by decide +kernel
theorem dX2_markAsIron_14 : decode cX2_markAsIron 14 = .ok (.iload_n 2, 1) := by decide +kernel
theorem dX2_markAsIron_15 : decode cX2_markAsIron 15 = .ok (.invokevirtual 9, 3) := by decide +kernel
theorem dX2_markAsIron_18 : decode cX2_markAsIron 18 = .ok (.aload_n 1, 1) := by decide +kernel
theorem dX2_markAsIron_19 : decode cX2_markAsIron 19 = .ok (.getfield 54, 3) := by decide +kernel
theorem dX2_markAsIron_22 : decode cX2_markAsIron 22 = .ok (.getfield 58, 3) := by decide +kernel
theorem dX2_markAsIron_25 : decode cX2_markAsIron 25 = .ok (.iload_n 2, 1) := by decide +kernel
theorem dX2_markAsIron_26 : decode cX2_markAsIron 26 = .ok (.aaload, 1) := by decide +kernel
theorem dX2_markAsIron_27 : decode cX2_markAsIron 27 = .ok (.iconst 0, 1) := by decide +kernel
theorem dX2_markAsIron_28 : decode cX2_markAsIron 28 = .ok (.iaload, 1) := by decide +kernel
theorem dX2_markAsIron_29 : decode cX2_markAsIron 29 = .ok (.isub, 1) := by decide +kernel
theorem dX2_markAsIron_30 : decode cX2_markAsIron 30 = .ok (.ireturn, 1) := by decide +kernel
theorem dX2_markAsDean_0 : decode cX2_markAsDean 0 = .ok (.aload_n 0, 1) := by decide +kernel
theorem dX2_markAsDean_1 : decode cX2_markAsDean 1 = .ok (.dup, 1) := by decide +kernel
theorem dX2_markAsDean_2 : decode cX2_markAsDean 2 = .ok (.getfield 31, 3) := by decide +kernel
theorem dX2_markAsDean_5 : decode cX2_markAsDean 5 = .ok (.ldc2_w 64, 3) := by decide +kernel
theorem dX2_markAsDean_8 : decode cX2_markAsDean 8 = .ok (.ladd, 1) := by decide +kernel
theorem dX2_markAsDean_9 : decode cX2_markAsDean 9 = .ok (.putfield 31, 3) := by decide +kernel
theorem dX2_markAsDean_12 : decode cX2_markAsDean 12 = .ok (.aload_n 0, 1) := by decide +kernel
theorem dX2_markAsDean_13 : decode cX2_markAsDean 13 = .ok (.aload_n 1, 1) := by decide +kernel
theorem dX2_markAsDean_14 : decode cX2_markAsDean 14 = .ok (.iload_n 2, 1) := by decide +kernel
theorem dX2_markAsDean_15 : decode cX2_markAsDean 15 = .ok (.invokevirtual 15, 3) := by decide +kernel
theorem dX2_markAsDean_18 : decode cX2_markAsDean 18 = .ok (.iconst 2, 1) := by decide +kernel
theorem dX2_markAsDean_19 : decode cX2_markAsDean 19 = .ok (.imul, 1) := by decide +kernel
theorem dX2_markAsDean_20 : decode cX2_markAsDean 20 = .ok (.ireturn, 1) := by decide +kernel
theorem dX2_markAsBarn_0 : decode cX2_markAsBarn 0 = .ok (.aload_n 0, 1) := by decide +kernel
theorem dX2_markAsBarn_1 : decode cX2_markAsBarn 1 = .ok (.dup, 1) := by decide +kernel
theorem dX2_markAsBarn_2 : decode cX2_markAsBarn 2 = .ok (.getfield 31, 3) := by decide +kernel
theorem dX2_markAsBarn_5 : decode cX2_markAsBarn 5 = .ok (.ldc2_w 66, 3) := by decide +kernel
theorem dX2_markAsBarn_8 : decode cX2_markAsBarn 8 = .ok (.ladd, 1) := by decide +kernel
theorem dX2_markAsBarn_9 : decode cX2_markAsBarn 9 = .ok (.putfield 31, 3) := by decide +kernel
theorem dX2_markAsBarn_12 : decode cX2_markAsBarn 12 = .ok (.aload_n 0, 1) := by decide +kernel
theorem dX2_markAsBarn_13 : decode cX2_markAsBarn 13 = .ok (.aload_n 1, 1) := by decide +kernel
theorem dX2_markAsBarn_14 : decode cX2_markAsBarn 14 = .ok (.iload_n 2, 1) := by decide +kernel
theorem dX2_markAsBarn_15 : decode cX2_markAsBarn 15 = .ok (.invokevirtual 18, 3) := by decide +kernel
theorem dX2_markAsBarn_18 : decode cX2_markAsBarn 18 = .ok (.iload_n 2, 1) := by decide +kernel
theorem dX2_markAsBarn_19 : decode cX2_markAsBarn 19 = .ok (.iadd, 1) := by decide +kernel
theorem dX2_markAsBarn_20 : decode cX2_markAsBarn 20 = .ok (.ireturn, 1) := by decide +kernel
theorem dX2_markAsZinc_0 : decode cX2_markAsZinc 0 = .ok (.aload_n 0, 1) := by decide +kernel
theorem dX2_markAsZinc_1 : decode cX2_markAsZinc 1 = .ok (.dup, 1) := by decide +kernel
theorem dX2_markAsZinc_2 : decode cX2_markAsZinc 2 = .ok (.getfield 31, 3) := by decide +kernel
theorem dX2_markAsZinc_5 : decode cX2_markAsZinc 5 = .ok (.ldc2_w 68, 3) := by decide +kernel
theorem dX2_markAsZinc_8 : decode cX2_markAsZinc 8 = .ok (.ladd, 1) := by decide +kernel
theorem dX2_markAsZinc_9 : decode cX2_markAsZinc 9 = .ok (.putfield 31, 3) := by decide +kernel
theorem dX2_markAsZinc_12 : decode cX2_markAsZinc 12 = .ok (.aload_n 0, 1) := by decide +kernel
theorem dX2_markAsZinc_13 : decode cX2_markAsZinc 13 = .ok (.aload_n 1, 1) := by decide +kernel
theorem dX2_markAsZinc_14 : decode cX2_markAsZinc 14 = .ok (.iload_n 2, 1) := by decide +kernel
theorem dX2_markAsZinc_15 : decode cX2_markAsZinc 15 = .ok (.invokevirtual 9, 3) := by decide +kernel
theorem dX2_markAsZinc_18 : decode cX2_markAsZinc 18 = .ok (.aload_n 1, 1) := by decide +kernel
theorem dX2_markAsZinc_19 : decode cX2_markAsZinc 19 = .ok (.getfield 43, 3) := by decide +kernel
theorem dX2_markAsZinc_22 : decode cX2_markAsZinc 22 = .ok (.getfield 70, 3) := by decide +kernel
theorem dX2_markAsZinc_25 : decode cX2_markAsZinc 25 = .ok (.iadd, 1) := by decide +kernel
theorem dX2_markAsZinc_26 : decode cX2_markAsZinc 26 = .ok (.ireturn, 1) := by decide +kernel
theorem dX3_init_0 : decode cX3_init 0 = .ok (.aload_n 0, 1) := by decide +kernel
theorem dX3_init_1 : decode cX3_init 1 = .ok (.invokespecial 3, 3) := by decide +kernel
theorem dX3_init_4 : decode cX3_init 4 = .ok (.aload_n 0, 1) := by decide +kernel
theorem dX3_init_5 : decode cX3_init 5 = .ok (.bipush 24, 2) := by decide +kernel
theorem dX3_init_7 : decode cX3_init 7 = .ok (.newarray .int, 2) := by decide +kernel
theorem dX3_init_9 : decode cX3_init 9 = .ok (.putfield 9, 3) := by decide +kernel
theorem dX3_init_12 : decode cX3_init 12 = .ok (.aload_n 0, 1) := by decide +kernel
theorem dX3_init_13 : decode cX3_init 13 = .ok (.iconst 5, 1) := by decide +kernel
theorem dX3_init_14 : decode cX3_init 14 = .ok (.iconst 4, 1) := by decide +kernel
theorem dX3_init_15 : decode cX3_init 15 = .ok (.multianewarray 15 2, 4) := by decide +kernel
theorem dX3_init_19 : decode cX3_init 19 = .ok (.putfield 17, 3) := by decide +kernel
theorem dX3_init_22 : decode cX3_init 22 = .ok (.aload_n 0, 1) := by decide +kernel
theorem dX3_init_23 : decode cX3_init 23 = .ok (.bipush 10, 2) := by decide +kernel
theorem dX3_init_25 : decode cX3_init 25 = .ok (.newarray .int, 2) := by decide +kernel
theorem dX3_init_27 : decode cX3_init 27 = .ok (.putfield 20, 3) := by decide +kernel
theorem dX3_init_30 : decode cX3_init 30 = .ok (.aload_n 0, 1) := by decide +kernel
theorem dX3_init_31 : decode cX3_init 31 = .ok (.bipush 10, 2) := by decide +kernel
theorem dX3_init_33 : decode cX3_init 33 = .ok (.newarray .int, 2) := by decide +kernel
theorem dX3_init_35 : decode cX3_init 35 = .ok (.putfield 23, 3) := by decide +kernel
theorem dX3_init_38 : decode cX3_init 38 = .ok (.aload_n 0, 1) := by decide +kernel
theorem dX3_init_39 : decode cX3_init 39 = .ok (.bipush 10, 2) := by decide +kernel
theorem dX3_init_41 : decode cX3_init 41 = .ok (.newarray .int, 2) := by decide +kernel
theorem dX3_init_43 : decode cX3_init 43 = .ok (.putfield 26, 3) := by decide +kernel
theorem dX3_init_46 : decode cX3_init 46 = .ok (.return_, 1) := by decide +kernel
theorem dX3_beginOver_0 : decode cX3_beginOver 0 = .ok (.aload_n 0, 1) := by decide +kernel
theorem dX3_beginOver_1 : decode cX3_beginOver 1 = .ok (.iconst 0, 1) := by decide +kernel
theorem dX3_beginOver_2 : decode cX3_beginOver 2 = .ok (.putfield 29, 3) := by decide +kernel
theorem dX3_beginOver_5 : decode cX3_beginOver 5 = .ok (.aload_n 0, 1) := by decide +kernel
theorem dX3_beginOver_6 : decode cX3_beginOver 6 = .ok (.iconst 0, 1) := by decide +kernel
theorem dX3_beginOver_7 : decode cX3_beginOver 7 = .ok (.putfield 33, 3) := by decide +kernel
theorem dX3_beginOver_10 : decode cX3_beginOver 10 = .ok (.aload_n 0, 1) := by decide +kernel
theorem dX3_beginOver_11 : decode cX3_beginOver 11 = .ok (.iconst 0, 1) := by decide +kernel
theorem dX3_beginOver_12 : decode cX3_beginOver 12 = .ok (.putfield 36, 3) := by decide +kernel
theorem dX3_beginOver_15 : decode cX3_beginOver 15 = .ok (.aload_n 1, 1) := by decide +kernel
theorem dX3_beginOver_16 : decode cX3_beginOver 16 = .ok (.iconst 0, 1) := by decide +kernel
theorem dX3_beginOver_17 : decode cX3_beginOver 17 = .ok (.aload_n 0, 1) := by decide +kernel
theorem dX3_beginOver_18 : decode cX3_beginOver 18 = .ok (.getfield 9, 3) := by decide +kernel
theorem dX3_beginOver_21 : decode cX3_beginOver 21 = .ok (.iconst 0, 1) := by decide +kernel
theorem dX3_beginOver_22 : decode cX3_beginOver 22 = .ok (.bipush 24, 2) := by decide +kernel
theorem dX3_beginOver_24 : decode cX3_beginOver 24 = .ok (.invokestatic 39, 3) := by decide +kernel
theorem dX3_beginOver_27 : decode cX3_beginOver 27 = .ok (.iconst 0, 1) := by decide +kernel
theorem dX3_beginOver_28 : decode cX3_beginOver 28 = .ok (.istore_n 2, 1) := by decide +kernel
theorem dX3_beginOver_29 : decode cX3_beginOver 29 = .ok (.iload_n 2, 1) := by decide +kernel
theorem dX3_beginOver_30 : decode cX3_beginOver 30 = .ok (.iconst 5, 1) := by decide +kernel
theorem dX3_beginOver_31 : decode cX3_beginOver 31 = .ok (.if_icmp .ge 19, 3) := by decide +kernel
theorem dX3_beginOver_34 : decode cX3_beginOver 34 = .ok (.aload_n 0, 1) := by decide +kernel
theorem dX3_beginOver_35 : decode cX3_beginOver 35 = .ok (.getfield 17, 3) := by decide +kernel
theorem dX3_beginOver_38 : decode cX3_beginOver 38 = .ok (.iload_n 2, 1) := by decide +kernel
theorem dX3_beginOver_39 : decode cX3_beginOver 39 = .ok (.aaload, 1) := by decide +kernel
theorem dX3_beginOver_40 : decode cX3_beginOver 40 = .ok (.iconst 0, 1) := by decide +kernel
theorem dX3_beginOver_41 : decode cX3_beginOver 41 = .ok (.invokestatic 45, 3) := by decide +kernel
theorem dX3_beginOver_44 : decode cX3_beginOver 44 = .ok (.iinc 2 1, 3) := by decide +kernel
theorem dX3_beginOver_47 : decode cX3_beginOver 47 = .ok (.goto (-18), 3) := by decide +kernel
theorem dX3_beginOver_50 : decode cX3_beginOver 50 = .ok (.return_, 1) := by decide +kernel
theorem dX3_becomeAs_0 : decode cX3_becomeAs 0 = .ok (.aload_n 0, 1) := by decide +kernel
theorem dX3_becomeAs_1 : decode cX3_becomeAs 1 = .ok (.aload_n 1, 1) := by decide +kernel
theorem dX3_becomeAs_2 : decode cX3_becomeAs 2 = .ok (.getfield 29, 3) := by decide +kernel
theorem dX3_becomeAs_5 : decode cX3_becomeAs 5 = .ok (.putfield 29, 3) := by decide +kernel
theorem dX3_becomeAs_8 : decode cX3_becomeAs 8 = .ok (.aload_n 0, 1) := by decide +kernel
theorem dX3_becomeAs_9 : decode cX3_becomeAs 9 = .ok (.aload_n 1, 1) := by decide +kernel
theorem dX3_becomeAs_10 : decode cX3_becomeAs 10 = .ok (.getfield 33, 3) := by decide +kernel
theorem dX3_becomeAs_13 : decode cX3_becomeAs 13 = .ok (.putfield 33, 3) := by decide +kernel
theorem dX3_becomeAs_16 : decode cX3_becomeAs 16 = .ok (.aload_n 0, 1) := by decide +kernel
theorem dX3_becomeAs_17 : decode cX3_becomeAs 17 = .ok (.aload_n 1, 1) := by decide +kernel
theorem dX3_becomeAs_18 : decode cX3_becomeAs 18 = .ok (.getfield 36, 3) := by decide +kernel
theorem dX3_becomeAs_21 : decode cX3_becomeAs 21 = .ok (.putfield 36, 3) := by decide +kernel
theorem dX3_becomeAs_24 : decode cX3_becomeAs 24 = .ok (.aload_n 1, 1) := by decide +kernel
theorem dX3_becomeAs_25 : decode cX3_becomeAs 25 = .ok (.getfield 9, 3) := by decide +kernel
theorem dX3_becomeAs_28 : decode cX3_becomeAs 28 = .ok (.iconst 0, 1) := by decide +kernel
theorem dX3_becomeAs_29 : decode cX3_becomeAs 29 = .ok (.aload_n 0, 1) := by decide +kernel
theorem dX3_becomeAs_30 : decode cX3_becomeAs 30 = .ok (.getfield 9, 3) := by decide +kernel
theorem dX3_becomeAs_33 : decode cX3_becomeAs 33 = .ok (.iconst 0, 1) := by decide +kernel
theorem dX3_becomeAs_34 : decode cX3_becomeAs 34 = .ok (.bipush 24, 2) := by decide +kernel
theorem dX3_becomeAs_36 : decode cX3_becomeAs 36 = .ok (.invokestatic 39, 3) := by decide +kernel
theorem dX3_becomeAs_39 : decode cX3_becomeAs 39 = .ok (.aload_n 1, 1) := by decide +kernel
theorem dX3_becomeAs_40 : decode cX3_becomeAs 40 = .ok (.getfield 17, 3) := by decide +kernel
theorem dX3_becomeAs_43 : decode cX3_becomeAs 43 = .ok (.aload_n 0, 1) := by decide +kernel
theorem dX3_becomeAs_44 : decode cX3_becomeAs 44 = .ok (.getfield 17, 3) := by decide +kernel
theorem dX3_becomeAs_47 : decode cX3_becomeAs 47 = .ok (.invokestatic 51, 3) := by decide +kernel
theorem dX3_becomeAs_50 : decode cX3_becomeAs 50 = .ok (.aload_n 1, 1) := by decide +kernel
theorem dX3_becomeAs_51 : decode cX3_becomeAs 51 = .ok (.getfield 20, 3) := by decide +kernel
theorem dX3_becomeAs_54 : decode cX3_becomeAs 54 = .ok (.iconst 0, 1) := by decide +kernel
theorem dX3_becomeAs_55 : decode cX3_becomeAs 55 = .ok (.aload_n 0, 1) := by decide +kernel
theorem dX3_becomeAs_56 : decode cX3_becomeAs 56 = .ok (.getfield 20, 3) := by decide +kernel
theorem dX3_becomeAs_59 : decode cX3_becomeAs 59 = .ok (.iconst 0, 1) := by decide +kernel
theorem dX3_becomeAs_60 : decode cX3_becomeAs 60 = .ok (.bipush 10, 2) := by decide +kernel
theorem dX3_becomeAs_62 : decode cX3_becomeAs 62 = .ok (.invokestatic 39, 3) := by decide +kernel
theorem dX3_becomeAs_65 : decode cX3_becomeAs 65 = .ok (.aload_n 1, 1) := by decide +kernel
theorem dX3_becomeAs_66 : decode cX3_becomeAs 66 = .ok (.getfield 23, 3) := by decide +kernel
theorem dX3_becomeAs_69 : decode cX3_becomeAs 69 = .ok (.iconst 0, 1) := by decide +kernel
theorem dX3_becomeAs_70 : decode cX3_becomeAs 70 = .ok (.aload_n 0, 1) := by decide +kernel
theorem dX3_becomeAs_71 : decode cX3_becomeAs 71 = .ok (.getfield 23, 3) := by decide +kernel
theorem dX3_becomeAs_74 : decode cX3_becomeAs 74 = .ok (.iconst 0, 1) := by decide +kernel
theorem dX3_becomeAs_75 : decode cX3_becomeAs 75 = .ok (.bipush 10, 2) := by decide +kernel
theorem dX3_becomeAs_77 : decode cX3_becomeAs 77 = .ok (.invokestatic 39, 3) := by decide +kernel
theorem dX3_becomeAs_80 : decode cX3_becomeAs 80 = .ok (.aload_n 1, 1) := by decide +kernel
theorem dX3_becomeAs_81 : decode cX3_becomeAs 81 = .ok (.getfield 26, 3) := by decide +kernel
theorem dX3_becomeAs_84 : decode cX3_becomeAs 84 = .ok (.iconst 0, 1) := by decide +kernel
theorem dX3_becomeAs_85 : decode cX3_becomeAs 85 = .ok (.aload_n 0, 1) := by decide +kernel
theorem dX3_becomeAs_86 : decode cX3_becomeAs 86 = .ok (.getfield 26, 3) := by decide +kernel
theorem dX3_becomeAs_89 : decode cX3_becomeAs 89 = .ok (.iconst 0, 1) := by decide +kernel
theorem dX3_becomeAs_90 : decode cX3_becomeAs 90 = .ok (.bipush 10, 2) := by decide +kernel
theorem dX3_becomeAs_92 : decode cX3_becomeAs 92 = .ok (.invokestatic 39, 3) := by decide +kernel
theorem dX3_becomeAs_95 : decode cX3_becomeAs 95 = .ok (.return_, 1) := by decide +kernel
theorem dX3_isAsked_0 : decode cX3_isAsked 0 = .ok (.iload_n 1, 1) := by decide +kernel
theorem dX3_isAsked_1 : decode cX3_isAsked 1 = .ok (.aload_n 0, 1) := by decide +kernel
theorem dX3_isAsked_2 : decode cX3_isAsked 2 = .ok (.getfield 33, 3) := by decide +kernel
theorem dX3_isAsked_5 : decode cX3_isAsked 5 = .ok (.invokestatic 55, 3) := by decide +kernel
theorem dX3_isAsked_8 : decode cX3_isAsked 8 = .ok (.ireturn, 1) := by decide +kernel
theorem dX3_rememberHour_0 : decode cX3_rememberHour 0 = .ok (.aload_n 0, 1) := by decide +kernel
theorem dX3_rememberHour_1 : decode cX3_rememberHour 1 = .ok (.iconst 0, 1) := by decide +kernel
theorem dX3_rememberHour_2 : decode cX3_rememberHour 2 = .ok (.aload_n 0, 1) := by decide +kernel
theorem dX3_rememberHour_3 : decode cX3_rememberHour 3 = .ok (.getfield 29, 3) := by decide +kernel
theorem dX3_rememberHour_6 : decode cX3_rememberHour 6 = .ok (.iconst 0, 1) := by decide +kernel
theorem dX3_rememberHour_7 : decode cX3_rememberHour 7 = .ok (.invokevirtual 59, 3) := by decide +kernel
theorem dX3_rememberHour_10 : decode cX3_rememberHour 10 = .ok (.return_, 1) := by decide +kernel
theorem dX3_build_0 : decode cX3_build 0 = .ok (.aload_n 0, 1) := by decide +kernel
theorem dX3_build_1 : decode cX3_build 1 = .ok (.iconst 1, 1) := by decide +kernel
theorem dX3_build_2 : decode cX3_build 2 = .ok (.iload_n 1, 1) := by decide +kernel
theorem dX3_build_3 : decode cX3_build 3 = .ok (.aload_n 0, 1) := by decide +kernel
theorem dX3_build_4 : decode cX3_build 4 = .ok (.getfield 9, 3) := by decide +kernel
theorem dX3_build_7 : decode cX3_build 7 = .ok (.iload_n 1, 1) := by decide +kernel
theorem dX3_build_8 : decode cX3_build 8 = .ok (.iaload, 1) := by decide +kernel
theorem dX3_build_9 : decode cX3_build 9 = .ok (.invokevirtual 59, 3) := by decide +kernel
theorem dX3_build_12 : decode cX3_build 12 = .ok (.aload_n 0, 1) := by decide +kernel
theorem dX3_build_13 : decode cX3_build 13 = .ok (.getfield 9, 3) := by decide +kernel
theorem dX3_build_16 : decode cX3_build 16 = .ok (.iload_n 1, 1) := by decide +kernel
theorem dX3_build_17 : decode cX3_build 17 = .ok (.iload_n 2, 1) := by decide +kernel
theorem dX3_build_18 : decode cX3_build 18 = .ok (.iastore, 1) := by decide +kernel
theorem dX3_build_19 : decode cX3_build 19 = .ok (.return_, 1) := by decide +kernel
theorem dX3_bringDown_0 : decode cX3_bringDown 0 = .ok (.aload_n 0, 1) := by decide +kernel
theorem dX3_bringDown_1 : decode cX3_bringDown 1 = .ok (.iconst 2, 1) := by decide +kernel
theorem dX3_bringDown_2 : decode cX3_bringDown 2 = .ok (.iload_n 1, 1) := by decide +kernel
theorem dX3_bringDown_3 : decode cX3_bringDown 3 = .ok (.iconst 0, 1) := by decide +kernel
theorem dX3_bringDown_4 : decode cX3_bringDown 4 = .ok (.invokevirtual 59, 3) := by decide +kernel
theorem dX3_bringDown_7 : decode cX3_bringDown 7 = .ok (.aload_n 0, 1) := by decide +kernel
theorem dX3_bringDown_8 : decode cX3_bringDown 8 = .ok (.dup, 1) := by decide +kernel
theorem dX3_bringDown_9 : decode cX3_bringDown 9 = .ok (.getfield 33, 3) := by decide +kernel
theorem dX3_bringDown_12 : decode cX3_bringDown 12 = .ok (.iconst 1, 1) := by decide +kernel
theorem dX3_bringDown_13 : decode cX3_bringDown 13 = .ok (.iload_n 1, 1) := by decide +kernel
theorem dX3_bringDown_14 : decode cX3_bringDown 14 = .ok (.ishl, 1) := by decide +kernel
theorem dX3_bringDown_15 : decode cX3_bringDown 15 = .ok (.ior, 1) := by decide +kernel
theorem dX3_bringDown_16 : decode cX3_bringDown 16 = .ok (.putfield 33, 3) := by decide +kernel
theorem dX3_bringDown_19 : decode cX3_bringDown 19 = .ok (.return_, 1) := by decide +kernel
theorem dX3_remember_0 : decode cX3_remember 0 = .ok (.aload_n 0, 1) := by decide +kernel
theorem dX3_remember_1 : decode cX3_remember 1 = .ok (.getfield 36, 3) := by decide +kernel
theorem dX3_remember_4 : decode cX3_remember 4 = .ok (.bipush 10, 2) := by decide +kernel
theorem dX3_remember_6 : decode cX3_remember 6 = .ok (.if_icmp .lt 7, 3) := by decide +kernel
theorem dX3_remember_9 : decode cX3_remember 9 = .ok (.aload_n 0, 1) := by decide +kernel
theorem dX3_remember_10 : decode cX3_remember 10 = .ok (.invokevirtual 63, 3) := by decide +kernel
theorem dX3_remember_13 : decode cX3_remember 13 = .ok (.aload_n 0, 1) := by decide +kernel
theorem dX3_remember_14 : decode cX3_remember 14 = .ok (.getfield 20, 3) := by decide +kernel
theorem dX3_remember_17 : decode cX3_remember 17 = .ok (.aload_n 0, 1) := by decide +kernel
theorem dX3_remember_18 : decode cX3_remember 18 = .ok (.getfield 36, 3) := by decide +kernel
theorem dX3_remember_21 : decode cX3_remember 21 = .ok (.iload_n 1, 1) := by decide +kernel
theorem dX3_remember_22 : decode cX3_remember 22 = .ok (.iastore, 1) := by decide +kernel
theorem dX3_remember_23 : decode cX3_remember 23 = .ok (.aload_n 0, 1) := by decide +kernel
theorem dX3_remember_24 : decode cX3_remember 24 = .ok (.getfield 23, 3) := by decide +kernel
theorem dX3_remember_27 : decode cX3_remember 27 = .ok (.aload_n 0, 1) := by decide +kernel
theorem dX3_remember_28 : decode cX3_remember 28 = .ok (.getfield 36, 3) := by decide +kernel
theorem dX3_remember_31 : decode cX3_remember 31 = .ok (.iload_n 2, 1) := by decide +kernel
theorem dX3_remember_32 : decode cX3_remember 32 = .ok (.iastore, 1) := by decide +kernel
theorem dX3_remember_33 : decode cX3_remember 33 = .ok (.aload_n 0, 1) := by decide +kernel
theorem dX3_remember_34 : decode cX3_remember 34 = .ok (.getfield 26, 3) := by decide +kernel
theorem dX3_remember_37 : decode cX3_remember 37 = .ok (.aload_n 0, 1) := by decide +kernel
theorem dX3_remember_38 : decode cX3_remember 38 = .ok (.getfield 36, 3) := by decide +kernel
theorem dX3_remember_41 : decode cX3_remember 41 = .ok (.iload_n 3, 1) := by decide +kernel
theorem dX3_remember_42 : decode cX3_remember 42 = .ok (.iastore, 1) := by decide +kernel
theorem dX3_remember_43 : decode cX3_remember 43 = .ok (.aload_n 0, 1) := by decide +kernel
theorem dX3_remember_44 : decode cX3_remember 44 = .ok (.dup, 1) := by decide +kernel
theorem dX3_remember_45 : decode cX3_remember 45 = .ok (.getfield 36, 3) := by decide +kernel
theorem dX3_remember_48 : decode cX3_remember 48 = .ok (.iconst 1, 1) := by decide +kernel
theorem dX3_remember_49 : decode cX3_remember 49 = .ok (.iadd, 1) := by decide +kernel
theorem dX3_remember_50 : decode cX3_remember 50 = .ok (.putfield 36, 3) := by decide +kernel
theorem dX3_remember_53 : decode cX3_remember 53 = .ok (.return_, 1) := by decide +kernel
theorem dX3_loseOldest_0 : decode cX3_loseOldest 0 = .ok (.aload_n 0, 1) := by decide +kernel
theorem dX3_loseOldest_1 : decode cX3_loseOldest 1 = .ok (.getfield 20, 3) := by decide +kernel
theorem dX3_loseOldest_4 : decode cX3_loseOldest 4 = .ok (.iconst 1, 1) := by decide +kernel
theorem dX3_loseOldest_5 : decode cX3_loseOldest 5 = .ok (.aload_n 0, 1) := by decide +kernel
theorem dX3_loseOldest_6 : decode cX3_loseOldest 6 = .ok (.getfield 20, 3) := by decide +kernel
theorem dX3_loseOldest_9 : decode cX3_loseOldest 9 = .ok (.iconst 0, 1) := by decide +kernel
theorem dX3_loseOldest_10 : decode cX3_loseOldest 10 = .ok (.bipush 9, 2) := by decide +kernel
theorem dX3_loseOldest_12 : decode cX3_loseOldest 12 = .ok (.invokestatic 39, 3) := by decide +kernel
theorem dX3_loseOldest_15 : decode cX3_loseOldest 15 = .ok (.aload_n 0, 1) := by decide +kernel
theorem dX3_loseOldest_16 : decode cX3_loseOldest 16 = .ok (.getfield 23, 3) := by decide +kernel
theorem dX3_loseOldest_19 : decode cX3_loseOldest 19 = .ok (.iconst 1, 1) := by decide +kernel
theorem dX3_loseOldest_20 : decode cX3_loseOldest 20 = .ok (.aload_n 0, 1) := by decide +kernel
theorem dX3_loseOldest_21 : decode cX3_loseOldest 21 = .ok (.getfield 23, 3) := by decide +kernel
theorem dX3_loseOldest_24 : decode cX3_loseOldest 24 = .ok (.iconst 0, 1) := by decide +kernel
theorem dX3_loseOldest_25 : decode cX3_loseOldest 25 = .ok (.bipush 9, 2) := by decide +kernel
theorem dX3_loseOldest_27 : decode cX3_loseOldest 27 = .ok (.invokestatic 39, 3) := by decide +kernel
theorem dX3_loseOldest_30 : decode cX3_loseOldest 30 = .ok (.aload_n 0, 1) := by decide +kernel
theorem dX3_loseOldest_31 : decode cX3_loseOldest 31 = .ok (.getfield 26, 3) := by decide +kernel
theorem dX3_loseOldest_34 : decode cX3_loseOldest 34 = .ok (.iconst 1, 1) := by decide +kernel
theorem dX3_loseOldest_35 : decode cX3_loseOldest 35 = .ok (.aload_n 0, 1) := by decide +kernel
theorem dX3_loseOldest_36 : decode cX3_loseOldest 36 = .ok (.getfield 26, 3) := by decide +kernel
theorem dX3_loseOldest_39 : decode cX3_loseOldest 39 = .ok (.iconst 0, 1) := by decide +kernel
theorem dX3_loseOldest_40 : decode cX3_loseOldest 40 = .ok (.bipush 9, 2) := by decide +kernel
theorem dX3_loseOldest_42 : decode cX3_loseOldest 42 = .ok (.invokestatic 39, 3) := by decide +kernel
theorem dX3_loseOldest_45 : decode cX3_loseOldest 45 = .ok (.aload_n 0, 1) := by decide +kernel
theorem dX3_loseOldest_46 : decode cX3_loseOldest 46 = .ok (.bipush 9, 2) := by decide +kernel
theorem dX3_loseOldest_48 : decode cX3_loseOldest 48 = .ok (.putfield 36, 3) := by decide +kernel
theorem dX3_loseOldest_51 : decode cX3_loseOldest 51 = .ok (.return_, 1) := by decide +kernel
theorem dX3_undoLatest_0 : decode cX3_undoLatest 0 = .ok (.aload_n 0, 1) := by decide +kernel
theorem dX3_undoLatest_1 : decode cX3_undoLatest 1 = .ok (.getfield 36, 3) := by decide +kernel
theorem dX3_undoLatest_4 : decode cX3_undoLatest 4 = .ok (.ifCond .gt 4, 3) := by decide +kernel
theorem dX3_undoLatest_7 : decode cX3_undoLatest 7 = .ok (.return_, 1) := by decide +kernel
theorem dX3_undoLatest_8 : decode cX3_undoLatest 8 = .ok (.aload_n 0, 1) := by decide +kernel
theorem dX3_undoLatest_9 : decode cX3_undoLatest 9 = .ok (.dup, 1) := by decide +kernel
theorem dX3_undoLatest_10 : decode cX3_undoLatest 10 = .ok (.getfield 36, 3) := by decide +kernel
theorem dX3_undoLatest_13 : decode cX3_undoLatest 13 = .ok (.iconst 1, 1) := by decide +kernel
theorem dX3_undoLatest_14 : decode cX3_undoLatest 14 = .ok (.isub, 1) := by decide +kernel
theorem dX3_undoLatest_15 : decode cX3_undoLatest 15 = .ok (.putfield 36, 3) := by decide +kernel
theorem dX3_undoLatest_18 : decode cX3_undoLatest 18 = .ok (.aload_n 0, 1) := by decide +kernel
theorem dX3_undoLatest_19 : decode cX3_undoLatest 19 = .ok (.getfield 23, 3) := by decide +kernel
theorem dX3_undoLatest_22 : decode cX3_undoLatest 22 = .ok (.aload_n 0, 1) := by decide +kernel
theorem dX3_undoLatest_23 : decode cX3_undoLatest 23 = .ok (.getfield 36, 3) := by decide +kernel
theorem dX3_undoLatest_26 : decode cX3_undoLatest 26 = .ok (.iaload, 1) := by decide +kernel
theorem dX3_undoLatest_27 : decode cX3_undoLatest 27 = .ok (.istore_n 1, 1) := by decide +kernel
theorem dX3_undoLatest_28 : decode cX3_undoLatest 28 = .ok (.aload_n 0, 1) := by decide +kernel
theorem dX3_undoLatest_29 : decode cX3_undoLatest 29 = .ok (.getfield 20, 3) := by decide +kernel
theorem dX3_undoLatest_32 : decode cX3_undoLatest 32 = .ok (.aload_n 0, 1) := by decide +kernel
theorem dX3_undoLatest_33 : decode cX3_undoLatest 33 = .ok (.getfield 36, 3) := by decide +kernel
theorem dX3_undoLatest_36 : decode cX3_undoLatest 36 = .ok (.iaload, 1) := by decide +kernel
theorem dX3_undoLatest_37 : decode cX3_undoLatest 37 = .ok (.lookupswitch 53 #[(0, 27), (1, 35)], 27) := by decide +kernel
theorem dX3_undoLatest_64 : decode cX3_undoLatest 64 = .ok (.aload_n 0, 1) := by decide +kernel
theorem dX3_undoLatest_65 : decode cX3_undoLatest 65 = .ok (.iload_n 1, 1) := by decide +kernel
theorem dX3_undoLatest_66 : decode cX3_undoLatest 66 = .ok (.invokevirtual 66, 3) := by decide +kernel
theorem dX3_undoLatest_69 : decode cX3_undoLatest 69 = .ok (.goto 35, 3) := by decide +kernel
theorem dX3_undoLatest_72 : decode cX3_undoLatest 72 = .ok (.aload_n 0, 1) := by decide +kernel
theorem dX3_undoLatest_73 : decode cX3_undoLatest 73 = .ok (.getfield 9, 3) := by decide +kernel
theorem dX3_undoLatest_76 : decode cX3_undoLatest 76 = .ok (.iload_n 1, 1) := by decide +kernel
theorem dX3_undoLatest_77 : decode cX3_undoLatest 77 = .ok (.aload_n 0, 1) := by decide +kernel
theorem dX3_undoLatest_78 : decode cX3_undoLatest 78 = .ok (.getfield 26, 3) := by decide +kernel
theorem dX3_undoLatest_81 : decode cX3_undoLatest 81 = .ok (.aload_n 0, 1) := by decide +kernel
theorem dX3_undoLatest_82 : decode cX3_undoLatest 82 = .ok (.getfield 36, 3) := by decide +kernel
theorem dX3_undoLatest_85 : decode cX3_undoLatest 85 = .ok (.iaload, 1) := by decide +kernel
theorem dX3_undoLatest_86 : decode cX3_undoLatest 86 = .ok (.iastore, 1) := by decide +kernel
theorem dX3_undoLatest_87 : decode cX3_undoLatest 87 = .ok (.goto 17, 3) := by decide +kernel
theorem dX3_undoLatest_90 : decode cX3_undoLatest 90 = .ok (.aload_n 0, 1) := by decide +kernel
theorem dX3_undoLatest_91 : decode cX3_undoLatest 91 = .ok (.dup, 1) := by decide +kernel
theorem dX3_undoLatest_92 : decode cX3_undoLatest 92 = .ok (.getfield 33, 3) := by decide +kernel
theorem dX3_undoLatest_95 : decode cX3_undoLatest 95 = .ok (.iconst 1, 1) := by decide +kernel
theorem dX3_undoLatest_96 : decode cX3_undoLatest 96 = .ok (.iload_n 1, 1) := by decide +kernel
theorem dX3_undoLatest_97 : decode cX3_undoLatest 97 = .ok (.ishl, 1) := by decide +kernel
theorem dX3_undoLatest_98 : decode cX3_undoLatest 98 = .ok (.iconst (-1), 1) := by decide +kernel
theorem dX3_undoLatest_99 : decode cX3_undoLatest 99 = .ok (.ixor, 1) := by decide +kernel
theorem dX3_undoLatest_100 : decode cX3_undoLatest 100 = .ok (.iand, 1) := by decide +kernel
theorem dX3_undoLatest_101 : decode cX3_undoLatest 101 = .ok (.putfield 33, 3) := by decide +kernel
theorem dX3_undoLatest_104 : decode cX3_undoLatest 104 = .ok (.return_, 1) := by decide +kernel
theorem dX3_returnTo_0 : decode cX3_returnTo 0 = .ok (.aload_n 0, 1) := by decide +kernel
theorem dX3_returnTo_1 : decode cX3_returnTo 1 = .ok (.iload_n 1, 1) := by decide +kernel
theorem dX3_returnTo_2 : decode cX3_returnTo 2 = .ok (.putfield 29, 3) := by decide +kernel
theorem dX3_returnTo_5 : decode cX3_returnTo 5 = .ok (.iconst 1, 1) := by decide +kernel
theorem dX3_returnTo_6 : decode cX3_returnTo 6 = .ok (.iload_n 1, 1) := by decide +kernel
theorem dX3_returnTo_7 : decode cX3_returnTo 7 = .ok (.ishl, 1) := by decide +kernel
theorem dX3_returnTo_8 : decode cX3_returnTo 8 = .ok (.iconst 1, 1) := by decide +kernel
theorem dX3_returnTo_9 : decode cX3_returnTo 9 = .ok (.isub, 1) := by decide +kernel
theorem dX3_returnTo_10 : decode cX3_returnTo 10 = .ok (.istore_n 2, 1) := by decide +kernel
theorem dX3_returnTo_11 : decode cX3_returnTo 11 = .ok (.iconst 0, 1) := by decide +kernel
theorem dX3_returnTo_12 : decode cX3_returnTo 12 = .ok (.istore_n 3, 1) := by decide +kernel
theorem dX3_returnTo_13 : decode cX3_returnTo 13 = .ok (.iload_n 3, 1) := by decide +kernel
theorem dX3_returnTo_14 : decode cX3_returnTo 14 = .ok (.iconst 5, 1) := by decide +kernel
theorem dX3_returnTo_15 : decode cX3_returnTo 15 = .ok (.if_icmp .ge 37, 3) := by decide +kernel
theorem dX3_returnTo_18 : decode cX3_returnTo 18 = .ok (.iconst 0, 1) := by decide +kernel
theorem dX3_returnTo_19 : decode cX3_returnTo 19 = .ok (.istore 4, 2) := by decide +kernel
theorem dX3_returnTo_21 : decode cX3_returnTo 21 = .ok (.iload 4, 2) := by decide +kernel
theorem dX3_returnTo_23 : decode cX3_returnTo 23 = .ok (.iconst 4, 1) := by decide +kernel
theorem dX3_returnTo_24 : decode cX3_returnTo 24 = .ok (.if_icmp .ge 22, 3) := by decide +kernel
theorem dX3_returnTo_27 : decode cX3_returnTo 27 = .ok (.aload_n 0, 1) := by decide +kernel
theorem dX3_returnTo_28 : decode cX3_returnTo 28 = .ok (.getfield 17, 3) := by decide +kernel
theorem dX3_returnTo_31 : decode cX3_returnTo 31 = .ok (.iload_n 3, 1) := by decide +kernel
theorem dX3_returnTo_32 : decode cX3_returnTo 32 = .ok (.aaload, 1) := by decide +kernel
theorem dX3_returnTo_33 : decode cX3_returnTo 33 = .ok (.iload 4, 2) := by decide +kernel
theorem dX3_returnTo_35 : decode cX3_returnTo 35 = .ok (.dup2, 1) := by decide +kernel
theorem dX3_returnTo_36 : decode cX3_returnTo 36 = .ok (.iaload, 1) := by decide +kernel
theorem dX3_returnTo_37 : decode cX3_returnTo 37 = .ok (.iload_n 2, 1) := by decide +kernel
theorem dX3_returnTo_38 : decode cX3_returnTo 38 = .ok (.iand, 1) := by decide +kernel
theorem dX3_returnTo_39 : decode cX3_returnTo 39 = .ok (.iastore, 1) := by decide +kernel
theorem dX3_returnTo_40 : decode cX3_returnTo 40 = .ok (.iinc 4 1, 3) := by decide +kernel
theorem dX3_returnTo_43 : decode cX3_returnTo 43 = .ok (.goto (-22), 3) := by decide +kernel
theorem dX3_returnTo_46 : decode cX3_returnTo 46 = .ok (.iinc 3 1, 3) := by decide +kernel
theorem dX3_returnTo_49 : decode cX3_returnTo 49 = .ok (.goto (-36), 3) := by decide +kernel
theorem dX3_returnTo_52 : decode cX3_returnTo 52 = .ok (.return_, 1) := by decide +kernel
theorem dX3_seenByAnyOf_0 : decode cX3_seenByAnyOf 0 = .ok (.iconst 0, 1) := by decide +kernel
theorem dX3_seenByAnyOf_1 : decode cX3_seenByAnyOf 1 = .ok (.istore_n 3, 1) := by decide +kernel
theorem dX3_seenByAnyOf_2 : decode cX3_seenByAnyOf 2 = .ok (.iconst 0, 1) := by decide +kernel
theorem dX3_seenByAnyOf_3 : decode cX3_seenByAnyOf 3 = .ok (.istore 4, 2) := by decide +kernel
theorem dX3_seenByAnyOf_5 : decode cX3_seenByAnyOf 5 = .ok (.iload 4, 2) := by decide +kernel
theorem dX3_seenByAnyOf_7 : decode cX3_seenByAnyOf 7 = .ok (.iconst 5, 1) := by decide +kernel
theorem dX3_seenByAnyOf_8 : decode cX3_seenByAnyOf 8 = .ok (.if_icmp .ge 30, 3) := by decide +kernel
theorem dX3_seenByAnyOf_11 : decode cX3_seenByAnyOf 11 = .ok (.iload 4, 2) := by decide +kernel
theorem dX3_seenByAnyOf_13 : decode cX3_seenByAnyOf 13 = .ok (.iload_n 1, 1) := by decide +kernel
theorem dX3_seenByAnyOf_14 : decode cX3_seenByAnyOf 14 = .ok (.invokestatic 55, 3) := by decide +kernel
theorem dX3_seenByAnyOf_17 : decode cX3_seenByAnyOf 17 = .ok (.ifCond .eq 15, 3) := by decide +kernel
theorem dX3_seenByAnyOf_20 : decode cX3_seenByAnyOf 20 = .ok (.iload_n 3, 1) := by decide +kernel
theorem dX3_seenByAnyOf_21 : decode cX3_seenByAnyOf 21 = .ok (.aload_n 0, 1) := by decide +kernel
theorem dX3_seenByAnyOf_22 : decode cX3_seenByAnyOf 22 = .ok (.getfield 17, 3) := by decide +kernel
theorem dX3_seenByAnyOf_25 : decode cX3_seenByAnyOf 25 = .ok (.iload 4, 2) := by decide +kernel
theorem dX3_seenByAnyOf_27 : decode cX3_seenByAnyOf 27 = .ok (.aaload, 1) := by decide +kernel
theorem dX3_seenByAnyOf_28 : decode cX3_seenByAnyOf 28 = .ok (.iload_n 2, 1) := by decide +kernel
theorem dX3_seenByAnyOf_29 : decode cX3_seenByAnyOf 29 = .ok (.iaload, 1) := by decide +kernel
theorem dX3_seenByAnyOf_30 : decode cX3_seenByAnyOf 30 = .ok (.ior, 1) := by decide +kernel
theorem dX3_seenByAnyOf_31 : decode cX3_seenByAnyOf 31 = .ok (.istore_n 3, 1) := by decide +kernel
theorem dX3_seenByAnyOf_32 : decode cX3_seenByAnyOf 32 = .ok (.iinc 4 1, 3) := by decide +kernel
theorem dX3_seenByAnyOf_35 : decode cX3_seenByAnyOf 35 = .ok (.goto (-30), 3) := by decide +kernel
theorem dX3_seenByAnyOf_38 : decode cX3_seenByAnyOf 38 = .ok (.iload_n 3, 1) := by decide +kernel
theorem dX3_seenByAnyOf_39 : decode cX3_seenByAnyOf 39 = .ok (.ireturn, 1) := by decide +kernel
theorem dX3_amountSeenBy_0 : decode cX3_amountSeenBy 0 = .ok (.iconst 0, 1) := by decide +kernel
theorem dX3_amountSeenBy_1 : decode cX3_amountSeenBy 1 = .ok (.istore_n 2, 1) := by decide +kernel
theorem dX3_amountSeenBy_2 : decode cX3_amountSeenBy 2 = .ok (.iconst 0, 1) := by decide +kernel
theorem dX3_amountSeenBy_3 : decode cX3_amountSeenBy 3 = .ok (.istore_n 3, 1) := by decide +kernel
theorem dX3_amountSeenBy_4 : decode cX3_amountSeenBy 4 = .ok (.iload_n 3, 1) := by decide +kernel
theorem dX3_amountSeenBy_5 : decode cX3_amountSeenBy 5 = .ok (.iconst 4, 1) := by decide +kernel
theorem dX3_amountSeenBy_6 : decode cX3_amountSeenBy 6 = .ok (.if_icmp .ge 21, 3) := by decide +kernel
theorem dX3_amountSeenBy_9 : decode cX3_amountSeenBy 9 = .ok (.iload_n 2, 1) := by decide +kernel
theorem dX3_amountSeenBy_10 : decode cX3_amountSeenBy 10 = .ok (.aload_n 0, 1) := by decide +kernel
theorem dX3_amountSeenBy_11 : decode cX3_amountSeenBy 11 = .ok (.iload_n 1, 1) := by decide +kernel
theorem dX3_amountSeenBy_12 : decode cX3_amountSeenBy 12 = .ok (.iload_n 3, 1) := by decide +kernel
theorem dX3_amountSeenBy_13 : decode cX3_amountSeenBy 13 = .ok (.invokevirtual 70, 3) := by decide +kernel
theorem dX3_amountSeenBy_16 : decode cX3_amountSeenBy 16 = .ok (.invokestatic 74, 3) := by decide +kernel
theorem dX3_amountSeenBy_19 : decode cX3_amountSeenBy 19 = .ok (.iadd, 1) := by decide +kernel
theorem dX3_amountSeenBy_20 : decode cX3_amountSeenBy 20 = .ok (.istore_n 2, 1) := by decide +kernel
theorem dX3_amountSeenBy_21 : decode cX3_amountSeenBy 21 = .ok (.iinc 3 1, 3) := by decide +kernel
theorem dX3_amountSeenBy_24 : decode cX3_amountSeenBy 24 = .ok (.goto (-20), 3) := by decide +kernel
theorem dX3_amountSeenBy_27 : decode cX3_amountSeenBy 27 = .ok (.iload_n 2, 1) := by decide +kernel
theorem dX3_amountSeenBy_28 : decode cX3_amountSeenBy 28 = .ok (.ireturn, 1) := by decide +kernel
theorem dX3_amountKnownWith_0 : decode cX3_amountKnownWith 0 = .ok (.aload_n 0, 1) := by decide +kernel
theorem dX3_amountKnownWith_1 : decode cX3_amountKnownWith 1 = .ok (.aload_n 0, 1) := by decide +kernel
theorem dX3_amountKnownWith_2 : decode cX3_amountKnownWith 2 = .ok (.getfield 33, 3) := by decide +kernel
theorem dX3_amountKnownWith_5 : decode cX3_amountKnownWith 5 = .ok (.iload_n 1, 1) := by decide +kernel
theorem dX3_amountKnownWith_6 : decode cX3_amountKnownWith 6 = .ok (.ior, 1) := by decide +kernel
theorem dX3_amountKnownWith_7 : decode cX3_amountKnownWith 7 = .ok (.invokevirtual 80, 3) := by decide +kernel
theorem dX3_amountKnownWith_10 : decode cX3_amountKnownWith 10 = .ok (.ireturn, 1) := by decide +kernel
theorem dX3_tellingOf_0 : decode cX3_tellingOf 0 = .ok (.iconst 0, 1) := by decide +kernel
theorem dX3_tellingOf_1 : decode cX3_tellingOf 1 = .ok (.istore_n 2, 1) := by decide +kernel
theorem dX3_tellingOf_2 : decode cX3_tellingOf 2 = .ok (.iconst 0, 1) := by decide +kernel
theorem dX3_tellingOf_3 : decode cX3_tellingOf 3 = .ok (.istore_n 3, 1) := by decide +kernel
theorem dX3_tellingOf_4 : decode cX3_tellingOf 4 = .ok (.iload_n 3, 1) := by decide +kernel
theorem dX3_tellingOf_5 : decode cX3_tellingOf 5 = .ok (.iconst 4, 1) := by decide +kernel
theorem dX3_tellingOf_6 : decode cX3_tellingOf 6 = .ok (.if_icmp .ge 23, 3) := by decide +kernel
theorem dX3_tellingOf_9 : decode cX3_tellingOf 9 = .ok (.iload_n 2, 1) := by decide +kernel
theorem dX3_tellingOf_10 : decode cX3_tellingOf 10 = .ok (.aload_n 0, 1) := by decide +kernel
theorem dX3_tellingOf_11 : decode cX3_tellingOf 11 = .ok (.getfield 17, 3) := by decide +kernel
theorem dX3_tellingOf_14 : decode cX3_tellingOf 14 = .ok (.iload_n 1, 1) := by decide +kernel
theorem dX3_tellingOf_15 : decode cX3_tellingOf 15 = .ok (.aaload, 1) := by decide +kernel
theorem dX3_tellingOf_16 : decode cX3_tellingOf 16 = .ok (.iload_n 3, 1) := by decide +kernel
theorem dX3_tellingOf_17 : decode cX3_tellingOf 17 = .ok (.iaload, 1) := by decide +kernel
theorem dX3_tellingOf_18 : decode cX3_tellingOf 18 = .ok (.invokestatic 74, 3) := by decide +kernel
theorem dX3_tellingOf_21 : decode cX3_tellingOf 21 = .ok (.iadd, 1) := by decide +kernel
theorem dX3_tellingOf_22 : decode cX3_tellingOf 22 = .ok (.istore_n 2, 1) := by decide +kernel
theorem dX3_tellingOf_23 : decode cX3_tellingOf 23 = .ok (.iinc 3 1, 3) := by decide +kernel
theorem dX3_tellingOf_26 : decode cX3_tellingOf 26 = .ok (.goto (-22), 3) := by decide +kernel
theorem dX3_tellingOf_29 : decode cX3_tellingOf 29 = .ok (.iload_n 2, 1) := by decide +kernel
theorem dX3_tellingOf_30 : decode cX3_tellingOf 30 = .ok (.ireturn, 1) := by decide +kernel
theorem dX3_hoursToAsk_0 : decode cX3_hoursToAsk 0 = .ok (.iconst 0, 1) := by decide +kernel
theorem dX3_hoursToAsk_1 : decode cX3_hoursToAsk 1 = .ok (.istore_n 2, 1) := by decide +kernel
theorem dX3_hoursToAsk_2 : decode cX3_hoursToAsk 2 = .ok (.iconst 0, 1) := by decide +kernel
theorem dX3_hoursToAsk_3 : decode cX3_hoursToAsk 3 = .ok (.istore_n 3, 1) := by decide +kernel
theorem dX3_hoursToAsk_4 : decode cX3_hoursToAsk 4 = .ok (.iload_n 3, 1) := by decide +kernel
theorem dX3_hoursToAsk_5 : decode cX3_hoursToAsk 5 = .ok (.iconst 5, 1) := by decide +kernel
theorem dX3_hoursToAsk_6 : decode cX3_hoursToAsk 6 = .ok (.if_icmp .ge 29, 3) := by decide +kernel
theorem dX3_hoursToAsk_9 : decode cX3_hoursToAsk 9 = .ok (.iload_n 3, 1) := by decide +kernel
theorem dX3_hoursToAsk_10 : decode cX3_hoursToAsk 10 = .ok (.iload_n 1, 1) := by decide +kernel
theorem dX3_hoursToAsk_11 : decode cX3_hoursToAsk 11 = .ok (.invokestatic 55, 3) := by decide +kernel
theorem dX3_hoursToAsk_14 : decode cX3_hoursToAsk 14 = .ok (.ifCond .eq 15, 3) := by decide +kernel
theorem dX3_hoursToAsk_17 : decode cX3_hoursToAsk 17 = .ok (.iload_n 2, 1) := by decide +kernel
theorem dX3_hoursToAsk_18 : decode cX3_hoursToAsk 18 = .ok (.iconst 1, 1) := by decide +kernel
theorem dX3_hoursToAsk_19 : decode cX3_hoursToAsk 19 = .ok (.aload_n 0, 1) := by decide +kernel
theorem dX3_hoursToAsk_20 : decode cX3_hoursToAsk 20 = .ok (.iload_n 3, 1) := by decide +kernel
theorem dX3_hoursToAsk_21 : decode cX3_hoursToAsk 21 = .ok (.invokevirtual 83, 3) := by decide +kernel
theorem dX3_hoursToAsk_24 : decode cX3_hoursToAsk 24 = .ok (.iconst 4, 1) := by decide +kernel
theorem dX3_hoursToAsk_25 : decode cX3_hoursToAsk 25 = .ok (.idiv, 1) := by decide +kernel
theorem dX3_hoursToAsk_26 : decode cX3_hoursToAsk 26 = .ok (.iadd, 1) := by decide +kernel
theorem dX3_hoursToAsk_27 : decode cX3_hoursToAsk 27 = .ok (.iadd, 1) := by decide +kernel
theorem dX3_hoursToAsk_28 : decode cX3_hoursToAsk 28 = .ok (.istore_n 2, 1) := by decide +kernel
theorem dX3_hoursToAsk_29 : decode cX3_hoursToAsk 29 = .ok (.iinc 3 1, 3) := by decide +kernel
theorem dX3_hoursToAsk_32 : decode cX3_hoursToAsk 32 = .ok (.goto (-28), 3) := by decide +kernel
theorem dX3_hoursToAsk_35 : decode cX3_hoursToAsk 35 = .ok (.iload_n 2, 1) := by decide +kernel
theorem dX3_hoursToAsk_36 : decode cX3_hoursToAsk 36 = .ok (.ireturn, 1) := by decide +kernel
theorem dX4_init_0 : decode cX4_init 0 = .ok (.aload_n 0, 1) := by decide +kernel
theorem dX4_init_1 : decode cX4_init 1 = .ok (.invokespecial 3, 3) := by decide +kernel
theorem dX4_init_4 : decode cX4_init 4 = .ok (.aload_n 0, 1) := by decide +kernel
theorem dX4_init_5 : decode cX4_init 5 = .ok (.new 9, 3) := by decide +kernel
theorem dX4_init_8 : decode cX4_init 8 = .ok (.dup, 1) := by decide +kernel
theorem dX4_init_9 : decode cX4_init 9 = .ok (.invokespecial 11, 3) := by decide +kernel
theorem dX4_init_12 : decode cX4_init 12 = .ok (.putfield 12, 3) := by decide +kernel
theorem dX4_init_15 : decode cX4_init 15 = .ok (.aload_n 0, 1) := by decide +kernel
theorem dX4_init_16 : decode cX4_init 16 = .ok (.iconst 4, 1) := by decide +kernel
theorem dX4_init_17 : decode cX4_init 17 = .ok (.newarray .int, 2) := by decide +kernel
theorem dX4_init_19 : decode cX4_init 19 = .ok (.putfield 18, 3) := by decide +kernel
theorem dX4_init_22 : decode cX4_init 22 = .ok (.return_, 1) := by decide +kernel
theorem dX4_readAll_0 : decode cX4_readAll 0 = .ok (.aload_n 0, 1) := by decide +kernel
theorem dX4_readAll_1 : decode cX4_readAll 1 = .ok (.getfield 12, 3) := by decide +kernel
theorem dX4_readAll_4 : decode cX4_readAll 4 = .ok (.invokevirtual 22, 3) := by decide +kernel
theorem dX4_readAll_7 : decode cX4_readAll 7 = .ok (.aload_n 1, 1) := by decide +kernel
theorem dX4_readAll_8 : decode cX4_readAll 8 = .ok (.invokevirtual 25, 3) := by decide +kernel
theorem dX4_readAll_11 : decode cX4_readAll 11 = .ok (.iconst 0, 1) := by decide +kernel
theorem dX4_readAll_12 : decode cX4_readAll 12 = .ok (.istore_n 2, 1) := by decide +kernel
theorem dX4_readAll_13 : decode cX4_readAll 13 = .ok (.iload_n 2, 1) := by decide +kernel
theorem dX4_readAll_14 : decode cX4_readAll 14 = .ok (.sipush 150, 3) := by decide +kernel
theorem dX4_readAll_17 : decode cX4_readAll 17 = .ok (.if_icmp .gt 41, 3) := by decide +kernel
theorem dX4_readAll_20 : decode cX4_readAll 20 = .ok (.aload_n 1, 1) := by decide +kernel
theorem dX4_readAll_21 : decode cX4_readAll 21 = .ok (.invokevirtual 30, 3) := by decide +kernel
theorem dX4_readAll_24 : decode cX4_readAll 24 = .ok (.istore_n 3, 1) := by decide +kernel
theorem dX4_readAll_25 : decode cX4_readAll 25 = .ok (.iload_n 3, 1) := by decide +kernel
theorem dX4_readAll_26 : decode cX4_readAll 26 = .ok (.ifCond .ne 5, 3) := by decide +kernel
theorem dX4_readAll_29 : decode cX4_readAll 29 = .ok (.iload_n 2, 1) := by decide +kernel
theorem dX4_readAll_30 : decode cX4_readAll 30 = .ok (.ireturn, 1) := by decide +kernel
theorem dX4_readAll_31 : decode cX4_readAll 31 = .ok (.iload_n 3, 1) := by decide +kernel
theorem dX4_readAll_32 : decode cX4_readAll 32 = .ok (.iconst 1, 1) := by decide +kernel
theorem dX4_readAll_33 : decode cX4_readAll 33 = .ok (.if_icmp .ne 11, 3) := by decide +kernel
theorem dX4_readAll_36 : decode cX4_readAll 36 = .ok (.aload_n 0, 1) := by decide +kernel
theorem dX4_readAll_37 : decode cX4_readAll 37 = .ok (.aload_n 1, 1) := by decide +kernel
theorem dX4_readAll_38 : decode cX4_readAll 38 = .ok (.invokevirtual 34, 3) := by decide +kernel
theorem dX4_readAll_41 : decode cX4_readAll 41 = .ok (.ifCond .ne 11, 3) := by decide +kernel
theorem dX4_readAll_44 : decode cX4_readAll 44 = .ok (.bipush (-10), 2) := by decide +kernel
theorem dX4_readAll_46 : decode cX4_readAll 46 = .ok (.aload_n 1, 1) := by decide +kernel
theorem dX4_readAll_47 : decode cX4_readAll 47 = .ok (.getfield 38, 3) := by decide +kernel
theorem dX4_readAll_50 : decode cX4_readAll 50 = .ok (.isub, 1) := by decide +kernel
theorem dX4_readAll_51 : decode cX4_readAll 51 = .ok (.ireturn, 1) := by decide +kernel
theorem dX4_readAll_52 : decode cX4_readAll 52 = .ok (.iinc 2 1, 3) := by decide +kernel
theorem dX4_readAll_55 : decode cX4_readAll 55 = .ok (.goto (-42), 3) := by decide +kernel
theorem dX4_readAll_58 : decode cX4_readAll 58 = .ok (.iload_n 2, 1) := by decide +kernel
theorem dX4_readAll_59 : decode cX4_readAll 59 = .ok (.ireturn, 1) := by decide +kernel
theorem dX4_readItem_0 : decode cX4_readItem 0 = .ok (.aload_n 1, 1) := by decide +kernel
theorem dX4_readItem_1 : decode cX4_readItem 1 = .ok (.getfield 42, 3) := by decide +kernel
theorem dX4_readItem_4 : decode cX4_readItem 4 = .ok (.invokestatic 45, 3) := by decide +kernel
theorem dX4_readItem_7 : decode cX4_readItem 7 = .ok (.istore_n 2, 1) := by decide +kernel
theorem dX4_readItem_8 : decode cX4_readItem 8 = .ok (.iload_n 2, 1) := by decide +kernel
theorem dX4_readItem_9 : decode cX4_readItem 9 = .ok (.ifCond .lt 11, 3) := by decide +kernel
theorem dX4_readItem_12 : decode cX4_readItem 12 = .ok (.aload_n 0, 1) := by decide +kernel
theorem dX4_readItem_13 : decode cX4_readItem 13 = .ok (.iload_n 2, 1) := by decide +kernel
theorem dX4_readItem_14 : decode cX4_readItem 14 = .ok (.invokevirtual 49, 3) := by decide +kernel
theorem dX4_readItem_17 : decode cX4_readItem 17 = .ok (.ifCond .ne 5, 3) := by decide +kernel
theorem dX4_readItem_20 : decode cX4_readItem 20 = .ok (.iconst 0, 1) := by decide +kernel
theorem dX4_readItem_21 : decode cX4_readItem 21 = .ok (.ireturn, 1) := by decide +kernel
theorem dX4_readItem_22 : decode cX4_readItem 22 = .ok (.iconst 0, 1) := by decide +kernel
theorem dX4_readItem_23 : decode cX4_readItem 23 = .ok (.istore_n 3, 1) := by decide +kernel
theorem dX4_readItem_24 : decode cX4_readItem 24 = .ok (.iload_n 3, 1) := by decide +kernel
theorem dX4_readItem_25 : decode cX4_readItem 25 = .ok (.getstatic 53, 3) := by decide +kernel
theorem dX4_readItem_28 : decode cX4_readItem 28 = .ok (.iload_n 2, 1) := by decide +kernel
theorem dX4_readItem_29 : decode cX4_readItem 29 = .ok (.iaload, 1) := by decide +kernel
theorem dX4_readItem_30 : decode cX4_readItem 30 = .ok (.if_icmp .ge 44, 3) := by decide +kernel
theorem dX4_readItem_33 : decode cX4_readItem 33 = .ok (.aload_n 1, 1) := by decide +kernel
theorem dX4_readItem_34 : decode cX4_readItem 34 = .ok (.invokevirtual 30, 3) := by decide +kernel
theorem dX4_readItem_37 : decode cX4_readItem 37 = .ok (.iconst 2, 1) := by decide +kernel
theorem dX4_readItem_38 : decode cX4_readItem 38 = .ok (.if_icmp .eq 5, 3) := by decide +kernel
theorem dX4_readItem_41 : decode cX4_readItem 41 = .ok (.iconst 0, 1) := by decide +kernel
theorem dX4_readItem_42 : decode cX4_readItem 42 = .ok (.ireturn, 1) := by decide +kernel
theorem dX4_readItem_43 : decode cX4_readItem 43 = .ok (.aload_n 0, 1) := by decide +kernel
theorem dX4_readItem_44 : decode cX4_readItem 44 = .ok (.iload_n 2, 1) := by decide +kernel
theorem dX4_readItem_45 : decode cX4_readItem 45 = .ok (.iload_n 3, 1) := by decide +kernel
theorem dX4_readItem_46 : decode cX4_readItem 46 = .ok (.aload_n 1, 1) := by decide +kernel
theorem dX4_readItem_47 : decode cX4_readItem 47 = .ok (.getfield 42, 3) := by decide +kernel
theorem dX4_readItem_50 : decode cX4_readItem 50 = .ok (.invokevirtual 56, 3) := by decide +kernel
theorem dX4_readItem_53 : decode cX4_readItem 53 = .ok (.ifCond .ne 5, 3) := by decide +kernel
theorem dX4_readItem_56 : decode cX4_readItem 56 = .ok (.iconst 0, 1) := by decide +kernel
theorem dX4_readItem_57 : decode cX4_readItem 57 = .ok (.ireturn, 1) := by decide +kernel
theorem dX4_readItem_58 : decode cX4_readItem 58 = .ok (.aload_n 0, 1) := by decide +kernel
theorem dX4_readItem_59 : decode cX4_readItem 59 = .ok (.getfield 18, 3) := by decide +kernel
theorem dX4_readItem_62 : decode cX4_readItem 62 = .ok (.iload_n 3, 1) := by decide +kernel
theorem dX4_readItem_63 : decode cX4_readItem 63 = .ok (.aload_n 1, 1) := by decide +kernel
theorem dX4_readItem_64 : decode cX4_readItem 64 = .ok (.getfield 42, 3) := by decide +kernel
theorem dX4_readItem_67 : decode cX4_readItem 67 = .ok (.iastore, 1) := by decide +kernel
theorem dX4_readItem_68 : decode cX4_readItem 68 = .ok (.iinc 3 1, 3) := by decide +kernel
theorem dX4_readItem_71 : decode cX4_readItem 71 = .ok (.goto (-47), 3) := by decide +kernel
theorem dX4_readItem_74 : decode cX4_readItem 74 = .ok (.aload_n 1, 1) := by decide +kernel
theorem dX4_readItem_75 : decode cX4_readItem 75 = .ok (.invokevirtual 30, 3) := by decide +kernel
theorem dX4_readItem_78 : decode cX4_readItem 78 = .ok (.iconst 3, 1) := by decide +kernel
theorem dX4_readItem_79 : decode cX4_readItem 79 = .ok (.if_icmp .eq 5, 3) := by decide +kernel
theorem dX4_readItem_82 : decode cX4_readItem 82 = .ok (.iconst 0, 1) := by decide +kernel
theorem dX4_readItem_83 : decode cX4_readItem 83 = .ok (.ireturn, 1) := by decide +kernel
theorem dX4_readItem_84 : decode cX4_readItem 84 = .ok (.aload_n 0, 1) := by decide +kernel
theorem dX4_readItem_85 : decode cX4_readItem 85 = .ok (.iload_n 2, 1) := by decide +kernel
theorem dX4_readItem_86 : decode cX4_readItem 86 = .ok (.invokevirtual 60, 3) := by decide +kernel
theorem dX4_readItem_89 : decode cX4_readItem 89 = .ok (.iconst 1, 1) := by decide +kernel
theorem dX4_readItem_90 : decode cX4_readItem 90 = .ok (.ireturn, 1) := by decide +kernel
theorem dX4_itemOf_0 : decode cX4_itemOf 0 = .ok (.iconst 0, 1) := by decide +kernel
theorem dX4_itemOf_1 : decode cX4_itemOf 1 = .ok (.istore_n 1, 1) := by decide +kernel
theorem dX4_itemOf_2 : decode cX4_itemOf 2 = .ok (.iload_n 1, 1) := by decide +kernel
theorem dX4_itemOf_3 : decode cX4_itemOf 3 = .ok (.getstatic 64, 3) := by decide +kernel
theorem dX4_itemOf_6 : decode cX4_itemOf 6 = .ok (.arraylength, 1) := by decide +kernel
theorem dX4_itemOf_7 : decode cX4_itemOf 7 = .ok (.if_icmp .ge 20, 3) := by decide +kernel
theorem dX4_itemOf_10 : decode cX4_itemOf 10 = .ok (.getstatic 64, 3) := by decide +kernel
theorem dX4_itemOf_13 : decode cX4_itemOf 13 = .ok (.iload_n 1, 1) := by decide +kernel
theorem dX4_itemOf_14 : decode cX4_itemOf 14 = .ok (.caload, 1) := by decide +kernel
theorem dX4_itemOf_15 : decode cX4_itemOf 15 = .ok (.iload_n 0, 1) := by decide +kernel
theorem dX4_itemOf_16 : decode cX4_itemOf 16 = .ok (.if_icmp .ne 5, 3) := by decide +kernel
theorem dX4_itemOf_19 : decode cX4_itemOf 19 = .ok (.iload_n 1, 1) := by decide +kernel
theorem dX4_itemOf_20 : decode cX4_itemOf 20 = .ok (.ireturn, 1) := by decide +kernel
theorem dX4_itemOf_21 : decode cX4_itemOf 21 = .ok (.iinc 1 1, 3) := by decide +kernel
theorem dX4_itemOf_24 : decode cX4_itemOf 24 = .ok (.goto (-22), 3) := by decide +kernel
theorem dX4_itemOf_27 : decode cX4_itemOf 27 = .ok (.iconst (-1), 1) := by decide +kernel
theorem dX4_itemOf_28 : decode cX4_itemOf 28 = .ok (.ireturn, 1) := by decide +kernel
theorem dX4_hasRoomFor_0 : decode cX4_hasRoomFor 0 = .ok (.iload_n 1, 1) := by decide +kernel
theorem dX4_hasRoomFor_1 : decode cX4_hasRoomFor 1 = .ok (.tableswitch 78 1 3 #[27, 44, 61], 27) := by decide +kernel
theorem dX4_hasRoomFor_28 : decode cX4_hasRoomFor 28 = .ok (.aload_n 0, 1) := by decide +kernel
theorem dX4_hasRoomFor_29 : decode cX4_hasRoomFor 29 = .ok (.getfield 12, 3) := by decide +kernel
theorem dX4_hasRoomFor_32 : decode cX4_hasRoomFor 32 = .ok (.getfield 68, 3) := by decide +kernel
theorem dX4_hasRoomFor_35 : decode cX4_hasRoomFor 35 = .ok (.iconst 5, 1) := by decide +kernel
theorem dX4_hasRoomFor_36 : decode cX4_hasRoomFor 36 = .ok (.if_icmp .ge 7, 3) := by decide +kernel
theorem dX4_hasRoomFor_39 : decode cX4_hasRoomFor 39 = .ok (.iconst 1, 1) := by decide +kernel
theorem dX4_hasRoomFor_40 : decode cX4_hasRoomFor 40 = .ok (.goto 4, 3) := by decide +kernel
theorem dX4_hasRoomFor_43 : decode cX4_hasRoomFor 43 = .ok (.iconst 0, 1) := by decide +kernel
theorem dX4_hasRoomFor_44 : decode cX4_hasRoomFor 44 = .ok (.ireturn, 1) := by decide +kernel
theorem dX4_hasRoomFor_45 : decode cX4_hasRoomFor 45 = .ok (.aload_n 0, 1) := by decide +kernel
theorem dX4_hasRoomFor_46 : decode cX4_hasRoomFor 46 = .ok (.getfield 12, 3) := by decide +kernel
theorem dX4_hasRoomFor_49 : decode cX4_hasRoomFor 49 = .ok (.getfield 71, 3) := by decide +kernel
theorem dX4_hasRoomFor_52 : decode cX4_hasRoomFor 52 = .ok (.iconst 4, 1) := by decide +kernel
theorem dX4_hasRoomFor_53 : decode cX4_hasRoomFor 53 = .ok (.if_icmp .ge 7, 3) := by decide +kernel
theorem dX4_hasRoomFor_56 : decode cX4_hasRoomFor 56 = .ok (.iconst 1, 1) := by decide +kernel
theorem dX4_hasRoomFor_57 : decode cX4_hasRoomFor 57 = .ok (.goto 4, 3) := by decide +kernel
theorem dX4_hasRoomFor_60 : decode cX4_hasRoomFor 60 = .ok (.iconst 0, 1) := by decide +kernel
theorem dX4_hasRoomFor_61 : decode cX4_hasRoomFor 61 = .ok (.ireturn, 1) := by decide +kernel
theorem dX4_hasRoomFor_62 : decode cX4_hasRoomFor 62 = .ok (.aload_n 0, 1) := by decide +kernel
theorem dX4_hasRoomFor_63 : decode cX4_hasRoomFor 63 = .ok (.getfield 12, 3) := by decide +kernel
theorem dX4_hasRoomFor_66 : decode cX4_hasRoomFor 66 = .ok (.getfield 74, 3) := by decide +kernel
theorem dX4_hasRoomFor_69 : decode cX4_hasRoomFor 69 = .ok (.iconst 4, 1) := by decide +kernel
theorem dX4_hasRoomFor_70 : decode cX4_hasRoomFor 70 = .ok (.if_icmp .ge 7, 3) := by decide +kernel
theorem dX4_hasRoomFor_73 : decode cX4_hasRoomFor 73 = .ok (.iconst 1, 1) := by decide +kernel
theorem dX4_hasRoomFor_74 : decode cX4_hasRoomFor 74 = .ok (.goto 4, 3) := by decide +kernel
theorem dX4_hasRoomFor_77 : decode cX4_hasRoomFor 77 = .ok (.iconst 0, 1) := by decide +kernel
theorem dX4_hasRoomFor_78 : decode cX4_hasRoomFor 78 = .ok (.ireturn, 1) := by decide +kernel
theorem dX4_hasRoomFor_79 : decode cX4_hasRoomFor 79 = .ok (.iconst 1, 1) := by decide +kernel
theorem dX4_hasRoomFor_80 : decode cX4_hasRoomFor 80 = .ok (.ireturn, 1) := by decide +kernel
theorem dX4_mayBe_0 : decode cX4_mayBe 0 = .ok (.iload_n 1, 1) := by decide +kernel
theorem dX4_mayBe_1 : decode cX4_mayBe 1 = .ok (.iconst 3, 1) := by decide +kernel
theorem dX4_mayBe_2 : decode cX4_mayBe 2 = .ok (.if_icmp .ne 20, 3) := by decide +kernel
theorem dX4_mayBe_5 : decode cX4_mayBe 5 = .ok (.iload_n 2, 1) := by decide +kernel
theorem dX4_mayBe_6 : decode cX4_mayBe 6 = .ok (.iconst 2, 1) := by decide +kernel
theorem dX4_mayBe_7 : decode cX4_mayBe 7 = .ok (.if_icmp .ne 15, 3) := by decide +kernel
theorem dX4_mayBe_10 : decode cX4_mayBe 10 = .ok (.iload_n 3, 1) := by decide +kernel
theorem dX4_mayBe_11 : decode cX4_mayBe 11 = .ok (.aload_n 0, 1) := by decide +kernel
theorem dX4_mayBe_12 : decode cX4_mayBe 12 = .ok (.getfield 18, 3) := by decide +kernel
theorem dX4_mayBe_15 : decode cX4_mayBe 15 = .ok (.iconst 1, 1) := by decide +kernel
theorem dX4_mayBe_16 : decode cX4_mayBe 16 = .ok (.iaload, 1) := by decide +kernel
theorem dX4_mayBe_17 : decode cX4_mayBe 17 = .ok (.if_icmp .ge 5, 3) := by decide +kernel
theorem dX4_mayBe_20 : decode cX4_mayBe 20 = .ok (.iconst 0, 1) := by decide +kernel
theorem dX4_mayBe_21 : decode cX4_mayBe 21 = .ok (.ireturn, 1) := by decide +kernel
theorem dX4_mayBe_22 : decode cX4_mayBe 22 = .ok (.iload_n 3, 1) := by decide +kernel
theorem dX4_mayBe_23 : decode cX4_mayBe 23 = .ok (.getstatic 77, 3) := by decide +kernel
theorem dX4_mayBe_26 : decode cX4_mayBe 26 = .ok (.iload_n 1, 1) := by decide +kernel
theorem dX4_mayBe_27 : decode cX4_mayBe 27 = .ok (.iconst 4, 1) := by decide +kernel
theorem dX4_mayBe_28 : decode cX4_mayBe 28 = .ok (.imul, 1) := by decide +kernel
theorem dX4_mayBe_29 : decode cX4_mayBe 29 = .ok (.iload_n 2, 1) := by decide +kernel
theorem dX4_mayBe_30 : decode cX4_mayBe 30 = .ok (.iadd, 1) := by decide +kernel
theorem dX4_mayBe_31 : decode cX4_mayBe 31 = .ok (.iaload, 1) := by decide +kernel
theorem dX4_mayBe_32 : decode cX4_mayBe 32 = .ok (.getstatic 80, 3) := by decide +kernel
theorem dX4_mayBe_35 : decode cX4_mayBe 35 = .ok (.iload_n 1, 1) := by decide +kernel
theorem dX4_mayBe_36 : decode cX4_mayBe 36 = .ok (.iconst 4, 1) := by decide +kernel
theorem dX4_mayBe_37 : decode cX4_mayBe 37 = .ok (.imul, 1) := by decide +kernel
theorem dX4_mayBe_38 : decode cX4_mayBe 38 = .ok (.iload_n 2, 1) := by decide +kernel
theorem dX4_mayBe_39 : decode cX4_mayBe 39 = .ok (.iadd, 1) := by decide +kernel
theorem dX4_mayBe_40 : decode cX4_mayBe 40 = .ok (.iaload, 1) := by decide +kernel
theorem dX4_mayBe_41 : decode cX4_mayBe 41 = .ok (.invokestatic 83, 3) := by decide +kernel
theorem dX4_mayBe_44 : decode cX4_mayBe 44 = .ok (.ireturn, 1) := by decide +kernel
theorem dX4_tell_0 : decode cX4_tell 0 = .ok (.iload_n 1, 1) := by decide +kernel
theorem dX4_tell_1 : decode cX4_tell 1 = .ok (.tableswitch 78 0 2 #[27, 50, 64], 27) := by decide +kernel
theorem dX4_tell_28 : decode cX4_tell 28 = .ok (.aload_n 0, 1) := by decide +kernel
theorem dX4_tell_29 : decode cX4_tell 29 = .ok (.getfield 12, 3) := by decide +kernel
theorem dX4_tell_32 : decode cX4_tell 32 = .ok (.getfield 86, 3) := by decide +kernel
theorem dX4_tell_35 : decode cX4_tell 35 = .ok (.aload_n 0, 1) := by decide +kernel
theorem dX4_tell_36 : decode cX4_tell 36 = .ok (.getfield 18, 3) := by decide +kernel
theorem dX4_tell_39 : decode cX4_tell 39 = .ok (.iconst 0, 1) := by decide +kernel
theorem dX4_tell_40 : decode cX4_tell 40 = .ok (.iaload, 1) := by decide +kernel
theorem dX4_tell_41 : decode cX4_tell 41 = .ok (.aload_n 0, 1) := by decide +kernel
theorem dX4_tell_42 : decode cX4_tell 42 = .ok (.getfield 18, 3) := by decide +kernel
theorem dX4_tell_45 : decode cX4_tell 45 = .ok (.iconst 1, 1) := by decide +kernel
theorem dX4_tell_46 : decode cX4_tell 46 = .ok (.iaload, 1) := by decide +kernel
theorem dX4_tell_47 : decode cX4_tell 47 = .ok (.iastore, 1) := by decide +kernel
theorem dX4_tell_48 : decode cX4_tell 48 = .ok (.goto 42, 3) := by decide +kernel
theorem dX4_tell_51 : decode cX4_tell 51 = .ok (.aload_n 0, 1) := by decide +kernel
theorem dX4_tell_52 : decode cX4_tell 52 = .ok (.getfield 12, 3) := by decide +kernel
theorem dX4_tell_55 : decode cX4_tell 55 = .ok (.aload_n 0, 1) := by decide +kernel
theorem dX4_tell_56 : decode cX4_tell 56 = .ok (.getfield 18, 3) := by decide +kernel
theorem dX4_tell_59 : decode cX4_tell 59 = .ok (.invokevirtual 89, 3) := by decide +kernel
theorem dX4_tell_62 : decode cX4_tell 62 = .ok (.goto 28, 3) := by decide +kernel
theorem dX4_tell_65 : decode cX4_tell 65 = .ok (.aload_n 0, 1) := by decide +kernel
theorem dX4_tell_66 : decode cX4_tell 66 = .ok (.getfield 12, 3) := by decide +kernel
theorem dX4_tell_69 : decode cX4_tell 69 = .ok (.aload_n 0, 1) := by decide +kernel
theorem dX4_tell_70 : decode cX4_tell 70 = .ok (.getfield 18, 3) := by decide +kernel
theorem dX4_tell_73 : decode cX4_tell 73 = .ok (.invokevirtual 93, 3) := by decide +kernel
theorem dX4_tell_76 : decode cX4_tell 76 = .ok (.goto 14, 3) := by decide +kernel
theorem dX4_tell_79 : decode cX4_tell 79 = .ok (.aload_n 0, 1) := by decide +kernel
theorem dX4_tell_80 : decode cX4_tell 80 = .ok (.getfield 12, 3) := by decide +kernel
theorem dX4_tell_83 : decode cX4_tell 83 = .ok (.aload_n 0, 1) := by decide +kernel
theorem dX4_tell_84 : decode cX4_tell 84 = .ok (.getfield 18, 3) := by decide +kernel
theorem dX4_tell_87 : decode cX4_tell 87 = .ok (.invokevirtual 96, 3) := by decide +kernel
theorem dX4_tell_90 : decode cX4_tell 90 = .ok (.return_, 1) := by decide +kernel
theorem dX5_init_0 : decode cX5_init 0 = .ok (.aload_n 0, 1) := by decide +kernel
theorem dX5_init_1 : decode cX5_init 1 = .ok (.invokespecial 1, 3) := by decide +kernel
theorem dX5_init_4 : decode cX5_init 4 = .ok (.aload_n 0, 1) := by decide +kernel
theorem dX5_init_5 : decode cX5_init 5 = .ok (.sipush 150, 3) := by decide +kernel
theorem dX5_init_8 : decode cX5_init 8 = .ok (.newarray .int, 2) := by decide +kernel
theorem dX5_init_10 : decode cX5_init 10 = .ok (.putfield 9, 3) := by decide +kernel
theorem dX5_init_13 : decode cX5_init 13 = .ok (.return_, 1) := by decide +kernel
theorem dX5_append_0 : decode cX5_append 0 = .ok (.aload_n 0, 1) := by decide +kernel
theorem dX5_append_1 : decode cX5_append 1 = .ok (.getfield 13, 3) := by decide +kernel
theorem dX5_append_4 : decode cX5_append 4 = .ok (.sipush 150, 3) := by decide +kernel
theorem dX5_append_7 : decode cX5_append 7 = .ok (.if_icmp .lt 5, 3) := by decide +kernel
theorem dX5_append_10 : decode cX5_append 10 = .ok (.iconst 0, 1) := by decide +kernel
theorem dX5_append_11 : decode cX5_append 11 = .ok (.ireturn, 1) := by decide +kernel
theorem dX5_append_12 : decode cX5_append 12 = .ok (.aload_n 0, 1) := by decide +kernel
theorem dX5_append_13 : decode cX5_append 13 = .ok (.getfield 9, 3) := by decide +kernel
theorem dX5_append_16 : decode cX5_append 16 = .ok (.aload_n 0, 1) := by decide +kernel
theorem dX5_append_17 : decode cX5_append 17 = .ok (.getfield 13, 3) := by decide +kernel
theorem dX5_append_20 : decode cX5_append 20 = .ok (.iload_n 1, 1) := by decide +kernel
theorem dX5_append_21 : decode cX5_append 21 = .ok (.iastore, 1) := by decide +kernel
theorem dX5_append_22 : decode cX5_append 22 = .ok (.aload_n 0, 1) := by decide +kernel
theorem dX5_append_23 : decode cX5_append 23 = .ok (.dup, 1) := by decide +kernel
theorem dX5_append_24 : decode cX5_append 24 = .ok (.getfield 13, 3) := by decide +kernel
theorem dX5_append_27 : decode cX5_append 27 = .ok (.iconst 1, 1) := by decide +kernel
theorem dX5_append_28 : decode cX5_append 28 = .ok (.iadd, 1) := by decide +kernel
theorem dX5_append_29 : decode cX5_append 29 = .ok (.putfield 13, 3) := by decide +kernel
theorem dX5_append_32 : decode cX5_append 32 = .ok (.iconst 1, 1) := by decide +kernel
theorem dX5_append_33 : decode cX5_append 33 = .ok (.ireturn, 1) := by decide +kernel
theorem dX5_empty_0 : decode cX5_empty 0 = .ok (.aload_n 0, 1) := by decide +kernel
theorem dX5_empty_1 : decode cX5_empty 1 = .ok (.iconst 0, 1) := by decide +kernel
theorem dX5_empty_2 : decode cX5_empty 2 = .ok (.putfield 13, 3) := by decide +kernel
theorem dX5_empty_5 : decode cX5_empty 5 = .ok (.return_, 1) := by decide +kernel
theorem dX5_rewind_0 : decode cX5_rewind 0 = .ok (.aload_n 0, 1) := by decide +kernel
theorem dX5_rewind_1 : decode cX5_rewind 1 = .ok (.iconst 0, 1) := by decide +kernel
theorem dX5_rewind_2 : decode cX5_rewind 2 = .ok (.putfield 17, 3) := by decide +kernel
theorem dX5_rewind_5 : decode cX5_rewind 5 = .ok (.return_, 1) := by decide +kernel
theorem dX5_nextToken_0 : decode cX5_nextToken 0 = .ok (.aload_n 0, 1) := by decide +kernel
theorem dX5_nextToken_1 : decode cX5_nextToken 1 = .ok (.getfield 17, 3) := by decide +kernel
theorem dX5_nextToken_4 : decode cX5_nextToken 4 = .ok (.aload_n 0, 1) := by decide +kernel
theorem dX5_nextToken_5 : decode cX5_nextToken 5 = .ok (.getfield 13, 3) := by decide +kernel
theorem dX5_nextToken_8 : decode cX5_nextToken 8 = .ok (.if_icmp .ge 30, 3) := by decide +kernel
theorem dX5_nextToken_11 : decode cX5_nextToken 11 = .ok (.aload_n 0, 1) := by decide +kernel
theorem dX5_nextToken_12 : decode cX5_nextToken 12 = .ok (.getfield 9, 3) := by decide +kernel
theorem dX5_nextToken_15 : decode cX5_nextToken 15 = .ok (.aload_n 0, 1) := by decide +kernel
theorem dX5_nextToken_16 : decode cX5_nextToken 16 = .ok (.getfield 17, 3) := by decide +kernel
theorem dX5_nextToken_19 : decode cX5_nextToken 19 = .ok (.iaload, 1) := by decide +kernel
theorem dX5_nextToken_20 : decode cX5_nextToken 20 = .ok (.bipush 32, 2) := by decide +kernel
theorem dX5_nextToken_22 : decode cX5_nextToken 22 = .ok (.if_icmp .ne 16, 3) := by decide +kernel
theorem dX5_nextToken_25 : decode cX5_nextToken 25 = .ok (.aload_n 0, 1) := by decide +kernel
theorem dX5_nextToken_26 : decode cX5_nextToken 26 = .ok (.dup, 1) := by decide +kernel
theorem dX5_nextToken_27 : decode cX5_nextToken 27 = .ok (.getfield 17, 3) := by decide +kernel
theorem dX5_nextToken_30 : decode cX5_nextToken 30 = .ok (.iconst 1, 1) := by decide +kernel
theorem dX5_nextToken_31 : decode cX5_nextToken 31 = .ok (.iadd, 1) := by decide +kernel
theorem dX5_nextToken_32 : decode cX5_nextToken 32 = .ok (.putfield 17, 3) := by decide +kernel
theorem dX5_nextToken_35 : decode cX5_nextToken 35 = .ok (.goto (-35), 3) := by decide +kernel
theorem dX5_nextToken_38 : decode cX5_nextToken 38 = .ok (.aload_n 0, 1) := by decide +kernel
theorem dX5_nextToken_39 : decode cX5_nextToken 39 = .ok (.aload_n 0, 1) := by decide +kernel
theorem dX5_nextToken_40 : decode cX5_nextToken 40 = .ok (.getfield 17, 3) := by decide +kernel
theorem dX5_nextToken_43 : decode cX5_nextToken 43 = .ok (.putfield 20, 3) := by decide +kernel
theorem dX5_nextToken_46 : decode cX5_nextToken 46 = .ok (.aload_n 0, 1) := by decide +kernel
theorem dX5_nextToken_47 : decode cX5_nextToken 47 = .ok (.iconst 0, 1) := by decide +kernel
theorem dX5_nextToken_48 : decode cX5_nextToken 48 = .ok (.putfield 23, 3) := by decide +kernel
theorem dX5_nextToken_51 : decode cX5_nextToken 51 = .ok (.aload_n 0, 1) := by decide +kernel
theorem dX5_nextToken_52 : decode cX5_nextToken 52 = .ok (.getfield 17, 3) := by decide +kernel
theorem dX5_nextToken_55 : decode cX5_nextToken 55 = .ok (.aload_n 0, 1) := by decide +kernel
theorem dX5_nextToken_56 : decode cX5_nextToken 56 = .ok (.getfield 13, 3) := by decide +kernel
theorem dX5_nextToken_59 : decode cX5_nextToken 59 = .ok (.if_icmp .lt 5, 3) := by decide +kernel
theorem dX5_nextToken_62 : decode cX5_nextToken 62 = .ok (.iconst 0, 1) := by decide +kernel
theorem dX5_nextToken_63 : decode cX5_nextToken 63 = .ok (.ireturn, 1) := by decide +kernel
theorem dX5_nextToken_64 : decode cX5_nextToken 64 = .ok (.aload_n 0, 1) := by decide +kernel
theorem dX5_nextToken_65 : decode cX5_nextToken 65 = .ok (.getfield 9, 3) := by decide +kernel
theorem dX5_nextToken_68 : decode cX5_nextToken 68 = .ok (.aload_n 0, 1) := by decide +kernel
theorem dX5_nextToken_69 : decode cX5_nextToken 69 = .ok (.getfield 17, 3) := by decide +kernel
theorem dX5_nextToken_72 : decode cX5_nextToken 72 = .ok (.iaload, 1) := by decide +kernel
theorem dX5_nextToken_73 : decode cX5_nextToken 73 = .ok (.invokestatic 26, 3) := by decide +kernel
theorem dX5_nextToken_76 : decode cX5_nextToken 76 = .ok (.ifCond .eq 8, 3) := by decide +kernel
theorem dX5_nextToken_79 : decode cX5_nextToken 79 = .ok (.aload_n 0, 1) := by decide +kernel
theorem dX5_nextToken_80 : decode cX5_nextToken 80 = .ok (.invokevirtual 30, 3) := by decide +kernel
theorem dX5_nextToken_83 : decode cX5_nextToken 83 = .ok (.ireturn, 1) := by decide +kernel
theorem dX5_nextToken_84 : decode cX5_nextToken 84 = .ok (.aload_n 0, 1) := by decide +kernel
theorem dX5_nextToken_85 : decode cX5_nextToken 85 = .ok (.getfield 9, 3) := by decide +kernel
theorem dX5_nextToken_88 : decode cX5_nextToken 88 = .ok (.aload_n 0, 1) := by decide +kernel
theorem dX5_nextToken_89 : decode cX5_nextToken 89 = .ok (.getfield 17, 3) := by decide +kernel
theorem dX5_nextToken_92 : decode cX5_nextToken 92 = .ok (.iaload, 1) := by decide +kernel
theorem dX5_nextToken_93 : decode cX5_nextToken 93 = .ok (.invokestatic 34, 3) := by decide +kernel
theorem dX5_nextToken_96 : decode cX5_nextToken 96 = .ok (.ifCond .eq 8, 3) := by decide +kernel
theorem dX5_nextToken_99 : decode cX5_nextToken 99 = .ok (.aload_n 0, 1) := by decide +kernel
theorem dX5_nextToken_100 : decode cX5_nextToken 100 = .ok (.invokevirtual 37, 3) := by decide +kernel
theorem dX5_nextToken_103 : decode cX5_nextToken 103 = .ok (.ireturn, 1) := by decide +kernel
theorem dX5_nextToken_104 : decode cX5_nextToken 104 = .ok (.aload_n 0, 1) := by decide +kernel
theorem dX5_nextToken_105 : decode cX5_nextToken 105 = .ok (.getfield 9, 3) := by decide +kernel
theorem dX5_nextToken_108 : decode cX5_nextToken 108 = .ok (.aload_n 0, 1) := by decide +kernel
theorem dX5_nextToken_109 : decode cX5_nextToken 109 = .ok (.getfield 17, 3) := by decide +kernel
theorem dX5_nextToken_112 : decode cX5_nextToken 112 = .ok (.iaload, 1) := by decide +kernel
theorem dX5_nextToken_113 : decode cX5_nextToken 113 = .ok (.bipush 59, 2) := by decide +kernel
theorem dX5_nextToken_115 : decode cX5_nextToken 115 = .ok (.if_icmp .ne 7, 3) := by decide +kernel
theorem dX5_nextToken_118 : decode cX5_nextToken 118 = .ok (.iconst 1, 1) := by decide +kernel
theorem dX5_nextToken_119 : decode cX5_nextToken 119 = .ok (.goto 4, 3) := by decide +kernel
theorem dX5_nextToken_122 : decode cX5_nextToken 122 = .ok (.iconst 0, 1) := by decide +kernel
theorem dX5_nextToken_123 : decode cX5_nextToken 123 = .ok (.istore_n 1, 1) := by decide +kernel
theorem dX5_nextToken_124 : decode cX5_nextToken 124 = .ok (.aload_n 0, 1) := by decide +kernel
theorem dX5_nextToken_125 : decode cX5_nextToken 125 = .ok (.dup, 1) := by decide +kernel
theorem dX5_nextToken_126 : decode cX5_nextToken 126 = .ok (.getfield 17, 3) := by decide +kernel
theorem dX5_nextToken_129 : decode cX5_nextToken 129 = .ok (.iconst 1, 1) := by decide +kernel
theorem dX5_nextToken_130 : decode cX5_nextToken 130 = .ok (.iadd, 1) := by decide +kernel
theorem dX5_nextToken_131 : decode cX5_nextToken 131 = .ok (.putfield 17, 3) := by decide +kernel
theorem dX5_nextToken_134 : decode cX5_nextToken 134 = .ok (.iload_n 1, 1) := by decide +kernel
theorem dX5_nextToken_135 : decode cX5_nextToken 135 = .ok (.ifCond .eq 7, 3) := by decide +kernel
theorem dX5_nextToken_138 : decode cX5_nextToken 138 = .ok (.iconst 3, 1) := by decide +kernel
theorem dX5_nextToken_139 : decode cX5_nextToken 139 = .ok (.goto 4, 3) := by decide +kernel
theorem dX5_nextToken_142 : decode cX5_nextToken 142 = .ok (.iconst 4, 1) := by decide +kernel
theorem dX5_nextToken_143 : decode cX5_nextToken 143 = .ok (.ireturn, 1) := by decide +kernel
theorem dX5_readWord_0 : decode cX5_readWord 0 = .ok (.aload_n 0, 1) := by decide +kernel
theorem dX5_readWord_1 : decode cX5_readWord 1 = .ok (.getfield 9, 3) := by decide +kernel
theorem dX5_readWord_4 : decode cX5_readWord 4 = .ok (.aload_n 0, 1) := by decide +kernel
theorem dX5_readWord_5 : decode cX5_readWord 5 = .ok (.getfield 17, 3) := by decide +kernel
theorem dX5_readWord_8 : decode cX5_readWord 8 = .ok (.iaload, 1) := by decide +kernel
theorem dX5_readWord_9 : decode cX5_readWord 9 = .ok (.istore_n 1, 1) := by decide +kernel
theorem dX5_readWord_10 : decode cX5_readWord 10 = .ok (.aload_n 0, 1) := by decide +kernel
theorem dX5_readWord_11 : decode cX5_readWord 11 = .ok (.getfield 17, 3) := by decide +kernel
theorem dX5_readWord_14 : decode cX5_readWord 14 = .ok (.aload_n 0, 1) := by decide +kernel
theorem dX5_readWord_15 : decode cX5_readWord 15 = .ok (.getfield 13, 3) := by decide +kernel
theorem dX5_readWord_18 : decode cX5_readWord 18 = .ok (.if_icmp .ge 31, 3) := by decide +kernel
theorem dX5_readWord_21 : decode cX5_readWord 21 = .ok (.aload_n 0, 1) := by decide +kernel
theorem dX5_readWord_22 : decode cX5_readWord 22 = .ok (.getfield 9, 3) := by decide +kernel
theorem dX5_readWord_25 : decode cX5_readWord 25 = .ok (.aload_n 0, 1) := by decide +kernel
theorem dX5_readWord_26 : decode cX5_readWord 26 = .ok (.getfield 17, 3) := by decide +kernel
theorem dX5_readWord_29 : decode cX5_readWord 29 = .ok (.iaload, 1) := by decide +kernel
theorem dX5_readWord_30 : decode cX5_readWord 30 = .ok (.invokestatic 26, 3) := by decide +kernel
theorem dX5_readWord_33 : decode cX5_readWord 33 = .ok (.ifCond .eq 16, 3) := by decide +kernel
theorem dX5_readWord_36 : decode cX5_readWord 36 = .ok (.aload_n 0, 1) := by decide +kernel
theorem dX5_readWord_37 : decode cX5_readWord 37 = .ok (.dup, 1) := by decide +kernel
theorem dX5_readWord_38 : decode cX5_readWord 38 = .ok (.getfield 17, 3) := by decide +kernel
theorem dX5_readWord_41 : decode cX5_readWord 41 = .ok (.iconst 1, 1) := by decide +kernel
theorem dX5_readWord_42 : decode cX5_readWord 42 = .ok (.iadd, 1) := by decide +kernel
theorem dX5_readWord_43 : decode cX5_readWord 43 = .ok (.putfield 17, 3) := by decide +kernel
theorem dX5_readWord_46 : decode cX5_readWord 46 = .ok (.goto (-36), 3) := by decide +kernel
theorem dX5_readWord_49 : decode cX5_readWord 49 = .ok (.aload_n 0, 1) := by decide +kernel
theorem dX5_readWord_50 : decode cX5_readWord 50 = .ok (.getfield 17, 3) := by decide +kernel
theorem dX5_readWord_53 : decode cX5_readWord 53 = .ok (.aload_n 0, 1) := by decide +kernel
theorem dX5_readWord_54 : decode cX5_readWord 54 = .ok (.getfield 20, 3) := by decide +kernel
theorem dX5_readWord_57 : decode cX5_readWord 57 = .ok (.isub, 1) := by decide +kernel
theorem dX5_readWord_58 : decode cX5_readWord 58 = .ok (.iconst 1, 1) := by decide +kernel
theorem dX5_readWord_59 : decode cX5_readWord 59 = .ok (.if_icmp .ne 8, 3) := by decide +kernel
theorem dX5_readWord_62 : decode cX5_readWord 62 = .ok (.aload_n 0, 1) := by decide +kernel
theorem dX5_readWord_63 : decode cX5_readWord 63 = .ok (.iload_n 1, 1) := by decide +kernel
theorem dX5_readWord_64 : decode cX5_readWord 64 = .ok (.putfield 23, 3) := by decide +kernel
theorem dX5_readWord_67 : decode cX5_readWord 67 = .ok (.iconst 1, 1) := by decide +kernel
theorem dX5_readWord_68 : decode cX5_readWord 68 = .ok (.ireturn, 1) := by decide +kernel
theorem dX5_readNumber_0 : decode cX5_readNumber 0 = .ok (.aload_n 0, 1) := by decide +kernel
theorem dX5_readNumber_1 : decode cX5_readNumber 1 = .ok (.getfield 9, 3) := by decide +kernel
theorem dX5_readNumber_4 : decode cX5_readNumber 4 = .ok (.aload_n 0, 1) := by decide +kernel
theorem dX5_readNumber_5 : decode cX5_readNumber 5 = .ok (.getfield 17, 3) := by decide +kernel
theorem dX5_readNumber_8 : decode cX5_readNumber 8 = .ok (.iaload, 1) := by decide +kernel
theorem dX5_readNumber_9 : decode cX5_readNumber 9 = .ok (.bipush 48, 2) := by decide +kernel
theorem dX5_readNumber_11 : decode cX5_readNumber 11 = .ok (.if_icmp .ne 7, 3) := by decide +kernel
theorem dX5_readNumber_14 : decode cX5_readNumber 14 = .ok (.iconst 1, 1) := by decide +kernel
theorem dX5_readNumber_15 : decode cX5_readNumber 15 = .ok (.goto 4, 3) := by decide +kernel
theorem dX5_readNumber_18 : decode cX5_readNumber 18 = .ok (.iconst 0, 1) := by decide +kernel
theorem dX5_readNumber_19 : decode cX5_readNumber 19 = .ok (.istore_n 1, 1) := by decide +kernel
theorem dX5_readNumber_20 : decode cX5_readNumber 20 = .ok (.aload_n 0, 1) := by decide +kernel
theorem dX5_readNumber_21 : decode cX5_readNumber 21 = .ok (.getfield 17, 3) := by decide +kernel
theorem dX5_readNumber_24 : decode cX5_readNumber 24 = .ok (.aload_n 0, 1) := by decide +kernel
theorem dX5_readNumber_25 : decode cX5_readNumber 25 = .ok (.getfield 13, 3) := by decide +kernel
theorem dX5_readNumber_28 : decode cX5_readNumber 28 = .ok (.if_icmp .ge 64, 3) := by decide +kernel
theorem dX5_readNumber_31 : decode cX5_readNumber 31 = .ok (.aload_n 0, 1) := by decide +kernel
theorem dX5_readNumber_32 : decode cX5_readNumber 32 = .ok (.getfield 9, 3) := by decide +kernel
theorem dX5_readNumber_35 : decode cX5_readNumber 35 = .ok (.aload_n 0, 1) := by decide +kernel
theorem dX5_readNumber_36 : decode cX5_readNumber 36 = .ok (.getfield 17, 3) := by decide +kernel
theorem dX5_readNumber_39 : decode cX5_readNumber 39 = .ok (.iaload, 1) := by decide +kernel
theorem dX5_readNumber_40 : decode cX5_readNumber 40 = .ok (.invokestatic 34, 3) := by decide +kernel
theorem dX5_readNumber_43 : decode cX5_readNumber 43 = .ok (.ifCond .eq 49, 3) := by decide +kernel
theorem dX5_readNumber_46 : decode cX5_readNumber 46 = .ok (.aload_n 0, 1) := by decide +kernel
theorem dX5_readNumber_47 : decode cX5_readNumber 47 = .ok (.getfield 23, 3) := by decide +kernel
theorem dX5_readNumber_50 : decode cX5_readNumber 50 = .ok (.bipush 99, 2) := by decide +kernel
theorem dX5_readNumber_52 : decode cX5_readNumber 52 = .ok (.if_icmp .gt 27, 3) := by decide +kernel
theorem dX5_readNumber_55 : decode cX5_readNumber 55 = .ok (.aload_n 0, 1) := by decide +kernel
theorem dX5_readNumber_56 : decode cX5_readNumber 56 = .ok (.aload_n 0, 1) := by decide +kernel
theorem dX5_readNumber_57 : decode cX5_readNumber 57 = .ok (.getfield 23, 3) := by decide +kernel
theorem dX5_readNumber_60 : decode cX5_readNumber 60 = .ok (.bipush 10, 2) := by decide +kernel
theorem dX5_readNumber_62 : decode cX5_readNumber 62 = .ok (.imul, 1) := by decide +kernel
theorem dX5_readNumber_63 : decode cX5_readNumber 63 = .ok (.aload_n 0, 1) := by decide +kernel
theorem dX5_readNumber_64 : decode cX5_readNumber 64 = .ok (.getfield 9, 3) := by decide +kernel
theorem dX5_readNumber_67 : decode cX5_readNumber 67 = .ok (.aload_n 0, 1) := by decide +kernel
theorem dX5_readNumber_68 : decode cX5_readNumber 68 = .ok (.getfield 17, 3) := by decide +kernel
theorem dX5_readNumber_71 : decode cX5_readNumber 71 = .ok (.iaload, 1) := by decide +kernel
theorem dX5_readNumber_72 : decode cX5_readNumber 72 = .ok (.iadd, 1) := by decide +kernel
theorem dX5_readNumber_73 : decode cX5_readNumber 73 = .ok (.bipush 48, 2) := by decide +kernel
theorem dX5_readNumber_75 : decode cX5_readNumber 75 = .ok (.isub, 1) := by decide +kernel
theorem dX5_readNumber_76 : decode cX5_readNumber 76 = .ok (.putfield 23, 3) := by decide +kernel
theorem dX5_readNumber_79 : decode cX5_readNumber 79 = .ok (.aload_n 0, 1) := by decide +kernel
theorem dX5_readNumber_80 : decode cX5_readNumber 80 = .ok (.dup, 1) := by decide +kernel
theorem dX5_readNumber_81 : decode cX5_readNumber 81 = .ok (.getfield 17, 3) := by decide +kernel
theorem dX5_readNumber_84 : decode cX5_readNumber 84 = .ok (.iconst 1, 1) := by decide +kernel
theorem dX5_readNumber_85 : decode cX5_readNumber 85 = .ok (.iadd, 1) := by decide +kernel
theorem dX5_readNumber_86 : decode cX5_readNumber 86 = .ok (.putfield 17, 3) := by decide +kernel
theorem dX5_readNumber_89 : decode cX5_readNumber 89 = .ok (.goto (-69), 3) := by decide +kernel
theorem dX5_readNumber_92 : decode cX5_readNumber 92 = .ok (.iload_n 1, 1) := by decide +kernel
theorem dX5_readNumber_93 : decode cX5_readNumber 93 = .ok (.ifCond .eq 18, 3) := by decide +kernel
theorem dX5_readNumber_96 : decode cX5_readNumber 96 = .ok (.aload_n 0, 1) := by decide +kernel
theorem dX5_readNumber_97 : decode cX5_readNumber 97 = .ok (.getfield 17, 3) := by decide +kernel
theorem dX5_readNumber_100 : decode cX5_readNumber 100 = .ok (.aload_n 0, 1) := by decide +kernel
theorem dX5_readNumber_101 : decode cX5_readNumber 101 = .ok (.getfield 20, 3) := by decide +kernel
theorem dX5_readNumber_104 : decode cX5_readNumber 104 = .ok (.isub, 1) := by decide +kernel
theorem dX5_readNumber_105 : decode cX5_readNumber 105 = .ok (.iconst 1, 1) := by decide +kernel
theorem dX5_readNumber_106 : decode cX5_readNumber 106 = .ok (.if_icmp .le 5, 3) := by decide +kernel
theorem dX5_readNumber_109 : decode cX5_readNumber 109 = .ok (.iconst 4, 1) := by decide +kernel
theorem dX5_readNumber_110 : decode cX5_readNumber 110 = .ok (.ireturn, 1) := by decide +kernel
theorem dX5_readNumber_111 : decode cX5_readNumber 111 = .ok (.aload_n 0, 1) := by decide +kernel
theorem dX5_readNumber_112 : decode cX5_readNumber 112 = .ok (.getfield 23, 3) := by decide +kernel
theorem dX5_readNumber_115 : decode cX5_readNumber 115 = .ok (.bipush 99, 2) := by decide +kernel
theorem dX5_readNumber_117 : decode cX5_readNumber 117 = .ok (.if_icmp .le 7, 3) := by decide +kernel
theorem dX5_readNumber_120 : decode cX5_readNumber 120 = .ok (.iconst 4, 1) := by decide +kernel
theorem dX5_readNumber_121 : decode cX5_readNumber 121 = .ok (.goto 4, 3) := by decide +kernel
theorem dX5_readNumber_124 : decode cX5_readNumber 124 = .ok (.iconst 2, 1) := by decide +kernel
theorem dX5_readNumber_125 : decode cX5_readNumber 125 = .ok (.ireturn, 1) := by decide +kernel
theorem dX5_isLetter_0 : decode cX5_isLetter 0 = .ok (.bipush 97, 2) := by decide +kernel
theorem dX5_isLetter_2 : decode cX5_isLetter 2 = .ok (.iload_n 0, 1) := by decide +kernel
theorem dX5_isLetter_3 : decode cX5_isLetter 3 = .ok (.if_icmp .gt 13, 3) := by decide +kernel
theorem dX5_isLetter_6 : decode cX5_isLetter 6 = .ok (.iload_n 0, 1) := by decide +kernel
theorem dX5_isLetter_7 : decode cX5_isLetter 7 = .ok (.bipush 122, 2) := by decide +kernel
theorem dX5_isLetter_9 : decode cX5_isLetter 9 = .ok (.if_icmp .gt 7, 3) := by decide +kernel
theorem dX5_isLetter_12 : decode cX5_isLetter 12 = .ok (.iconst 1, 1) := by decide +kernel
theorem dX5_isLetter_13 : decode cX5_isLetter 13 = .ok (.goto 4, 3) := by decide +kernel
theorem dX5_isLetter_16 : decode cX5_isLetter 16 = .ok (.iconst 0, 1) := by decide +kernel
theorem dX5_isLetter_17 : decode cX5_isLetter 17 = .ok (.ireturn, 1) := by decide +kernel
theorem dX5_isDigit_0 : decode cX5_isDigit 0 = .ok (.bipush 48, 2) := by decide +kernel
theorem dX5_isDigit_2 : decode cX5_isDigit 2 = .ok (.iload_n 0, 1) := by decide +kernel
theorem dX5_isDigit_3 : decode cX5_isDigit 3 = .ok (.if_icmp .gt 13, 3) := by decide +kernel
