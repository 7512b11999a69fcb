theorem dX0_init_0 : decode cX0_init 0 = .ok (.aload_n 0, 1) := by decide +kernel
theorem dX0_init_1 : decode cX0_init 1 = .ok (.invokespecial 3, 3) := by decide +kernel
theorem dX0_init_4 : decode cX0_init 4 = .ok (.aload_n 0, 1) := by decide +kernel
theorem dX0_init_5 : decode cX0_init 5 = .ok (.iconst 4, 1) := by decide +kernel
theorem dX0_init_6 : decode cX0_init 6 = .ok (.newarray .int, 2) := by decide +kernel
theorem dX0_init_8 : decode cX0_init 8 = .ok (.putfield 9, 3) := by decide +kernel
theorem dX0_init_11 : decode cX0_init 11 = .ok (.aload_n 0, 1) := by decide +kernel
theorem dX0_init_12 : decode cX0_init 12 = .ok (.iconst 4, 1) := by decide +kernel
theorem dX0_init_13 : decode cX0_init 13 = .ok (.newarray .int, 2) := by decide +kernel
theorem dX0_init_15 : decode cX0_init 15 = .ok (.putfield 15, 3) := by decide +kernel
theorem dX0_init_18 : decode cX0_init 18 = .ok (.aload_n 0, 1) := by decide +kernel
theorem dX0_init_19 : decode cX0_init 19 = .ok (.bipush 12, 2) := by decide +kernel
theorem dX0_init_21 : decode cX0_init 21 = .ok (.newarray .int, 2) := by decide +kernel
theorem dX0_init_23 : decode cX0_init 23 = .ok (.putfield 18, 3) := by decide +kernel
theorem dX0_init_26 : decode cX0_init 26 = .ok (.aload_n 0, 1) := by decide +kernel
theorem dX0_init_27 : decode cX0_init 27 = .ok (.bipush 12, 2) := by decide +kernel
theorem dX0_init_29 : decode cX0_init 29 = .ok (.newarray .int, 2) := by decide +kernel
theorem dX0_init_31 : decode cX0_init 31 = .ok (.putfield 21, 3) := by decide +kernel
theorem dX0_init_34 : decode cX0_init 34 = .ok (.return_, 1) := by decide +kernel
theorem dX0_makeNew_0 : decode cX0_makeNew 0 = .ok (.aload_n 0, 1) := by decide +kernel
theorem dX0_makeNew_1 : decode cX0_makeNew 1 = .ok (.iload_n 1, 1) := by decide +kernel
theorem dX0_makeNew_2 : decode cX0_makeNew 2 = .ok (.putfield 24, 3) := by decide +kernel
theorem dX0_makeNew_5 : decode cX0_makeNew 5 = .ok (.aload_n 0, 1) := by decide +kernel
theorem dX0_makeNew_6 : decode cX0_makeNew 6 = .ok (.iconst (-1), 1) := by decide +kernel
theorem dX0_makeNew_7 : decode cX0_makeNew 7 = .ok (.putfield 28, 3) := by decide +kernel
theorem dX0_makeNew_10 : decode cX0_makeNew 10 = .ok (.aload_n 0, 1) := by decide +kernel
theorem dX0_makeNew_11 : decode cX0_makeNew 11 = .ok (.iconst 0, 1) := by decide +kernel
theorem dX0_makeNew_12 : decode cX0_makeNew 12 = .ok (.putfield 31, 3) := by decide +kernel
theorem dX0_makeNew_15 : decode cX0_makeNew 15 = .ok (.aload_n 0, 1) := by decide +kernel
theorem dX0_makeNew_16 : decode cX0_makeNew 16 = .ok (.iconst 0, 1) := by decide +kernel
theorem dX0_makeNew_17 : decode cX0_makeNew 17 = .ok (.putfield 35, 3) := by decide +kernel
theorem dX0_makeNew_20 : decode cX0_makeNew 20 = .ok (.iconst 0, 1) := by decide +kernel
theorem dX0_makeNew_21 : decode cX0_makeNew 21 = .ok (.istore_n 2, 1) := by decide +kernel
theorem dX0_makeNew_22 : decode cX0_makeNew 22 = .ok (.iload_n 2, 1) := by decide +kernel
theorem dX0_makeNew_23 : decode cX0_makeNew 23 = .ok (.iconst 4, 1) := by decide +kernel
theorem dX0_makeNew_24 : decode cX0_makeNew 24 = .ok (.if_icmp .ge 23, 3) := by decide +kernel
theorem dX0_makeNew_27 : decode cX0_makeNew 27 = .ok (.aload_n 0, 1) := by decide +kernel
theorem dX0_makeNew_28 : decode cX0_makeNew 28 = .ok (.getfield 9, 3) := by decide +kernel
theorem dX0_makeNew_31 : decode cX0_makeNew 31 = .ok (.iload_n 2, 1) := by decide +kernel
theorem dX0_makeNew_32 : decode cX0_makeNew 32 = .ok (.iconst 0, 1) := by decide +kernel
theorem dX0_makeNew_33 : decode cX0_makeNew 33 = .ok (.iastore, 1) := by decide +kernel
theorem dX0_makeNew_34 : decode cX0_makeNew 34 = .ok (.aload_n 0, 1) := by decide +kernel
theorem dX0_makeNew_35 : decode cX0_makeNew 35 = .ok (.getfield 15, 3) := by decide +kernel
theorem dX0_makeNew_38 : decode cX0_makeNew 38 = .ok (.iload_n 2, 1) := by decide +kernel
theorem dX0_makeNew_39 : decode cX0_makeNew 39 = .ok (.iconst 0, 1) := by decide +kernel
theorem dX0_makeNew_40 : decode cX0_makeNew 40 = .ok (.iastore, 1) := by decide +kernel
theorem dX0_makeNew_41 : decode cX0_makeNew 41 = .ok (.iinc 2 1, 3) := by decide +kernel
theorem dX0_makeNew_44 : decode cX0_makeNew 44 = .ok (.goto (-22), 3) := by decide +kernel
theorem dX0_makeNew_47 : decode cX0_makeNew 47 = .ok (.iconst 0, 1) := by decide +kernel
theorem dX0_makeNew_48 : decode cX0_makeNew 48 = .ok (.istore_n 2, 1) := by decide +kernel
theorem dX0_makeNew_49 : decode cX0_makeNew 49 = .ok (.iload_n 2, 1) := by decide +kernel
theorem dX0_makeNew_50 : decode cX0_makeNew 50 = .ok (.bipush 12, 2) := by decide +kernel
theorem dX0_makeNew_52 : decode cX0_makeNew 52 = .ok (.if_icmp .ge 24, 3) := by decide +kernel
theorem dX0_makeNew_55 : decode cX0_makeNew 55 = .ok (.aload_n 0, 1) := by decide +kernel
theorem dX0_makeNew_56 : decode cX0_makeNew 56 = .ok (.getfield 18, 3) := by decide +kernel
theorem dX0_makeNew_59 : decode cX0_makeNew 59 = .ok (.iload_n 2, 1) := by decide +kernel
theorem dX0_makeNew_60 : decode cX0_makeNew 60 = .ok (.bipush (-2), 2) := by decide +kernel
theorem dX0_makeNew_62 : decode cX0_makeNew 62 = .ok (.iastore, 1) := by decide +kernel
theorem dX0_makeNew_63 : decode cX0_makeNew 63 = .ok (.aload_n 0, 1) := by decide +kernel
theorem dX0_makeNew_64 : decode cX0_makeNew 64 = .ok (.getfield 21, 3) := by decide +kernel
theorem dX0_makeNew_67 : decode cX0_makeNew 67 = .ok (.iload_n 2, 1) := by decide +kernel
theorem dX0_makeNew_68 : decode cX0_makeNew 68 = .ok (.iconst 0, 1) := by decide +kernel
theorem dX0_makeNew_69 : decode cX0_makeNew 69 = .ok (.iastore, 1) := by decide +kernel
theorem dX0_makeNew_70 : decode cX0_makeNew 70 = .ok (.iinc 2 1, 3) := by decide +kernel
theorem dX0_makeNew_73 : decode cX0_makeNew 73 = .ok (.goto (-24), 3) := by decide +kernel
theorem dX0_makeNew_76 : decode cX0_makeNew 76 = .ok (.return_, 1) := by decide +kernel
theorem dX0_copyFrom_0 : decode cX0_copyFrom 0 = .ok (.aload_n 0, 1) := by decide +kernel
theorem dX0_copyFrom_1 : decode cX0_copyFrom 1 = .ok (.aload_n 1, 1) := by decide +kernel
theorem dX0_copyFrom_2 : decode cX0_copyFrom 2 = .ok (.getfield 24, 3) := by decide +kernel
theorem dX0_copyFrom_5 : decode cX0_copyFrom 5 = .ok (.putfield 24, 3) := by decide +kernel
theorem dX0_copyFrom_8 : decode cX0_copyFrom 8 = .ok (.aload_n 0, 1) := by decide +kernel
theorem dX0_copyFrom_9 : decode cX0_copyFrom 9 = .ok (.aload_n 1, 1) := by decide +kernel
theorem dX0_copyFrom_10 : decode cX0_copyFrom 10 = .ok (.getfield 28, 3) := by decide +kernel
theorem dX0_copyFrom_13 : decode cX0_copyFrom 13 = .ok (.putfield 28, 3) := by decide +kernel
theorem dX0_copyFrom_16 : decode cX0_copyFrom 16 = .ok (.aload_n 0, 1) := by decide +kernel
theorem dX0_copyFrom_17 : decode cX0_copyFrom 17 = .ok (.aload_n 1, 1) := by decide +kernel
theorem dX0_copyFrom_18 : decode cX0_copyFrom 18 = .ok (.getfield 31, 3) := by decide +kernel
theorem dX0_copyFrom_21 : decode cX0_copyFrom 21 = .ok (.putfield 31, 3) := by decide +kernel
theorem dX0_copyFrom_24 : decode cX0_copyFrom 24 = .ok (.aload_n 0, 1) := by decide +kernel
theorem dX0_copyFrom_25 : decode cX0_copyFrom 25 = .ok (.aload_n 1, 1) := by decide +kernel
theorem dX0_copyFrom_26 : decode cX0_copyFrom 26 = .ok (.getfield 35, 3) := by decide +kernel
theorem dX0_copyFrom_29 : decode cX0_copyFrom 29 = .ok (.putfield 35, 3) := by decide +kernel
theorem dX0_copyFrom_32 : decode cX0_copyFrom 32 = .ok (.aload_n 1, 1) := by decide +kernel
theorem dX0_copyFrom_33 : decode cX0_copyFrom 33 = .ok (.getfield 9, 3) := by decide +kernel
theorem dX0_copyFrom_36 : decode cX0_copyFrom 36 = .ok (.iconst 0, 1) := by decide +kernel
theorem dX0_copyFrom_37 : decode cX0_copyFrom 37 = .ok (.aload_n 0, 1) := by decide +kernel
theorem dX0_copyFrom_38 : decode cX0_copyFrom 38 = .ok (.getfield 9, 3) := by decide +kernel
theorem dX0_copyFrom_41 : decode cX0_copyFrom 41 = .ok (.iconst 0, 1) := by decide +kernel
theorem dX0_copyFrom_42 : decode cX0_copyFrom 42 = .ok (.iconst 4, 1) := by decide +kernel
theorem dX0_copyFrom_43 : decode cX0_copyFrom 43 = .ok (.invokestatic 38, 3) := by decide +kernel
theorem dX0_copyFrom_46 : decode cX0_copyFrom 46 = .ok (.aload_n 1, 1) := by decide +kernel
theorem dX0_copyFrom_47 : decode cX0_copyFrom 47 = .ok (.getfield 15, 3) := by decide +kernel
theorem dX0_copyFrom_50 : decode cX0_copyFrom 50 = .ok (.iconst 0, 1) := by decide +kernel
theorem dX0_copyFrom_51 : decode cX0_copyFrom 51 = .ok (.aload_n 0, 1) := by decide +kernel
theorem dX0_copyFrom_52 : decode cX0_copyFrom 52 = .ok (.getfield 15, 3) := by decide +kernel
theorem dX0_copyFrom_55 : decode cX0_copyFrom 55 = .ok (.iconst 0, 1) := by decide +kernel
theorem dX0_copyFrom_56 : decode cX0_copyFrom 56 = .ok (.iconst 4, 1) := by decide +kernel
theorem dX0_copyFrom_57 : decode cX0_copyFrom 57 = .ok (.invokestatic 38, 3) := by decide +kernel
theorem dX0_copyFrom_60 : decode cX0_copyFrom 60 = .ok (.aload_n 1, 1) := by decide +kernel
theorem dX0_copyFrom_61 : decode cX0_copyFrom 61 = .ok (.getfield 18, 3) := by decide +kernel
theorem dX0_copyFrom_64 : decode cX0_copyFrom 64 = .ok (.iconst 0, 1) := by decide +kernel
theorem dX0_copyFrom_65 : decode cX0_copyFrom 65 = .ok (.aload_n 0, 1) := by decide +kernel
theorem dX0_copyFrom_66 : decode cX0_copyFrom 66 = .ok (.getfield 18, 3) := by decide +kernel
theorem dX0_copyFrom_69 : decode cX0_copyFrom 69 = .ok (.iconst 0, 1) := by decide +kernel
theorem dX0_copyFrom_70 : decode cX0_copyFrom 70 = .ok (.bipush 12, 2) := by decide +kernel
theorem dX0_copyFrom_72 : decode cX0_copyFrom 72 = .ok (.invokestatic 38, 3) := by decide +kernel
theorem dX0_copyFrom_75 : decode cX0_copyFrom 75 = .ok (.aload_n 1, 1) := by decide +kernel
theorem dX0_copyFrom_76 : decode cX0_copyFrom 76 = .ok (.getfield 21, 3) := by decide +kernel
theorem dX0_copyFrom_79 : decode cX0_copyFrom 79 = .ok (.iconst 0, 1) := by decide +kernel
theorem dX0_copyFrom_80 : decode cX0_copyFrom 80 = .ok (.aload_n 0, 1) := by decide +kernel
theorem dX0_copyFrom_81 : decode cX0_copyFrom 81 = .ok (.getfield 21, 3) := by decide +kernel
theorem dX0_copyFrom_84 : decode cX0_copyFrom 84 = .ok (.iconst 0, 1) := by decide +kernel
theorem dX0_copyFrom_85 : decode cX0_copyFrom 85 = .ok (.bipush 12, 2) := by decide +kernel
theorem dX0_copyFrom_87 : decode cX0_copyFrom 87 = .ok (.invokestatic 38, 3) := by decide +kernel
theorem dX0_copyFrom_90 : decode cX0_copyFrom 90 = .ok (.return_, 1) := by decide +kernel
theorem dX0_partRow_0 : decode cX0_partRow 0 = .ok (.iload_n 1, 1) := by decide +kernel
theorem dX0_partRow_1 : decode cX0_partRow 1 = .ok (.ifCond .eq 10, 3) := by decide +kernel
theorem dX0_partRow_4 : decode cX0_partRow 4 = .ok (.aload_n 0, 1) := by decide +kernel
theorem dX0_partRow_5 : decode cX0_partRow 5 = .ok (.getfield 9, 3) := by decide +kernel
theorem dX0_partRow_8 : decode cX0_partRow 8 = .ok (.goto 7, 3) := by decide +kernel
theorem dX0_partRow_11 : decode cX0_partRow 11 = .ok (.aload_n 0, 1) := by decide +kernel
theorem dX0_partRow_12 : decode cX0_partRow 12 = .ok (.getfield 15, 3) := by decide +kernel
theorem dX0_partRow_15 : decode cX0_partRow 15 = .ok (.areturn, 1) := by decide +kernel
theorem dX0_isTracking_0 : decode cX0_isTracking 0 = .ok (.aload_n 0, 1) := by decide +kernel
theorem dX0_isTracking_1 : decode cX0_isTracking 1 = .ok (.getfield 31, 3) := by decide +kernel
theorem dX0_isTracking_4 : decode cX0_isTracking 4 = .ok (.ifCond .ne 18, 3) := by decide +kernel
theorem dX0_isTracking_7 : decode cX0_isTracking 7 = .ok (.aload_n 0, 1) := by decide +kernel
theorem dX0_isTracking_8 : decode cX0_isTracking 8 = .ok (.getfield 18, 3) := by decide +kernel
theorem dX0_isTracking_11 : decode cX0_isTracking 11 = .ok (.iload_n 1, 1) := by decide +kernel
theorem dX0_isTracking_12 : decode cX0_isTracking 12 = .ok (.iaload, 1) := by decide +kernel
theorem dX0_isTracking_13 : decode cX0_isTracking 13 = .ok (.bipush (-2), 2) := by decide +kernel
theorem dX0_isTracking_15 : decode cX0_isTracking 15 = .ok (.if_icmp .ne 7, 3) := by decide +kernel
theorem dX0_isTracking_18 : decode cX0_isTracking 18 = .ok (.iconst 1, 1) := by decide +kernel
theorem dX0_isTracking_19 : decode cX0_isTracking 19 = .ok (.goto 4, 3) := by decide +kernel
theorem dX0_isTracking_22 : decode cX0_isTracking 22 = .ok (.iconst 0, 1) := by decide +kernel
theorem dX0_isTracking_23 : decode cX0_isTracking 23 = .ok (.ireturn, 1) := by decide +kernel
theorem dX0_instructionCount_0 : decode cX0_instructionCount 0 = .ok (.iconst 0, 1) := by decide +kernel
theorem dX0_instructionCount_1 : decode cX0_instructionCount 1 = .ok (.istore_n 1, 1) := by decide +kernel
theorem dX0_instructionCount_2 : decode cX0_instructionCount 2 = .ok (.iconst 0, 1) := by decide +kernel
theorem dX0_instructionCount_3 : decode cX0_instructionCount 3 = .ok (.istore_n 2, 1) := by decide +kernel
theorem dX0_instructionCount_4 : decode cX0_instructionCount 4 = .ok (.iload_n 2, 1) := by decide +kernel
theorem dX0_instructionCount_5 : decode cX0_instructionCount 5 = .ok (.bipush 12, 2) := by decide +kernel
theorem dX0_instructionCount_7 : decode cX0_instructionCount 7 = .ok (.if_icmp .ge 23, 3) := by decide +kernel
theorem dX0_instructionCount_10 : decode cX0_instructionCount 10 = .ok (.aload_n 0, 1) := by decide +kernel
theorem dX0_instructionCount_11 : decode cX0_instructionCount 11 = .ok (.getfield 18, 3) := by decide +kernel
theorem dX0_instructionCount_14 : decode cX0_instructionCount 14 = .ok (.iload_n 2, 1) := by decide +kernel
theorem dX0_instructionCount_15 : decode cX0_instructionCount 15 = .ok (.iaload, 1) := by decide +kernel
theorem dX0_instructionCount_16 : decode cX0_instructionCount 16 = .ok (.bipush (-2), 2) := by decide +kernel
theorem dX0_instructionCount_18 : decode cX0_instructionCount 18 = .ok (.if_icmp .eq 6, 3) := by decide +kernel
theorem dX0_instructionCount_21 : decode cX0_instructionCount 21 = .ok (.iinc 1 1, 3) := by decide +kernel
theorem dX0_instructionCount_24 : decode cX0_instructionCount 24 = .ok (.iinc 2 1, 3) := by decide +kernel
theorem dX0_instructionCount_27 : decode cX0_instructionCount 27 = .ok (.goto (-23), 3) := by decide +kernel
theorem dX0_instructionCount_30 : decode cX0_instructionCount 30 = .ok (.iload_n 1, 1) := by decide +kernel
theorem dX0_instructionCount_31 : decode cX0_instructionCount 31 = .ok (.ireturn, 1) := by decide +kernel
theorem dX0_partFor_0 : decode cX0_partFor 0 = .ok (.aload_n 0, 1) := by decide +kernel
theorem dX0_partFor_1 : decode cX0_partFor 1 = .ok (.getfield 18, 3) := by decide +kernel
theorem dX0_partFor_4 : decode cX0_partFor 4 = .ok (.iload_n 1, 1) := by decide +kernel
theorem dX0_partFor_5 : decode cX0_partFor 5 = .ok (.iaload, 1) := by decide +kernel
theorem dX0_partFor_6 : decode cX0_partFor 6 = .ok (.bipush (-2), 2) := by decide +kernel
theorem dX0_partFor_8 : decode cX0_partFor 8 = .ok (.if_icmp .ne 7, 3) := by decide +kernel
theorem dX0_partFor_11 : decode cX0_partFor 11 = .ok (.iconst 0, 1) := by decide +kernel
theorem dX0_partFor_12 : decode cX0_partFor 12 = .ok (.goto 9, 3) := by decide +kernel
theorem dX0_partFor_15 : decode cX0_partFor 15 = .ok (.aload_n 0, 1) := by decide +kernel
theorem dX0_partFor_16 : decode cX0_partFor 16 = .ok (.getfield 21, 3) := by decide +kernel
theorem dX0_partFor_19 : decode cX0_partFor 19 = .ok (.iload_n 1, 1) := by decide +kernel
theorem dX0_partFor_20 : decode cX0_partFor 20 = .ok (.iaload, 1) := by decide +kernel
theorem dX0_partFor_21 : decode cX0_partFor 21 = .ok (.ireturn, 1) := by decide +kernel
theorem dX1_init_0 : decode cX1_init 0 = .ok (.aload_n 0, 1) := by decide +kernel
theorem dX1_init_1 : decode cX1_init 1 = .ok (.invokespecial 3, 3) := by decide +kernel
theorem dX1_init_4 : decode cX1_init 4 = .ok (.aload_n 0, 1) := by decide +kernel
theorem dX1_init_5 : decode cX1_init 5 = .ok (.bipush 12, 2) := by decide +kernel
theorem dX1_init_7 : decode cX1_init 7 = .ok (.anewarray 9, 3) := by decide +kernel
theorem dX1_init_10 : decode cX1_init 10 = .ok (.putfield 11, 3) := by decide +kernel
theorem dX1_init_13 : decode cX1_init 13 = .ok (.aload_n 0, 1) := by decide +kernel
theorem dX1_init_14 : decode cX1_init 14 = .ok (.bipush 12, 2) := by decide +kernel
theorem dX1_init_16 : decode cX1_init 16 = .ok (.newarray .int, 2) := by decide +kernel
theorem dX1_init_18 : decode cX1_init 18 = .ok (.putfield 17, 3) := by decide +kernel
theorem dX1_init_21 : decode cX1_init 21 = .ok (.aload_n 0, 1) := by decide +kernel
theorem dX1_init_22 : decode cX1_init 22 = .ok (.bipush 60, 2) := by decide +kernel
theorem dX1_init_24 : decode cX1_init 24 = .ok (.newarray .int, 2) := by decide +kernel
theorem dX1_init_26 : decode cX1_init 26 = .ok (.putfield 21, 3) := by decide +kernel
theorem dX1_init_29 : decode cX1_init 29 = .ok (.aload_n 0, 1) := by decide +kernel
theorem dX1_init_30 : decode cX1_init 30 = .ok (.bipush 60, 2) := by decide +kernel
theorem dX1_init_32 : decode cX1_init 32 = .ok (.newarray .int, 2) := by decide +kernel
theorem dX1_init_34 : decode cX1_init 34 = .ok (.putfield 24, 3) := by decide +kernel
theorem dX1_init_37 : decode cX1_init 37 = .ok (.aload_n 0, 1) := by decide +kernel
theorem dX1_init_38 : decode cX1_init 38 = .ok (.bipush 12, 2) := by decide +kernel
theorem dX1_init_40 : decode cX1_init 40 = .ok (.newarray .int, 2) := by decide +kernel
theorem dX1_init_42 : decode cX1_init 42 = .ok (.putfield 27, 3) := by decide +kernel
theorem dX1_init_45 : decode cX1_init 45 = .ok (.iconst 0, 1) := by decide +kernel
theorem dX1_init_46 : decode cX1_init 46 = .ok (.istore_n 1, 1) := by decide +kernel
theorem dX1_init_47 : decode cX1_init 47 = .ok (.iload_n 1, 1) := by decide +kernel
theorem dX1_init_48 : decode cX1_init 48 = .ok (.bipush 12, 2) := by decide +kernel
theorem dX1_init_50 : decode cX1_init 50 = .ok (.if_icmp .ge 22, 3) := by decide +kernel
theorem dX1_init_53 : decode cX1_init 53 = .ok (.aload_n 0, 1) := by decide +kernel
theorem dX1_init_54 : decode cX1_init 54 = .ok (.getfield 11, 3) := by decide +kernel
theorem dX1_init_57 : decode cX1_init 57 = .ok (.iload_n 1, 1) := by decide +kernel
theorem dX1_init_58 : decode cX1_init 58 = .ok (.new 9, 3) := by decide +kernel
theorem dX1_init_61 : decode cX1_init 61 = .ok (.dup, 1) := by decide +kernel
theorem dX1_init_62 : decode cX1_init 62 = .ok (.invokespecial 30, 3) := by decide +kernel
theorem dX1_init_65 : decode cX1_init 65 = .ok (.aastore, 1) := by decide +kernel
theorem dX1_init_66 : decode cX1_init 66 = .ok (.iinc 1 1, 3) := by decide +kernel
theorem dX1_init_69 : decode cX1_init 69 = .ok (.goto (-22), 3) := by decide +kernel
theorem dX1_init_72 : decode cX1_init 72 = .ok (.return_, 1) := by decide +kernel
theorem dX1_makeNew_0 : decode cX1_makeNew 0 = .ok (.aload_n 0, 1) := by decide +kernel
theorem dX1_makeNew_1 : decode cX1_makeNew 1 = .ok (.iconst 0, 1) := by decide +kernel
theorem dX1_makeNew_2 : decode cX1_makeNew 2 = .ok (.putfield 31, 3) := by decide +kernel
theorem dX1_makeNew_5 : decode cX1_makeNew 5 = .ok (.aload_n 0, 1) := by decide +kernel
theorem dX1_makeNew_6 : decode cX1_makeNew 6 = .ok (.iconst 0, 1) := by decide +kernel
theorem dX1_makeNew_7 : decode cX1_makeNew 7 = .ok (.putfield 35, 3) := by decide +kernel
theorem dX1_makeNew_10 : decode cX1_makeNew 10 = .ok (.iconst 0, 1) := by decide +kernel
theorem dX1_makeNew_11 : decode cX1_makeNew 11 = .ok (.istore_n 1, 1) := by decide +kernel
theorem dX1_makeNew_12 : decode cX1_makeNew 12 = .ok (.iload_n 1, 1) := by decide +kernel
theorem dX1_makeNew_13 : decode cX1_makeNew 13 = .ok (.bipush 12, 2) := by decide +kernel
theorem dX1_makeNew_15 : decode cX1_makeNew 15 = .ok (.if_icmp .ge 16, 3) := by decide +kernel
theorem dX1_makeNew_18 : decode cX1_makeNew 18 = .ok (.aload_n 0, 1) := by decide +kernel
theorem dX1_makeNew_19 : decode cX1_makeNew 19 = .ok (.getfield 17, 3) := by decide +kernel
theorem dX1_makeNew_22 : decode cX1_makeNew 22 = .ok (.iload_n 1, 1) := by decide +kernel
theorem dX1_makeNew_23 : decode cX1_makeNew 23 = .ok (.iconst 0, 1) := by decide +kernel
theorem dX1_makeNew_24 : decode cX1_makeNew 24 = .ok (.iastore, 1) := by decide +kernel
theorem dX1_makeNew_25 : decode cX1_makeNew 25 = .ok (.iinc 1 1, 3) := by decide +kernel
theorem dX1_makeNew_28 : decode cX1_makeNew 28 = .ok (.goto (-16), 3) := by decide +kernel
theorem dX1_makeNew_31 : decode cX1_makeNew 31 = .ok (.return_, 1) := by decide +kernel
theorem dX1_copyFrom_0 : decode cX1_copyFrom 0 = .ok (.aload_n 0, 1) := by decide +kernel
theorem dX1_copyFrom_1 : decode cX1_copyFrom 1 = .ok (.aload_n 1, 1) := by decide +kernel
theorem dX1_copyFrom_2 : decode cX1_copyFrom 2 = .ok (.getfield 31, 3) := by decide +kernel
theorem dX1_copyFrom_5 : decode cX1_copyFrom 5 = .ok (.putfield 31, 3) := by decide +kernel
theorem dX1_copyFrom_8 : decode cX1_copyFrom 8 = .ok (.iconst 0, 1) := by decide +kernel
theorem dX1_copyFrom_9 : decode cX1_copyFrom 9 = .ok (.istore_n 2, 1) := by decide +kernel
theorem dX1_copyFrom_10 : decode cX1_copyFrom 10 = .ok (.iload_n 2, 1) := by decide +kernel
theorem dX1_copyFrom_11 : decode cX1_copyFrom 11 = .ok (.aload_n 0, 1) := by decide +kernel
theorem dX1_copyFrom_12 : decode cX1_copyFrom 12 = .ok (.getfield 31, 3) := by decide +kernel
theorem dX1_copyFrom_15 : decode cX1_copyFrom 15 = .ok (.if_icmp .ge 24, 3) := by decide +kernel
theorem dX1_copyFrom_18 : decode cX1_copyFrom 18 = .ok (.aload_n 0, 1) := by decide +kernel
theorem dX1_copyFrom_19 : decode cX1_copyFrom 19 = .ok (.getfield 11, 3) := by decide +kernel
theorem dX1_copyFrom_22 : decode cX1_copyFrom 22 = .ok (.iload_n 2, 1) := by decide +kernel
theorem dX1_copyFrom_23 : decode cX1_copyFrom 23 = .ok (.aaload, 1) := by decide +kernel
theorem dX1_copyFrom_24 : decode cX1_copyFrom 24 = .ok (.aload_n 1, 1) := by decide +kernel
theorem dX1_copyFrom_25 : decode cX1_copyFrom 25 = .ok (.getfield 11, 3) := by decide +kernel
theorem dX1_copyFrom_28 : decode cX1_copyFrom 28 = .ok (.iload_n 2, 1) := by decide +kernel
theorem dX1_copyFrom_29 : decode cX1_copyFrom 29 = .ok (.aaload, 1) := by decide +kernel
theorem dX1_copyFrom_30 : decode cX1_copyFrom 30 = .ok (.invokevirtual 38, 3) := by decide +kernel
theorem dX1_copyFrom_33 : decode cX1_copyFrom 33 = .ok (.iinc 2 1, 3) := by decide +kernel
theorem dX1_copyFrom_36 : decode cX1_copyFrom 36 = .ok (.goto (-26), 3) := by decide +kernel
theorem dX1_copyFrom_39 : decode cX1_copyFrom 39 = .ok (.aload_n 1, 1) := by decide +kernel
theorem dX1_copyFrom_40 : decode cX1_copyFrom 40 = .ok (.getfield 17, 3) := by decide +kernel
theorem dX1_copyFrom_43 : decode cX1_copyFrom 43 = .ok (.iconst 0, 1) := by decide +kernel
theorem dX1_copyFrom_44 : decode cX1_copyFrom 44 = .ok (.aload_n 0, 1) := by decide +kernel
theorem dX1_copyFrom_45 : decode cX1_copyFrom 45 = .ok (.getfield 17, 3) := by decide +kernel
theorem dX1_copyFrom_48 : decode cX1_copyFrom 48 = .ok (.iconst 0, 1) := by decide +kernel
theorem dX1_copyFrom_49 : decode cX1_copyFrom 49 = .ok (.bipush 12, 2) := by decide +kernel
theorem dX1_copyFrom_51 : decode cX1_copyFrom 51 = .ok (.invokestatic 42, 3) := by decide +kernel
theorem dX1_copyFrom_54 : decode cX1_copyFrom 54 = .ok (.aload_n 1, 1) := by decide +kernel
theorem dX1_copyFrom_55 : decode cX1_copyFrom 55 = .ok (.getfield 21, 3) := by decide +kernel
theorem dX1_copyFrom_58 : decode cX1_copyFrom 58 = .ok (.iconst 0, 1) := by decide +kernel
theorem dX1_copyFrom_59 : decode cX1_copyFrom 59 = .ok (.aload_n 0, 1) := by decide +kernel
theorem dX1_copyFrom_60 : decode cX1_copyFrom 60 = .ok (.getfield 21, 3) := by decide +kernel
theorem dX1_copyFrom_63 : decode cX1_copyFrom 63 = .ok (.iconst 0, 1) := by decide +kernel
theorem dX1_copyFrom_64 : decode cX1_copyFrom 64 = .ok (.bipush 60, 2) := by decide +kernel
theorem dX1_copyFrom_66 : decode cX1_copyFrom 66 = .ok (.invokestatic 42, 3) := by decide +kernel
theorem dX1_copyFrom_69 : decode cX1_copyFrom 69 = .ok (.aload_n 1, 1) := by decide +kernel
theorem dX1_copyFrom_70 : decode cX1_copyFrom 70 = .ok (.getfield 24, 3) := by decide +kernel
theorem dX1_copyFrom_73 : decode cX1_copyFrom 73 = .ok (.iconst 0, 1) := by decide +kernel
theorem dX1_copyFrom_74 : decode cX1_copyFrom 74 = .ok (.aload_n 0, 1) := by decide +kernel
theorem dX1_copyFrom_75 : decode cX1_copyFrom 75 = .ok (.getfield 24, 3) := by decide +kernel
theorem dX1_copyFrom_78 : decode cX1_copyFrom 78 = .ok (.iconst 0, 1) := by decide +kernel
theorem dX1_copyFrom_79 : decode cX1_copyFrom 79 = .ok (.bipush 60, 2) := by decide +kernel
theorem dX1_copyFrom_81 : decode cX1_copyFrom 81 = .ok (.invokestatic 42, 3) := by decide +kernel
theorem dX1_copyFrom_84 : decode cX1_copyFrom 84 = .ok (.aload_n 0, 1) := by decide +kernel
theorem dX1_copyFrom_85 : decode cX1_copyFrom 85 = .ok (.aload_n 1, 1) := by decide +kernel
theorem dX1_copyFrom_86 : decode cX1_copyFrom 86 = .ok (.getfield 35, 3) := by decide +kernel
theorem dX1_copyFrom_89 : decode cX1_copyFrom 89 = .ok (.putfield 35, 3) := by decide +kernel
theorem dX1_copyFrom_92 : decode cX1_copyFrom 92 = .ok (.return_, 1) := by decide +kernel
theorem dX1_indexOf_0 : decode cX1_indexOf 0 = .ok (.iconst 0, 1) := by decide +kernel
theorem dX1_indexOf_1 : decode cX1_indexOf 1 = .ok (.istore_n 2, 1) := by decide +kernel
theorem dX1_indexOf_2 : decode cX1_indexOf 2 = .ok (.iload_n 2, 1) := by decide +kernel
theorem dX1_indexOf_3 : decode cX1_indexOf 3 = .ok (.aload_n 0, 1) := by decide +kernel
theorem dX1_indexOf_4 : decode cX1_indexOf 4 = .ok (.getfield 31, 3) := by decide +kernel
theorem dX1_indexOf_7 : decode cX1_indexOf 7 = .ok (.if_icmp .ge 24, 3) := by decide +kernel
theorem dX1_indexOf_10 : decode cX1_indexOf 10 = .ok (.aload_n 0, 1) := by decide +kernel
theorem dX1_indexOf_11 : decode cX1_indexOf 11 = .ok (.getfield 11, 3) := by decide +kernel
theorem dX1_indexOf_14 : decode cX1_indexOf 14 = .ok (.iload_n 2, 1) := by decide +kernel
theorem dX1_indexOf_15 : decode cX1_indexOf 15 = .ok (.aaload, 1) := by decide +kernel
theorem dX1_indexOf_16 : decode cX1_indexOf 16 = .ok (.getfield 48, 3) := by decide +kernel
theorem dX1_indexOf_19 : decode cX1_indexOf 19 = .ok (.iload_n 1, 1) := by decide +kernel
theorem dX1_indexOf_20 : decode cX1_indexOf 20 = .ok (.if_icmp .ne 5, 3) := by decide +kernel
theorem dX1_indexOf_23 : decode cX1_indexOf 23 = .ok (.iload_n 2, 1) := by decide +kernel
theorem dX1_indexOf_24 : decode cX1_indexOf 24 = .ok (.ireturn, 1) := by decide +kernel
theorem dX1_indexOf_25 : decode cX1_indexOf 25 = .ok (.iinc 2 1, 3) := by decide +kernel
theorem dX1_indexOf_28 : decode cX1_indexOf 28 = .ok (.goto (-26), 3) := by decide +kernel
theorem dX1_indexOf_31 : decode cX1_indexOf 31 = .ok (.iconst (-1), 1) := by decide +kernel
theorem dX1_indexOf_32 : decode cX1_indexOf 32 = .ok (.ireturn, 1) := by decide +kernel
theorem dX1_levelMeant_0 : decode cX1_levelMeant 0 = .ok (.iload_n 1, 1) := by decide +kernel
theorem dX1_levelMeant_1 : decode cX1_levelMeant 1 = .ok (.ifCond .lt 7, 3) := by decide +kernel
theorem dX1_levelMeant_4 : decode cX1_levelMeant 4 = .ok (.iload_n 1, 1) := by decide +kernel
theorem dX1_levelMeant_5 : decode cX1_levelMeant 5 = .ok (.goto 9, 3) := by decide +kernel
theorem dX1_levelMeant_8 : decode cX1_levelMeant 8 = .ok (.aload_n 0, 1) := by decide +kernel
theorem dX1_levelMeant_9 : decode cX1_levelMeant 9 = .ok (.getfield 17, 3) := by decide +kernel
theorem dX1_levelMeant_12 : decode cX1_levelMeant 12 = .ok (.iload_n 2, 1) := by decide +kernel
theorem dX1_levelMeant_13 : decode cX1_levelMeant 13 = .ok (.iaload, 1) := by decide +kernel
theorem dX1_levelMeant_14 : decode cX1_levelMeant 14 = .ok (.ireturn, 1) := by decide +kernel
theorem dX1_levelIn_0 : decode cX1_levelIn 0 = .ok (.iload_n 1, 1) := by decide +kernel
theorem dX1_levelIn_1 : decode cX1_levelIn 1 = .ok (.istore_n 3, 1) := by decide +kernel
theorem dX1_levelIn_2 : decode cX1_levelIn 2 = .ok (.iload_n 3, 1) := by decide +kernel
theorem dX1_levelIn_3 : decode cX1_levelIn 3 = .ok (.ifCond .lt 39, 3) := by decide +kernel
theorem dX1_levelIn_6 : decode cX1_levelIn 6 = .ok (.aload_n 0, 1) := by decide +kernel
theorem dX1_levelIn_7 : decode cX1_levelIn 7 = .ok (.getfield 11, 3) := by decide +kernel
theorem dX1_levelIn_10 : decode cX1_levelIn 10 = .ok (.iload_n 3, 1) := by decide +kernel
theorem dX1_levelIn_11 : decode cX1_levelIn 11 = .ok (.aaload, 1) := by decide +kernel
theorem dX1_levelIn_12 : decode cX1_levelIn 12 = .ok (.iload_n 2, 1) := by decide +kernel
theorem dX1_levelIn_13 : decode cX1_levelIn 13 = .ok (.invokevirtual 51, 3) := by decide +kernel
theorem dX1_levelIn_16 : decode cX1_levelIn 16 = .ok (.ifCond .ne 20, 3) := by decide +kernel
theorem dX1_levelIn_19 : decode cX1_levelIn 19 = .ok (.aload_n 0, 1) := by decide +kernel
theorem dX1_levelIn_20 : decode cX1_levelIn 20 = .ok (.aload_n 0, 1) := by decide +kernel
theorem dX1_levelIn_21 : decode cX1_levelIn 21 = .ok (.getfield 11, 3) := by decide +kernel
theorem dX1_levelIn_24 : decode cX1_levelIn 24 = .ok (.iload_n 3, 1) := by decide +kernel
theorem dX1_levelIn_25 : decode cX1_levelIn 25 = .ok (.aaload, 1) := by decide +kernel
theorem dX1_levelIn_26 : decode cX1_levelIn 26 = .ok (.getfield 55, 3) := by decide +kernel
theorem dX1_levelIn_29 : decode cX1_levelIn 29 = .ok (.iload_n 2, 1) := by decide +kernel
theorem dX1_levelIn_30 : decode cX1_levelIn 30 = .ok (.iaload, 1) := by decide +kernel
theorem dX1_levelIn_31 : decode cX1_levelIn 31 = .ok (.iload_n 2, 1) := by decide +kernel
theorem dX1_levelIn_32 : decode cX1_levelIn 32 = .ok (.invokevirtual 58, 3) := by decide +kernel
theorem dX1_levelIn_35 : decode cX1_levelIn 35 = .ok (.ireturn, 1) := by decide +kernel
theorem dX1_levelIn_36 : decode cX1_levelIn 36 = .ok (.iinc 3 (-1), 3) := by decide +kernel
theorem dX1_levelIn_39 : decode cX1_levelIn 39 = .ok (.goto (-37), 3) := by decide +kernel
theorem dX1_levelIn_42 : decode cX1_levelIn 42 = .ok (.aload_n 0, 1) := by decide +kernel
theorem dX1_levelIn_43 : decode cX1_levelIn 43 = .ok (.getfield 17, 3) := by decide +kernel
theorem dX1_levelIn_46 : decode cX1_levelIn 46 = .ok (.iload_n 2, 1) := by decide +kernel
theorem dX1_levelIn_47 : decode cX1_levelIn 47 = .ok (.iaload, 1) := by decide +kernel
theorem dX1_levelIn_48 : decode cX1_levelIn 48 = .ok (.ireturn, 1) := by decide +kernel
theorem dX1_levelBefore_0 : decode cX1_levelBefore 0 = .ok (.aload_n 0, 1) := by decide +kernel
theorem dX1_levelBefore_1 : decode cX1_levelBefore 1 = .ok (.iload_n 1, 1) := by decide +kernel
theorem dX1_levelBefore_2 : decode cX1_levelBefore 2 = .ok (.iconst 1, 1) := by decide +kernel
theorem dX1_levelBefore_3 : decode cX1_levelBefore 3 = .ok (.isub, 1) := by decide +kernel
theorem dX1_levelBefore_4 : decode cX1_levelBefore 4 = .ok (.iload_n 2, 1) := by decide +kernel
theorem dX1_levelBefore_5 : decode cX1_levelBefore 5 = .ok (.invokevirtual 62, 3) := by decide +kernel
theorem dX1_levelBefore_8 : decode cX1_levelBefore 8 = .ok (.ireturn, 1) := by decide +kernel
theorem dX1_levelFromFirst_0 : decode cX1_levelFromFirst 0 = .ok (.aload_n 0, 1) := by decide +kernel
theorem dX1_levelFromFirst_1 : decode cX1_levelFromFirst 1 = .ok (.getfield 17, 3) := by decide +kernel
theorem dX1_levelFromFirst_4 : decode cX1_levelFromFirst 4 = .ok (.iload_n 2, 1) := by decide +kernel
theorem dX1_levelFromFirst_5 : decode cX1_levelFromFirst 5 = .ok (.iaload, 1) := by decide +kernel
theorem dX1_levelFromFirst_6 : decode cX1_levelFromFirst 6 = .ok (.istore_n 3, 1) := by decide +kernel
theorem dX1_levelFromFirst_7 : decode cX1_levelFromFirst 7 = .ok (.iconst 0, 1) := by decide +kernel
theorem dX1_levelFromFirst_8 : decode cX1_levelFromFirst 8 = .ok (.istore 4, 2) := by decide +kernel
theorem dX1_levelFromFirst_10 : decode cX1_levelFromFirst 10 = .ok (.iload 4, 2) := by decide +kernel
theorem dX1_levelFromFirst_12 : decode cX1_levelFromFirst 12 = .ok (.iload_n 1, 1) := by decide +kernel
theorem dX1_levelFromFirst_13 : decode cX1_levelFromFirst 13 = .ok (.if_icmp .gt 60, 3) := by decide +kernel
theorem dX1_levelFromFirst_16 : decode cX1_levelFromFirst 16 = .ok (.aload_n 0, 1) := by decide +kernel
theorem dX1_levelFromFirst_17 : decode cX1_levelFromFirst 17 = .ok (.getfield 11, 3) := by decide +kernel
theorem dX1_levelFromFirst_20 : decode cX1_levelFromFirst 20 = .ok (.iload 4, 2) := by decide +kernel
theorem dX1_levelFromFirst_22 : decode cX1_levelFromFirst 22 = .ok (.aaload, 1) := by decide +kernel
theorem dX1_levelFromFirst_23 : decode cX1_levelFromFirst 23 = .ok (.getfield 55, 3) := by decide +kernel
theorem dX1_levelFromFirst_26 : decode cX1_levelFromFirst 26 = .ok (.iload_n 2, 1) := by decide +kernel
theorem dX1_levelFromFirst_27 : decode cX1_levelFromFirst 27 = .ok (.iaload, 1) := by decide +kernel
theorem dX1_levelFromFirst_28 : decode cX1_levelFromFirst 28 = .ok (.istore 5, 2) := by decide +kernel
theorem dX1_levelFromFirst_30 : decode cX1_levelFromFirst 30 = .ok (.iload 5, 2) := by decide +kernel
theorem dX1_levelFromFirst_32 : decode cX1_levelFromFirst 32 = .ok (.ifCond .lt 9, 3) := by decide +kernel
theorem dX1_levelFromFirst_35 : decode cX1_levelFromFirst 35 = .ok (.iload 5, 2) := by decide +kernel
theorem dX1_levelFromFirst_37 : decode cX1_levelFromFirst 37 = .ok (.istore_n 3, 1) := by decide +kernel
theorem dX1_levelFromFirst_38 : decode cX1_levelFromFirst 38 = .ok (.goto 29, 3) := by decide +kernel
theorem dX1_levelFromFirst_41 : decode cX1_levelFromFirst 41 = .ok (.iload 5, 2) := by decide +kernel
theorem dX1_levelFromFirst_43 : decode cX1_levelFromFirst 43 = .ok (.iconst (-1), 1) := by decide +kernel
theorem dX1_levelFromFirst_44 : decode cX1_levelFromFirst 44 = .ok (.if_icmp .eq 16, 3) := by decide +kernel
theorem dX1_levelFromFirst_47 : decode cX1_levelFromFirst 47 = .ok (.aload_n 0, 1) := by decide +kernel
theorem dX1_levelFromFirst_48 : decode cX1_levelFromFirst 48 = .ok (.getfield 11, 3) := by decide +kernel
theorem dX1_levelFromFirst_51 : decode cX1_levelFromFirst 51 = .ok (.iload 4, 2) := by decide +kernel
theorem dX1_levelFromFirst_53 : decode cX1_levelFromFirst 53 = .ok (.aaload, 1) := by decide +kernel
theorem dX1_levelFromFirst_54 : decode cX1_levelFromFirst 54 = .ok (.getfield 65, 3) := by decide +kernel
theorem dX1_levelFromFirst_57 : decode cX1_levelFromFirst 57 = .ok (.ifCond .eq 10, 3) := by decide +kernel
theorem dX1_levelFromFirst_60 : decode cX1_levelFromFirst 60 = .ok (.aload_n 0, 1) := by decide +kernel
theorem dX1_levelFromFirst_61 : decode cX1_levelFromFirst 61 = .ok (.getfield 17, 3) := by decide +kernel
theorem dX1_levelFromFirst_64 : decode cX1_levelFromFirst 64 = .ok (.iload_n 2, 1) := by decide +kernel
theorem dX1_levelFromFirst_65 : decode cX1_levelFromFirst 65 = .ok (.iaload, 1) := by decide +kernel
theorem dX1_levelFromFirst_66 : decode cX1_levelFromFirst 66 = .ok (.istore_n 3, 1) := by decide +kernel
theorem dX1_levelFromFirst_67 : decode cX1_levelFromFirst 67 = .ok (.iinc 4 1, 3) := by decide +kernel
theorem dX1_levelFromFirst_70 : decode cX1_levelFromFirst 70 = .ok (.goto (-60), 3) := by decide +kernel
theorem dX1_levelFromFirst_73 : decode cX1_levelFromFirst 73 = .ok (.iload_n 3, 1) := by decide +kernel
theorem dX1_levelFromFirst_74 : decode cX1_levelFromFirst 74 = .ok (.ireturn, 1) := by decide +kernel
theorem dX1_sourceIndex_0 : decode cX1_sourceIndex 0 = .ok (.iload_n 1, 1) := by decide +kernel
theorem dX1_sourceIndex_1 : decode cX1_sourceIndex 1 = .ok (.istore_n 3, 1) := by decide +kernel
theorem dX1_sourceIndex_2 : decode cX1_sourceIndex 2 = .ok (.iload_n 3, 1) := by decide +kernel
theorem dX1_sourceIndex_3 : decode cX1_sourceIndex 3 = .ok (.ifCond .le 24, 3) := by decide +kernel
theorem dX1_sourceIndex_6 : decode cX1_sourceIndex 6 = .ok (.aload_n 0, 1) := by decide +kernel
theorem dX1_sourceIndex_7 : decode cX1_sourceIndex 7 = .ok (.getfield 11, 3) := by decide +kernel
theorem dX1_sourceIndex_10 : decode cX1_sourceIndex 10 = .ok (.iload_n 3, 1) := by decide +kernel
theorem dX1_sourceIndex_11 : decode cX1_sourceIndex 11 = .ok (.aaload, 1) := by decide +kernel
theorem dX1_sourceIndex_12 : decode cX1_sourceIndex 12 = .ok (.iload_n 2, 1) := by decide +kernel
theorem dX1_sourceIndex_13 : decode cX1_sourceIndex 13 = .ok (.invokevirtual 51, 3) := by decide +kernel
theorem dX1_sourceIndex_16 : decode cX1_sourceIndex 16 = .ok (.ifCond .ne 5, 3) := by decide +kernel
theorem dX1_sourceIndex_19 : decode cX1_sourceIndex 19 = .ok (.iload_n 3, 1) := by decide +kernel
theorem dX1_sourceIndex_20 : decode cX1_sourceIndex 20 = .ok (.ireturn, 1) := by decide +kernel
theorem dX1_sourceIndex_21 : decode cX1_sourceIndex 21 = .ok (.iinc 3 (-1), 3) := by decide +kernel
theorem dX1_sourceIndex_24 : decode cX1_sourceIndex 24 = .ok (.goto (-22), 3) := by decide +kernel
theorem dX1_sourceIndex_27 : decode cX1_sourceIndex 27 = .ok (.iconst 0, 1) := by decide +kernel
theorem dX1_sourceIndex_28 : decode cX1_sourceIndex 28 = .ok (.ireturn, 1) := by decide +kernel
theorem dX1_isMoving_0 : decode cX1_isMoving 0 = .ok (.aload_n 0, 1) := by decide +kernel
theorem dX1_isMoving_1 : decode cX1_isMoving 1 = .ok (.iload_n 1, 1) := by decide +kernel
theorem dX1_isMoving_2 : decode cX1_isMoving 2 = .ok (.iload_n 2, 1) := by decide +kernel
theorem dX1_isMoving_3 : decode cX1_isMoving 3 = .ok (.invokevirtual 62, 3) := by decide +kernel
theorem dX1_isMoving_6 : decode cX1_isMoving 6 = .ok (.aload_n 0, 1) := by decide +kernel
theorem dX1_isMoving_7 : decode cX1_isMoving 7 = .ok (.iload_n 1, 1) := by decide +kernel
theorem dX1_isMoving_8 : decode cX1_isMoving 8 = .ok (.iload_n 2, 1) := by decide +kernel
theorem dX1_isMoving_9 : decode cX1_isMoving 9 = .ok (.invokevirtual 69, 3) := by decide +kernel
theorem dX1_isMoving_12 : decode cX1_isMoving 12 = .ok (.if_icmp .eq 7, 3) := by decide +kernel
theorem dX1_isMoving_15 : decode cX1_isMoving 15 = .ok (.iconst 1, 1) := by decide +kernel
theorem dX1_isMoving_16 : decode cX1_isMoving 16 = .ok (.goto 4, 3) := by decide +kernel
theorem dX1_isMoving_19 : decode cX1_isMoving 19 = .ok (.iconst 0, 1) := by decide +kernel
theorem dX1_isMoving_20 : decode cX1_isMoving 20 = .ok (.ireturn, 1) := by decide +kernel
theorem dX1_movingSet_0 : decode cX1_movingSet 0 = .ok (.iconst 0, 1) := by decide +kernel
theorem dX1_movingSet_1 : decode cX1_movingSet 1 = .ok (.istore_n 2, 1) := by decide +kernel
theorem dX1_movingSet_2 : decode cX1_movingSet 2 = .ok (.iconst 0, 1) := by decide +kernel
theorem dX1_movingSet_3 : decode cX1_movingSet 3 = .ok (.istore_n 3, 1) := by decide +kernel
theorem dX1_movingSet_4 : decode cX1_movingSet 4 = .ok (.iload_n 3, 1) := by decide +kernel
theorem dX1_movingSet_5 : decode cX1_movingSet 5 = .ok (.bipush 12, 2) := by decide +kernel
theorem dX1_movingSet_7 : decode cX1_movingSet 7 = .ok (.if_icmp .ge 24, 3) := by decide +kernel
theorem dX1_movingSet_10 : decode cX1_movingSet 10 = .ok (.aload_n 0, 1) := by decide +kernel
theorem dX1_movingSet_11 : decode cX1_movingSet 11 = .ok (.iload_n 1, 1) := by decide +kernel
theorem dX1_movingSet_12 : decode cX1_movingSet 12 = .ok (.iload_n 3, 1) := by decide +kernel
theorem dX1_movingSet_13 : decode cX1_movingSet 13 = .ok (.invokevirtual 72, 3) := by decide +kernel
theorem dX1_movingSet_16 : decode cX1_movingSet 16 = .ok (.ifCond .eq 9, 3) := by decide +kernel
theorem dX1_movingSet_19 : decode cX1_movingSet 19 = .ok (.iload_n 2, 1) := by decide +kernel
theorem dX1_movingSet_20 : decode cX1_movingSet 20 = .ok (.iconst 1, 1) := by decide +kernel
theorem dX1_movingSet_21 : decode cX1_movingSet 21 = .ok (.iload_n 3, 1) := by decide +kernel
theorem dX1_movingSet_22 : decode cX1_movingSet 22 = .ok (.ishl, 1) := by decide +kernel
theorem dX1_movingSet_23 : decode cX1_movingSet 23 = .ok (.ior, 1) := by decide +kernel
theorem dX1_movingSet_24 : decode cX1_movingSet 24 = .ok (.istore_n 2, 1) := by decide +kernel
theorem dX1_movingSet_25 : decode cX1_movingSet 25 = .ok (.iinc 3 1, 3) := by decide +kernel
theorem dX1_movingSet_28 : decode cX1_movingSet 28 = .ok (.goto (-24), 3) := by decide +kernel
theorem dX1_movingSet_31 : decode cX1_movingSet 31 = .ok (.iload_n 2, 1) := by decide +kernel
theorem dX1_movingSet_32 : decode cX1_movingSet 32 = .ok (.ireturn, 1) := by decide +kernel
theorem dX1_lengthOf_0 : decode cX1_lengthOf 0 = .ok (.aload_n 0, 1) := by decide +kernel
theorem dX1_lengthOf_1 : decode cX1_lengthOf 1 = .ok (.getfield 11, 3) := by decide +kernel
theorem dX1_lengthOf_4 : decode cX1_lengthOf 4 = .ok (.iload_n 1, 1) := by decide +kernel
theorem dX1_lengthOf_5 : decode cX1_lengthOf 5 = .ok (.aaload, 1) := by decide +kernel
theorem dX1_lengthOf_6 : decode cX1_lengthOf 6 = .ok (.astore_n 2, 1) := by decide +kernel
theorem dX1_lengthOf_7 : decode cX1_lengthOf 7 = .ok (.iconst 0, 1) := by decide +kernel
theorem dX1_lengthOf_8 : decode cX1_lengthOf 8 = .ok (.istore_n 3, 1) := by decide +kernel
theorem dX1_lengthOf_9 : decode cX1_lengthOf 9 = .ok (.iconst 0, 1) := by decide +kernel
theorem dX1_lengthOf_10 : decode cX1_lengthOf 10 = .ok (.istore 4, 2) := by decide +kernel
theorem dX1_lengthOf_12 : decode cX1_lengthOf 12 = .ok (.iload 4, 2) := by decide +kernel
theorem dX1_lengthOf_14 : decode cX1_lengthOf 14 = .ok (.bipush 12, 2) := by decide +kernel
theorem dX1_lengthOf_16 : decode cX1_lengthOf 16 = .ok (.if_icmp .ge 47, 3) := by decide +kernel
theorem dX1_lengthOf_19 : decode cX1_lengthOf 19 = .ok (.aload_n 0, 1) := by decide +kernel
theorem dX1_lengthOf_20 : decode cX1_lengthOf 20 = .ok (.iload_n 1, 1) := by decide +kernel
theorem dX1_lengthOf_21 : decode cX1_lengthOf 21 = .ok (.iload 4, 2) := by decide +kernel
theorem dX1_lengthOf_23 : decode cX1_lengthOf 23 = .ok (.invokevirtual 72, 3) := by decide +kernel
theorem dX1_lengthOf_26 : decode cX1_lengthOf 26 = .ok (.ifCond .eq 31, 3) := by decide +kernel
theorem dX1_lengthOf_29 : decode cX1_lengthOf 29 = .ok (.aload_n 2, 1) := by decide +kernel
theorem dX1_lengthOf_30 : decode cX1_lengthOf 30 = .ok (.iload 4, 2) := by decide +kernel
theorem dX1_lengthOf_32 : decode cX1_lengthOf 32 = .ok (.invokevirtual 76, 3) := by decide +kernel
theorem dX1_lengthOf_35 : decode cX1_lengthOf 35 = .ok (.istore 5, 2) := by decide +kernel
theorem dX1_lengthOf_37 : decode cX1_lengthOf 37 = .ok (.iload_n 3, 1) := by decide +kernel
theorem dX1_lengthOf_38 : decode cX1_lengthOf 38 = .ok (.aload_n 2, 1) := by decide +kernel
theorem dX1_lengthOf_39 : decode cX1_lengthOf 39 = .ok (.getfield 80, 3) := by decide +kernel
theorem dX1_lengthOf_42 : decode cX1_lengthOf 42 = .ok (.iload 5, 2) := by decide +kernel
theorem dX1_lengthOf_44 : decode cX1_lengthOf 44 = .ok (.iaload, 1) := by decide +kernel
theorem dX1_lengthOf_45 : decode cX1_lengthOf 45 = .ok (.aload_n 2, 1) := by decide +kernel
theorem dX1_lengthOf_46 : decode cX1_lengthOf 46 = .ok (.getfield 83, 3) := by decide +kernel
theorem dX1_lengthOf_49 : decode cX1_lengthOf 49 = .ok (.iload 5, 2) := by decide +kernel
theorem dX1_lengthOf_51 : decode cX1_lengthOf 51 = .ok (.iaload, 1) := by decide +kernel
theorem dX1_lengthOf_52 : decode cX1_lengthOf 52 = .ok (.iadd, 1) := by decide +kernel
theorem dX1_lengthOf_53 : decode cX1_lengthOf 53 = .ok (.invokestatic 86, 3) := by decide +kernel
theorem dX1_lengthOf_56 : decode cX1_lengthOf 56 = .ok (.istore_n 3, 1) := by decide +kernel
theorem dX1_lengthOf_57 : decode cX1_lengthOf 57 = .ok (.iinc 4 1, 3) := by decide +kernel
theorem dX1_lengthOf_60 : decode cX1_lengthOf 60 = .ok (.goto (-48), 3) := by decide +kernel
theorem dX1_lengthOf_63 : decode cX1_lengthOf 63 = .ok (.iload_n 3, 1) := by decide +kernel
theorem dX1_lengthOf_64 : decode cX1_lengthOf 64 = .ok (.ireturn, 1) := by decide +kernel
theorem dX1_chainFrom_0 : decode cX1_chainFrom 0 = .ok (.iconst 0, 1) := by decide +kernel
theorem dX1_chainFrom_1 : decode cX1_chainFrom 1 = .ok (.istore_n 2, 1) := by decide +kernel
theorem dX1_chainFrom_2 : decode cX1_chainFrom 2 = .ok (.iload_n 1, 1) := by decide +kernel
theorem dX1_chainFrom_3 : decode cX1_chainFrom 3 = .ok (.istore_n 3, 1) := by decide +kernel
theorem dX1_chainFrom_4 : decode cX1_chainFrom 4 = .ok (.iload_n 3, 1) := by decide +kernel
theorem dX1_chainFrom_5 : decode cX1_chainFrom 5 = .ok (.iconst 1, 1) := by decide +kernel
theorem dX1_chainFrom_6 : decode cX1_chainFrom 6 = .ok (.iadd, 1) := by decide +kernel
theorem dX1_chainFrom_7 : decode cX1_chainFrom 7 = .ok (.aload_n 0, 1) := by decide +kernel
theorem dX1_chainFrom_8 : decode cX1_chainFrom 8 = .ok (.getfield 31, 3) := by decide +kernel
theorem dX1_chainFrom_11 : decode cX1_chainFrom 11 = .ok (.if_icmp .ge 36, 3) := by decide +kernel
theorem dX1_chainFrom_14 : decode cX1_chainFrom 14 = .ok (.aload_n 0, 1) := by decide +kernel
theorem dX1_chainFrom_15 : decode cX1_chainFrom 15 = .ok (.getfield 11, 3) := by decide +kernel
theorem dX1_chainFrom_18 : decode cX1_chainFrom 18 = .ok (.iload_n 3, 1) := by decide +kernel
theorem dX1_chainFrom_19 : decode cX1_chainFrom 19 = .ok (.aaload, 1) := by decide +kernel
theorem dX1_chainFrom_20 : decode cX1_chainFrom 20 = .ok (.getfield 91, 3) := by decide +kernel
theorem dX1_chainFrom_23 : decode cX1_chainFrom 23 = .ok (.iconst (-1), 1) := by decide +kernel
theorem dX1_chainFrom_24 : decode cX1_chainFrom 24 = .ok (.if_icmp .ne 5, 3) := by decide +kernel
theorem dX1_chainFrom_27 : decode cX1_chainFrom 27 = .ok (.iload_n 2, 1) := by decide +kernel
theorem dX1_chainFrom_28 : decode cX1_chainFrom 28 = .ok (.ireturn, 1) := by decide +kernel
theorem dX1_chainFrom_29 : decode cX1_chainFrom 29 = .ok (.iload_n 2, 1) := by decide +kernel
theorem dX1_chainFrom_30 : decode cX1_chainFrom 30 = .ok (.aload_n 0, 1) := by decide +kernel
theorem dX1_chainFrom_31 : decode cX1_chainFrom 31 = .ok (.getfield 11, 3) := by decide +kernel
theorem dX1_chainFrom_34 : decode cX1_chainFrom 34 = .ok (.iload_n 3, 1) := by decide +kernel
theorem dX1_chainFrom_35 : decode cX1_chainFrom 35 = .ok (.aaload, 1) := by decide +kernel
theorem dX1_chainFrom_36 : decode cX1_chainFrom 36 = .ok (.getfield 91, 3) := by decide +kernel
theorem dX1_chainFrom_39 : decode cX1_chainFrom 39 = .ok (.iadd, 1) := by decide +kernel
theorem dX1_chainFrom_40 : decode cX1_chainFrom 40 = .ok (.istore_n 2, 1) := by decide +kernel
theorem dX1_chainFrom_41 : decode cX1_chainFrom 41 = .ok (.iinc 3 1, 3) := by decide +kernel
theorem dX1_chainFrom_44 : decode cX1_chainFrom 44 = .ok (.goto (-40), 3) := by decide +kernel
theorem dX1_chainFrom_47 : decode cX1_chainFrom 47 = .ok (.iload_n 2, 1) := by decide +kernel
theorem dX1_chainFrom_48 : decode cX1_chainFrom 48 = .ok (.ireturn, 1) := by decide +kernel
theorem dX1_listedLevel_0 : decode cX1_listedLevel 0 = .ok (.aload_n 0, 1) := by decide +kernel
theorem dX1_listedLevel_1 : decode cX1_listedLevel 1 = .ok (.aload_n 0, 1) := by decide +kernel
theorem dX1_listedLevel_2 : decode cX1_listedLevel 2 = .ok (.getfield 21, 3) := by decide +kernel
theorem dX1_listedLevel_5 : decode cX1_listedLevel 5 = .ok (.iload_n 1, 1) := by decide +kernel
theorem dX1_listedLevel_6 : decode cX1_listedLevel 6 = .ok (.iaload, 1) := by decide +kernel
theorem dX1_listedLevel_7 : decode cX1_listedLevel 7 = .ok (.invokevirtual 94, 3) := by decide +kernel
theorem dX1_listedLevel_10 : decode cX1_listedLevel 10 = .ok (.istore_n 2, 1) := by decide +kernel
theorem dX1_listedLevel_11 : decode cX1_listedLevel 11 = .ok (.iload_n 2, 1) := by decide +kernel
theorem dX1_listedLevel_12 : decode cX1_listedLevel 12 = .ok (.ifCond .ge 8, 3) := by decide +kernel
theorem dX1_listedLevel_15 : decode cX1_listedLevel 15 = .ok (.bipush (-2), 2) := by decide +kernel
theorem dX1_listedLevel_17 : decode cX1_listedLevel 17 = .ok (.goto 19, 3) := by decide +kernel
theorem dX1_listedLevel_20 : decode cX1_listedLevel 20 = .ok (.aload_n 0, 1) := by decide +kernel
theorem dX1_listedLevel_21 : decode cX1_listedLevel 21 = .ok (.getfield 11, 3) := by decide +kernel
theorem dX1_listedLevel_24 : decode cX1_listedLevel 24 = .ok (.iload_n 2, 1) := by decide +kernel
theorem dX1_listedLevel_25 : decode cX1_listedLevel 25 = .ok (.aaload, 1) := by decide +kernel
theorem dX1_listedLevel_26 : decode cX1_listedLevel 26 = .ok (.getfield 55, 3) := by decide +kernel
theorem dX1_listedLevel_29 : decode cX1_listedLevel 29 = .ok (.aload_n 0, 1) := by decide +kernel
theorem dX1_listedLevel_30 : decode cX1_listedLevel 30 = .ok (.getfield 24, 3) := by decide +kernel
theorem dX1_listedLevel_33 : decode cX1_listedLevel 33 = .ok (.iload_n 1, 1) := by decide +kernel
theorem dX1_listedLevel_34 : decode cX1_listedLevel 34 = .ok (.iaload, 1) := by decide +kernel
theorem dX1_listedLevel_35 : decode cX1_listedLevel 35 = .ok (.iaload, 1) := by decide +kernel
theorem dX1_listedLevel_36 : decode cX1_listedLevel 36 = .ok (.ireturn, 1) := by decide +kernel
theorem dX1_listedPart_0 : decode cX1_listedPart 0 = .ok (.aload_n 0, 1) := by decide +kernel
theorem dX1_listedPart_1 : decode cX1_listedPart 1 = .ok (.aload_n 0, 1) := by decide +kernel
theorem dX1_listedPart_2 : decode cX1_listedPart 2 = .ok (.getfield 21, 3) := by decide +kernel
theorem dX1_listedPart_5 : decode cX1_listedPart 5 = .ok (.iload_n 1, 1) := by decide +kernel
theorem dX1_listedPart_6 : decode cX1_listedPart 6 = .ok (.iaload, 1) := by decide +kernel
theorem dX1_listedPart_7 : decode cX1_listedPart 7 = .ok (.invokevirtual 94, 3) := by decide +kernel
theorem dX1_listedPart_10 : decode cX1_listedPart 10 = .ok (.istore_n 2, 1) := by decide +kernel
theorem dX1_listedPart_11 : decode cX1_listedPart 11 = .ok (.iload_n 2, 1) := by decide +kernel
theorem dX1_listedPart_12 : decode cX1_listedPart 12 = .ok (.ifCond .ge 7, 3) := by decide +kernel
theorem dX1_listedPart_15 : decode cX1_listedPart 15 = .ok (.iconst 0, 1) := by decide +kernel
theorem dX1_listedPart_16 : decode cX1_listedPart 16 = .ok (.goto 19, 3) := by decide +kernel
theorem dX1_listedPart_19 : decode cX1_listedPart 19 = .ok (.aload_n 0, 1) := by decide +kernel
theorem dX1_listedPart_20 : decode cX1_listedPart 20 = .ok (.getfield 11, 3) := by decide +kernel
theorem dX1_listedPart_23 : decode cX1_listedPart 23 = .ok (.iload_n 2, 1) := by decide +kernel
theorem dX1_listedPart_24 : decode cX1_listedPart 24 = .ok (.aaload, 1) := by decide +kernel
theorem dX1_listedPart_25 : decode cX1_listedPart 25 = .ok (.getfield 97, 3) := by decide +kernel
theorem dX1_listedPart_28 : decode cX1_listedPart 28 = .ok (.aload_n 0, 1) := by decide +kernel
theorem dX1_listedPart_29 : decode cX1_listedPart 29 = .ok (.getfield 24, 3) := by decide +kernel
theorem dX1_listedPart_32 : decode cX1_listedPart 32 = .ok (.iload_n 1, 1) := by decide +kernel
theorem dX1_listedPart_33 : decode cX1_listedPart 33 = .ok (.iaload, 1) := by decide +kernel
theorem dX1_listedPart_34 : decode cX1_listedPart 34 = .ok (.iaload, 1) := by decide +kernel
theorem dX1_listedPart_35 : decode cX1_listedPart 35 = .ok (.ireturn, 1) := by decide +kernel
theorem dX1_putInstruction_0 : decode cX1_putInstruction 0 = .ok (.aload_n 0, 1) := by decide +kernel
theorem dX1_putInstruction_1 : decode cX1_putInstruction 1 = .ok (.getfield 11, 3) := by decide +kernel
theorem dX1_putInstruction_4 : decode cX1_putInstruction 4 = .ok (.iload_n 1, 1) := by decide +kernel
theorem dX1_putInstruction_5 : decode cX1_putInstruction 5 = .ok (.aaload, 1) := by decide +kernel
theorem dX1_putInstruction_6 : decode cX1_putInstruction 6 = .ok (.astore 5, 2) := by decide +kernel
theorem dX1_putInstruction_8 : decode cX1_putInstruction 8 = .ok (.aload 5, 2) := by decide +kernel
theorem dX1_putInstruction_10 : decode cX1_putInstruction 10 = .ok (.getfield 55, 3) := by decide +kernel
theorem dX1_putInstruction_13 : decode cX1_putInstruction 13 = .ok (.iload_n 2, 1) := by decide +kernel
theorem dX1_putInstruction_14 : decode cX1_putInstruction 14 = .ok (.iaload, 1) := by decide +kernel
theorem dX1_putInstruction_15 : decode cX1_putInstruction 15 = .ok (.bipush (-2), 2) := by decide +kernel
theorem dX1_putInstruction_17 : decode cX1_putInstruction 17 = .ok (.if_icmp .ne 46, 3) := by decide +kernel
theorem dX1_putInstruction_20 : decode cX1_putInstruction 20 = .ok (.aload_n 0, 1) := by decide +kernel
theorem dX1_putInstruction_21 : decode cX1_putInstruction 21 = .ok (.getfield 35, 3) := by decide +kernel
theorem dX1_putInstruction_24 : decode cX1_putInstruction 24 = .ok (.bipush 60, 2) := by decide +kernel
theorem dX1_putInstruction_26 : decode cX1_putInstruction 26 = .ok (.if_icmp .ge 37, 3) := by decide +kernel
theorem dX1_putInstruction_29 : decode cX1_putInstruction 29 = .ok (.aload_n 0, 1) := by decide +kernel
theorem dX1_putInstruction_30 : decode cX1_putInstruction 30 = .ok (.getfield 21, 3) := by decide +kernel
theorem dX1_putInstruction_33 : decode cX1_putInstruction 33 = .ok (.aload_n 0, 1) := by decide +kernel
theorem dX1_putInstruction_34 : decode cX1_putInstruction 34 = .ok (.getfield 35, 3) := by decide +kernel
theorem dX1_putInstruction_37 : decode cX1_putInstruction 37 = .ok (.aload 5, 2) := by decide +kernel
theorem dX1_putInstruction_39 : decode cX1_putInstruction 39 = .ok (.getfield 48, 3) := by decide +kernel
theorem dX1_putInstruction_42 : decode cX1_putInstruction 42 = .ok (.iastore, 1) := by decide +kernel
theorem dX1_putInstruction_43 : decode cX1_putInstruction 43 = .ok (.aload_n 0, 1) := by decide +kernel
theorem dX1_putInstruction_44 : decode cX1_putInstruction 44 = .ok (.getfield 24, 3) := by decide +kernel
theorem dX1_putInstruction_47 : decode cX1_putInstruction 47 = .ok (.aload_n 0, 1) := by decide +kernel
theorem dX1_putInstruction_48 : decode cX1_putInstruction 48 = .ok (.getfield 35, 3) := by decide +kernel
theorem dX1_putInstruction_51 : decode cX1_putInstruction 51 = .ok (.iload_n 2, 1) := by decide +kernel
theorem dX1_putInstruction_52 : decode cX1_putInstruction 52 = .ok (.iastore, 1) := by decide +kernel
theorem dX1_putInstruction_53 : decode cX1_putInstruction 53 = .ok (.aload_n 0, 1) := by decide +kernel
theorem dX1_putInstruction_54 : decode cX1_putInstruction 54 = .ok (.dup, 1) := by decide +kernel
theorem dX1_putInstruction_55 : decode cX1_putInstruction 55 = .ok (.getfield 35, 3) := by decide +kernel
theorem dX1_putInstruction_58 : decode cX1_putInstruction 58 = .ok (.iconst 1, 1) := by decide +kernel
theorem dX1_putInstruction_59 : decode cX1_putInstruction 59 = .ok (.iadd, 1) := by decide +kernel
theorem dX1_putInstruction_60 : decode cX1_putInstruction 60 = .ok (.putfield 35, 3) := by decide +kernel
theorem dX1_putInstruction_63 : decode cX1_putInstruction 63 = .ok (.aload 5, 2) := by decide +kernel
theorem dX1_putInstruction_65 : decode cX1_putInstruction 65 = .ok (.getfield 55, 3) := by decide +kernel
theorem dX1_putInstruction_68 : decode cX1_putInstruction 68 = .ok (.iload_n 2, 1) := by decide +kernel
theorem dX1_putInstruction_69 : decode cX1_putInstruction 69 = .ok (.iload_n 3, 1) := by decide +kernel
theorem dX1_putInstruction_70 : decode cX1_putInstruction 70 = .ok (.iastore, 1) := by decide +kernel
theorem dX1_putInstruction_71 : decode cX1_putInstruction 71 = .ok (.aload 5, 2) := by decide +kernel
theorem dX1_putInstruction_73 : decode cX1_putInstruction 73 = .ok (.getfield 97, 3) := by decide +kernel
theorem dX1_putInstruction_76 : decode cX1_putInstruction 76 = .ok (.iload_n 2, 1) := by decide +kernel
theorem dX1_putInstruction_77 : decode cX1_putInstruction 77 = .ok (.iload 4, 2) := by decide +kernel
theorem dX1_putInstruction_79 : decode cX1_putInstruction 79 = .ok (.iastore, 1) := by decide +kernel
theorem dX1_putInstruction_80 : decode cX1_putInstruction 80 = .ok (.return_, 1) := by decide +kernel
theorem dX1_deleteInstruction_0 : decode cX1_deleteInstruction 0 = .ok (.aload_n 0, 1) := by decide +kernel
theorem dX1_deleteInstruction_1 : decode cX1_deleteInstruction 1 = .ok (.getfield 11, 3) := by decide +kernel
theorem dX1_deleteInstruction_4 : decode cX1_deleteInstruction 4 = .ok (.iload_n 1, 1) := by decide +kernel
theorem dX1_deleteInstruction_5 : decode cX1_deleteInstruction 5 = .ok (.aaload, 1) := by decide +kernel
theorem dX1_deleteInstruction_6 : decode cX1_deleteInstruction 6 = .ok (.astore_n 3, 1) := by decide +kernel
theorem dX1_deleteInstruction_7 : decode cX1_deleteInstruction 7 = .ok (.aload_n 3, 1) := by decide +kernel
theorem dX1_deleteInstruction_8 : decode cX1_deleteInstruction 8 = .ok (.getfield 55, 3) := by decide +kernel
theorem dX1_deleteInstruction_11 : decode cX1_deleteInstruction 11 = .ok (.iload_n 2, 1) := by decide +kernel
theorem dX1_deleteInstruction_12 : decode cX1_deleteInstruction 12 = .ok (.bipush (-2), 2) := by decide +kernel
theorem dX1_deleteInstruction_14 : decode cX1_deleteInstruction 14 = .ok (.iastore, 1) := by decide +kernel
theorem dX1_deleteInstruction_15 : decode cX1_deleteInstruction 15 = .ok (.iconst 0, 1) := by decide +kernel
theorem dX1_deleteInstruction_16 : decode cX1_deleteInstruction 16 = .ok (.istore 4, 2) := by decide +kernel
theorem dX1_deleteInstruction_18 : decode cX1_deleteInstruction 18 = .ok (.iconst 0, 1) := by decide +kernel
theorem dX1_deleteInstruction_19 : decode cX1_deleteInstruction 19 = .ok (.istore 5, 2) := by decide +kernel
theorem dX1_deleteInstruction_21 : decode cX1_deleteInstruction 21 = .ok (.iload 5, 2) := by decide +kernel
theorem dX1_deleteInstruction_23 : decode cX1_deleteInstruction 23 = .ok (.aload_n 0, 1) := by decide +kernel
theorem dX1_deleteInstruction_24 : decode cX1_deleteInstruction 24 = .ok (.getfield 35, 3) := by decide +kernel
theorem dX1_deleteInstruction_27 : decode cX1_deleteInstruction 27 = .ok (.if_icmp .ge 65, 3) := by decide +kernel
theorem dX1_deleteInstruction_30 : decode cX1_deleteInstruction 30 = .ok (.aload_n 0, 1) := by decide +kernel
theorem dX1_deleteInstruction_31 : decode cX1_deleteInstruction 31 = .ok (.getfield 21, 3) := by decide +kernel
theorem dX1_deleteInstruction_34 : decode cX1_deleteInstruction 34 = .ok (.iload 5, 2) := by decide +kernel
theorem dX1_deleteInstruction_36 : decode cX1_deleteInstruction 36 = .ok (.iaload, 1) := by decide +kernel
theorem dX1_deleteInstruction_37 : decode cX1_deleteInstruction 37 = .ok (.aload_n 3, 1) := by decide +kernel
theorem dX1_deleteInstruction_38 : decode cX1_deleteInstruction 38 = .ok (.getfield 48, 3) := by decide +kernel
theorem dX1_deleteInstruction_41 : decode cX1_deleteInstruction 41 = .ok (.if_icmp .ne 14, 3) := by decide +kernel
theorem dX1_deleteInstruction_44 : decode cX1_deleteInstruction 44 = .ok (.aload_n 0, 1) := by decide +kernel
theorem dX1_deleteInstruction_45 : decode cX1_deleteInstruction 45 = .ok (.getfield 24, 3) := by decide +kernel
theorem dX1_deleteInstruction_48 : decode cX1_deleteInstruction 48 = .ok (.iload 5, 2) := by decide +kernel
theorem dX1_deleteInstruction_50 : decode cX1_deleteInstruction 50 = .ok (.iaload, 1) := by decide +kernel
theorem dX1_deleteInstruction_51 : decode cX1_deleteInstruction 51 = .ok (.iload_n 2, 1) := by decide +kernel
theorem dX1_deleteInstruction_52 : decode cX1_deleteInstruction 52 = .ok (.if_icmp .eq 34, 3) := by decide +kernel
theorem dX1_deleteInstruction_55 : decode cX1_deleteInstruction 55 = .ok (.aload_n 0, 1) := by decide +kernel
theorem dX1_deleteInstruction_56 : decode cX1_deleteInstruction 56 = .ok (.getfield 21, 3) := by decide +kernel
theorem dX1_deleteInstruction_59 : decode cX1_deleteInstruction 59 = .ok (.iload 4, 2) := by decide +kernel
theorem dX1_deleteInstruction_61 : decode cX1_deleteInstruction 61 = .ok (.aload_n 0, 1) := by decide +kernel
theorem dX1_deleteInstruction_62 : decode cX1_deleteInstruction 62 = .ok (.getfield 21, 3) := by decide +kernel
theorem dX1_deleteInstruction_65 : decode cX1_deleteInstruction 65 = .ok (.iload 5, 2) := by decide +kernel
theorem dX1_deleteInstruction_67 : decode cX1_deleteInstruction 67 = .ok (.iaload, 1) := by decide +kernel
theorem dX1_deleteInstruction_68 : decode cX1_deleteInstruction 68 = .ok (.iastore, 1) := by decide +kernel
theorem dX1_deleteInstruction_69 : decode cX1_deleteInstruction 69 = .ok (.aload_n 0, 1) := by decide +kernel
theorem dX1_deleteInstruction_70 : decode cX1_deleteInstruction 70 = .ok (.getfield 24, 3) := by decide +kernel
theorem dX1_deleteInstruction_73 : decode cX1_deleteInstruction 73 = .ok (.iload 4, 2) := by decide +kernel
theorem dX1_deleteInstruction_75 : decode cX1_deleteInstruction 75 = .ok (.aload_n 0, 1) := by decide +kernel
theorem dX1_deleteInstruction_76 : decode cX1_deleteInstruction 76 = .ok (.getfield 24, 3) := by decide +kernel
theorem dX1_deleteInstruction_79 : decode cX1_deleteInstruction 79 = .ok (.iload 5, 2) := by decide +kernel
theorem dX1_deleteInstruction_81 : decode cX1_deleteInstruction 81 = .ok (.iaload, 1) := by decide +kernel
theorem dX1_deleteInstruction_82 : decode cX1_deleteInstruction 82 = .ok (.iastore, 1) := by decide +kernel
theorem dX1_deleteInstruction_83 : decode cX1_deleteInstruction 83 = .ok (.iinc 4 1, 3) := by decide +kernel
theorem dX1_deleteInstruction_86 : decode cX1_deleteInstruction 86 = .ok (.iinc 5 1, 3) := by decide +kernel
theorem dX1_deleteInstruction_89 : decode cX1_deleteInstruction 89 = .ok (.goto (-68), 3) := by decide +kernel
theorem dX1_deleteInstruction_92 : decode cX1_deleteInstruction 92 = .ok (.aload_n 0, 1) := by decide +kernel
theorem dX1_deleteInstruction_93 : decode cX1_deleteInstruction 93 = .ok (.iload 4, 2) := by decide +kernel
theorem dX1_deleteInstruction_95 : decode cX1_deleteInstruction 95 = .ok (.putfield 35, 3) := by decide +kernel
theorem dX1_deleteInstruction_98 : decode cX1_deleteInstruction 98 = .ok (.return_, 1) := by decide +kernel
theorem dX1_needsHold_0 : decode cX1_needsHold 0 = .ok (.iload_n 1, 1) := by decide +kernel
theorem dX1_needsHold_1 : decode cX1_needsHold 1 = .ok (.aload_n 0, 1) := by decide +kernel
theorem dX1_needsHold_2 : decode cX1_needsHold 2 = .ok (.getfield 31, 3) := by decide +kernel
theorem dX1_needsHold_5 : decode cX1_needsHold 5 = .ok (.if_icmp .ge 30, 3) := by decide +kernel
theorem dX1_needsHold_8 : decode cX1_needsHold 8 = .ok (.aload_n 0, 1) := by decide +kernel
theorem dX1_needsHold_9 : decode cX1_needsHold 9 = .ok (.getfield 11, 3) := by decide +kernel
theorem dX1_needsHold_12 : decode cX1_needsHold 12 = .ok (.iload_n 1, 1) := by decide +kernel
theorem dX1_needsHold_13 : decode cX1_needsHold 13 = .ok (.aaload, 1) := by decide +kernel
theorem dX1_needsHold_14 : decode cX1_needsHold 14 = .ok (.iload_n 2, 1) := by decide +kernel
theorem dX1_needsHold_15 : decode cX1_needsHold 15 = .ok (.invokevirtual 51, 3) := by decide +kernel
theorem dX1_needsHold_18 : decode cX1_needsHold 18 = .ok (.ifCond .eq 17, 3) := by decide +kernel
theorem dX1_needsHold_21 : decode cX1_needsHold 21 = .ok (.aload_n 0, 1) := by decide +kernel
theorem dX1_needsHold_22 : decode cX1_needsHold 22 = .ok (.iload_n 1, 1) := by decide +kernel
theorem dX1_needsHold_23 : decode cX1_needsHold 23 = .ok (.iload_n 2, 1) := by decide +kernel
theorem dX1_needsHold_24 : decode cX1_needsHold 24 = .ok (.invokevirtual 62, 3) := by decide +kernel
theorem dX1_needsHold_27 : decode cX1_needsHold 27 = .ok (.iload_n 3, 1) := by decide +kernel
theorem dX1_needsHold_28 : decode cX1_needsHold 28 = .ok (.if_icmp .eq 7, 3) := by decide +kernel
theorem dX1_needsHold_31 : decode cX1_needsHold 31 = .ok (.iconst 1, 1) := by decide +kernel
theorem dX1_needsHold_32 : decode cX1_needsHold 32 = .ok (.goto 4, 3) := by decide +kernel
theorem dX1_needsHold_35 : decode cX1_needsHold 35 = .ok (.iconst 0, 1) := by decide +kernel
theorem dX1_needsHold_36 : decode cX1_needsHold 36 = .ok (.ireturn, 1) := by decide +kernel
theorem dX1_levelWithoutInstruction_0 : decode cX1_levelWithoutInstruction 0 = .ok (.aload_n 0, 1) := by decide +kernel
theorem dX1_levelWithoutInstruction_1 : decode cX1_levelWithoutInstruction 1 = .ok (.getfield 11, 3) := by decide +kernel
theorem dX1_levelWithoutInstruction_4 : decode cX1_levelWithoutInstruction 4 = .ok (.iload_n 1, 1) := by decide +kernel
theorem dX1_levelWithoutInstruction_5 : decode cX1_levelWithoutInstruction 5 = .ok (.aaload, 1) := by decide +kernel
theorem dX1_levelWithoutInstruction_6 : decode cX1_levelWithoutInstruction 6 = .ok (.getfield 65, 3) := by decide +kernel
theorem dX1_levelWithoutInstruction_9 : decode cX1_levelWithoutInstruction 9 = .ok (.ifCond .eq 12, 3) := by decide +kernel
theorem dX1_levelWithoutInstruction_12 : decode cX1_levelWithoutInstruction 12 = .ok (.aload_n 0, 1) := by decide +kernel
theorem dX1_levelWithoutInstruction_13 : decode cX1_levelWithoutInstruction 13 = .ok (.getfield 17, 3) := by decide +kernel
theorem dX1_levelWithoutInstruction_16 : decode cX1_levelWithoutInstruction 16 = .ok (.iload_n 2, 1) := by decide +kernel
theorem dX1_levelWithoutInstruction_17 : decode cX1_levelWithoutInstruction 17 = .ok (.iaload, 1) := by decide +kernel
theorem dX1_levelWithoutInstruction_18 : decode cX1_levelWithoutInstruction 18 = .ok (.goto 9, 3) := by decide +kernel
theorem dX1_levelWithoutInstruction_21 : decode cX1_levelWithoutInstruction 21 = .ok (.aload_n 0, 1) := by decide +kernel
theorem dX1_levelWithoutInstruction_22 : decode cX1_levelWithoutInstruction 22 = .ok (.iload_n 1, 1) := by decide +kernel
theorem dX1_levelWithoutInstruction_23 : decode cX1_levelWithoutInstruction 23 = .ok (.iload_n 2, 1) := by decide +kernel
theorem dX1_levelWithoutInstruction_24 : decode cX1_levelWithoutInstruction 24 = .ok (.invokevirtual 69, 3) := by decide +kernel
theorem dX1_levelWithoutInstruction_27 : decode cX1_levelWithoutInstruction 27 = .ok (.ireturn, 1) := by decide +kernel
theorem dX1_refusal_0 : decode cX1_refusal 0 = .ok (.aload_n 0, 1) := by decide +kernel
theorem dX1_refusal_1 : decode cX1_refusal 1 = .ok (.getfield 11, 3) := by decide +kernel
theorem dX1_refusal_4 : decode cX1_refusal 4 = .ok (.iload_n 1, 1) := by decide +kernel
theorem dX1_refusal_5 : decode cX1_refusal 5 = .ok (.aaload, 1) := by decide +kernel
theorem dX1_refusal_6 : decode cX1_refusal 6 = .ok (.getfield 100, 3) := by decide +kernel
theorem dX1_refusal_9 : decode cX1_refusal 9 = .ok (.ifCond .eq 5, 3) := by decide +kernel
theorem dX1_refusal_12 : decode cX1_refusal 12 = .ok (.iconst 1, 1) := by decide +kernel
theorem dX1_refusal_13 : decode cX1_refusal 13 = .ok (.ireturn, 1) := by decide +kernel
theorem dX1_refusal_14 : decode cX1_refusal 14 = .ok (.iload_n 2, 1) := by decide +kernel
theorem dX1_refusal_15 : decode cX1_refusal 15 = .ok (.ifCond .le 29, 3) := by decide +kernel
theorem dX1_refusal_18 : decode cX1_refusal 18 = .ok (.iload_n 1, 1) := by decide +kernel
theorem dX1_refusal_19 : decode cX1_refusal 19 = .ok (.iconst 1, 1) := by decide +kernel
theorem dX1_refusal_20 : decode cX1_refusal 20 = .ok (.iadd, 1) := by decide +kernel
theorem dX1_refusal_21 : decode cX1_refusal 21 = .ok (.aload_n 0, 1) := by decide +kernel
theorem dX1_refusal_22 : decode cX1_refusal 22 = .ok (.getfield 31, 3) := by decide +kernel
theorem dX1_refusal_25 : decode cX1_refusal 25 = .ok (.if_icmp .ge 19, 3) := by decide +kernel
theorem dX1_refusal_28 : decode cX1_refusal 28 = .ok (.aload_n 0, 1) := by decide +kernel
theorem dX1_refusal_29 : decode cX1_refusal 29 = .ok (.getfield 11, 3) := by decide +kernel
theorem dX1_refusal_32 : decode cX1_refusal 32 = .ok (.iload_n 1, 1) := by decide +kernel
theorem dX1_refusal_33 : decode cX1_refusal 33 = .ok (.iconst 1, 1) := by decide +kernel
theorem dX1_refusal_34 : decode cX1_refusal 34 = .ok (.iadd, 1) := by decide +kernel
theorem dX1_refusal_35 : decode cX1_refusal 35 = .ok (.aaload, 1) := by decide +kernel
theorem dX1_refusal_36 : decode cX1_refusal 36 = .ok (.getfield 100, 3) := by decide +kernel
theorem dX1_refusal_39 : decode cX1_refusal 39 = .ok (.ifCond .eq 5, 3) := by decide +kernel
theorem dX1_refusal_42 : decode cX1_refusal 42 = .ok (.iconst 1, 1) := by decide +kernel
theorem dX1_refusal_43 : decode cX1_refusal 43 = .ok (.ireturn, 1) := by decide +kernel
theorem dX1_refusal_44 : decode cX1_refusal 44 = .ok (.aload_n 0, 1) := by decide +kernel
theorem dX1_refusal_45 : decode cX1_refusal 45 = .ok (.getfield 35, 3) := by decide +kernel
theorem dX1_refusal_48 : decode cX1_refusal 48 = .ok (.iload_n 3, 1) := by decide +kernel
theorem dX1_refusal_49 : decode cX1_refusal 49 = .ok (.iadd, 1) := by decide +kernel
theorem dX1_refusal_50 : decode cX1_refusal 50 = .ok (.iload_n 2, 1) := by decide +kernel
theorem dX1_refusal_51 : decode cX1_refusal 51 = .ok (.iadd, 1) := by decide +kernel
theorem dX1_refusal_52 : decode cX1_refusal 52 = .ok (.bipush 60, 2) := by decide +kernel
theorem dX1_refusal_54 : decode cX1_refusal 54 = .ok (.if_icmp .le 7, 3) := by decide +kernel
theorem dX1_refusal_57 : decode cX1_refusal 57 = .ok (.iconst 2, 1) := by decide +kernel
theorem dX1_refusal_58 : decode cX1_refusal 58 = .ok (.goto 4, 3) := by decide +kernel
theorem dX1_refusal_61 : decode cX1_refusal 61 = .ok (.iconst 0, 1) := by decide +kernel
theorem dX1_refusal_62 : decode cX1_refusal 62 = .ok (.ireturn, 1) := by decide +kernel
theorem dX1_refusalToGive_0 : decode cX1_refusalToGive 0 = .ok (.iload 4, 2) := by decide +kernel
theorem dX1_refusalToGive_2 : decode cX1_refusalToGive 2 = .ok (.ifCond .eq 24, 3) := by decide +kernel
theorem dX1_refusalToGive_5 : decode cX1_refusalToGive 5 = .ok (.aload_n 0, 1) := by decide +kernel
theorem dX1_refusalToGive_6 : decode cX1_refusalToGive 6 = .ok (.iload_n 1, 1) := by decide +kernel
theorem dX1_refusalToGive_7 : decode cX1_refusalToGive 7 = .ok (.iconst 1, 1) := by decide +kernel
theorem dX1_refusalToGive_8 : decode cX1_refusalToGive 8 = .ok (.iadd, 1) := by decide +kernel
theorem dX1_refusalToGive_9 : decode cX1_refusalToGive 9 = .ok (.iload_n 2, 1) := by decide +kernel
theorem dX1_refusalToGive_10 : decode cX1_refusalToGive 10 = .ok (.aload_n 0, 1) := by decide +kernel
theorem dX1_refusalToGive_11 : decode cX1_refusalToGive 11 = .ok (.iload_n 3, 1) := by decide +kernel
theorem dX1_refusalToGive_12 : decode cX1_refusalToGive 12 = .ok (.iload_n 2, 1) := by decide +kernel
theorem dX1_refusalToGive_13 : decode cX1_refusalToGive 13 = .ok (.invokevirtual 58, 3) := by decide +kernel
theorem dX1_refusalToGive_16 : decode cX1_refusalToGive 16 = .ok (.invokevirtual 103, 3) := by decide +kernel
theorem dX1_refusalToGive_19 : decode cX1_refusalToGive 19 = .ok (.ifCond .eq 7, 3) := by decide +kernel
theorem dX1_refusalToGive_22 : decode cX1_refusalToGive 22 = .ok (.iconst 1, 1) := by decide +kernel
theorem dX1_refusalToGive_23 : decode cX1_refusalToGive 23 = .ok (.goto 4, 3) := by decide +kernel
theorem dX1_refusalToGive_26 : decode cX1_refusalToGive 26 = .ok (.iconst 0, 1) := by decide +kernel
theorem dX1_refusalToGive_27 : decode cX1_refusalToGive 27 = .ok (.istore 5, 2) := by decide +kernel
theorem dX1_refusalToGive_29 : decode cX1_refusalToGive 29 = .ok (.aload_n 0, 1) := by decide +kernel
theorem dX1_refusalToGive_30 : decode cX1_refusalToGive 30 = .ok (.getfield 11, 3) := by decide +kernel
theorem dX1_refusalToGive_33 : decode cX1_refusalToGive 33 = .ok (.iload_n 1, 1) := by decide +kernel
theorem dX1_refusalToGive_34 : decode cX1_refusalToGive 34 = .ok (.aaload, 1) := by decide +kernel
theorem dX1_refusalToGive_35 : decode cX1_refusalToGive 35 = .ok (.getfield 55, 3) := by decide +kernel
theorem dX1_refusalToGive_38 : decode cX1_refusalToGive 38 = .ok (.iload_n 2, 1) := by decide +kernel
theorem dX1_refusalToGive_39 : decode cX1_refusalToGive 39 = .ok (.iaload, 1) := by decide +kernel
theorem dX1_refusalToGive_40 : decode cX1_refusalToGive 40 = .ok (.bipush (-2), 2) := by decide +kernel
theorem dX1_refusalToGive_42 : decode cX1_refusalToGive 42 = .ok (.if_icmp .ne 7, 3) := by decide +kernel
theorem dX1_refusalToGive_45 : decode cX1_refusalToGive 45 = .ok (.iconst 1, 1) := by decide +kernel
theorem dX1_refusalToGive_46 : decode cX1_refusalToGive 46 = .ok (.goto 4, 3) := by decide +kernel
theorem dX1_refusalToGive_49 : decode cX1_refusalToGive 49 = .ok (.iconst 0, 1) := by decide +kernel
theorem dX1_refusalToGive_50 : decode cX1_refusalToGive 50 = .ok (.istore 6, 2) := by decide +kernel
theorem dX1_refusalToGive_52 : decode cX1_refusalToGive 52 = .ok (.aload_n 0, 1) := by decide +kernel
theorem dX1_refusalToGive_53 : decode cX1_refusalToGive 53 = .ok (.iload_n 1, 1) := by decide +kernel
theorem dX1_refusalToGive_54 : decode cX1_refusalToGive 54 = .ok (.iload 5, 2) := by decide +kernel
theorem dX1_refusalToGive_56 : decode cX1_refusalToGive 56 = .ok (.ifCond .eq 7, 3) := by decide +kernel
theorem dX1_refusalToGive_59 : decode cX1_refusalToGive 59 = .ok (.iconst 1, 1) := by decide +kernel
theorem dX1_refusalToGive_60 : decode cX1_refusalToGive 60 = .ok (.goto 4, 3) := by decide +kernel
theorem dX1_refusalToGive_63 : decode cX1_refusalToGive 63 = .ok (.iconst 0, 1) := by decide +kernel
theorem dX1_refusalToGive_64 : decode cX1_refusalToGive 64 = .ok (.iload 6, 2) := by decide +kernel
theorem dX1_refusalToGive_66 : decode cX1_refusalToGive 66 = .ok (.ifCond .eq 7, 3) := by decide +kernel
theorem dX1_refusalToGive_69 : decode cX1_refusalToGive 69 = .ok (.iconst 1, 1) := by decide +kernel
theorem dX1_refusalToGive_70 : decode cX1_refusalToGive 70 = .ok (.goto 4, 3) := by decide +kernel
theorem dX1_refusalToGive_73 : decode cX1_refusalToGive 73 = .ok (.iconst 0, 1) := by decide +kernel
theorem dX1_refusalToGive_74 : decode cX1_refusalToGive 74 = .ok (.invokevirtual 107, 3) := by decide +kernel
theorem dX1_refusalToGive_77 : decode cX1_refusalToGive 77 = .ok (.ireturn, 1) := by decide +kernel
theorem dX1_refusalToTake_0 : decode cX1_refusalToTake 0 = .ok (.aload_n 0, 1) := by decide +kernel
theorem dX1_refusalToTake_1 : decode cX1_refusalToTake 1 = .ok (.getfield 11, 3) := by decide +kernel
theorem dX1_refusalToTake_4 : decode cX1_refusalToTake 4 = .ok (.iload_n 1, 1) := by decide +kernel
theorem dX1_refusalToTake_5 : decode cX1_refusalToTake 5 = .ok (.aaload, 1) := by decide +kernel
theorem dX1_refusalToTake_6 : decode cX1_refusalToTake 6 = .ok (.getfield 55, 3) := by decide +kernel
theorem dX1_refusalToTake_9 : decode cX1_refusalToTake 9 = .ok (.iload_n 2, 1) := by decide +kernel
theorem dX1_refusalToTake_10 : decode cX1_refusalToTake 10 = .ok (.iaload, 1) := by decide +kernel
theorem dX1_refusalToTake_11 : decode cX1_refusalToTake 11 = .ok (.bipush (-2), 2) := by decide +kernel
theorem dX1_refusalToTake_13 : decode cX1_refusalToTake 13 = .ok (.if_icmp .eq 7, 3) := by decide +kernel
theorem dX1_refusalToTake_16 : decode cX1_refusalToTake 16 = .ok (.iconst 1, 1) := by decide +kernel
theorem dX1_refusalToTake_17 : decode cX1_refusalToTake 17 = .ok (.goto 4, 3) := by decide +kernel
theorem dX1_refusalToTake_20 : decode cX1_refusalToTake 20 = .ok (.iconst 0, 1) := by decide +kernel
theorem dX1_refusalToTake_21 : decode cX1_refusalToTake 21 = .ok (.istore 4, 2) := by decide +kernel
theorem dX1_refusalToTake_23 : decode cX1_refusalToTake 23 = .ok (.aload_n 0, 1) := by decide +kernel
theorem dX1_refusalToTake_24 : decode cX1_refusalToTake 24 = .ok (.iload_n 1, 1) := by decide +kernel
theorem dX1_refusalToTake_25 : decode cX1_refusalToTake 25 = .ok (.iload_n 2, 1) := by decide +kernel
theorem dX1_refusalToTake_26 : decode cX1_refusalToTake 26 = .ok (.invokevirtual 111, 3) := by decide +kernel
theorem dX1_refusalToTake_29 : decode cX1_refusalToTake 29 = .ok (.istore 5, 2) := by decide +kernel
theorem dX1_refusalToTake_31 : decode cX1_refusalToTake 31 = .ok (.iload_n 3, 1) := by decide +kernel
theorem dX1_refusalToTake_32 : decode cX1_refusalToTake 32 = .ok (.ifCond .eq 20, 3) := by decide +kernel
theorem dX1_refusalToTake_35 : decode cX1_refusalToTake 35 = .ok (.aload_n 0, 1) := by decide +kernel
theorem dX1_refusalToTake_36 : decode cX1_refusalToTake 36 = .ok (.iload_n 1, 1) := by decide +kernel
theorem dX1_refusalToTake_37 : decode cX1_refusalToTake 37 = .ok (.iconst 1, 1) := by decide +kernel
theorem dX1_refusalToTake_38 : decode cX1_refusalToTake 38 = .ok (.iadd, 1) := by decide +kernel
theorem dX1_refusalToTake_39 : decode cX1_refusalToTake 39 = .ok (.iload_n 2, 1) := by decide +kernel
theorem dX1_refusalToTake_40 : decode cX1_refusalToTake 40 = .ok (.iload 5, 2) := by decide +kernel
theorem dX1_refusalToTake_42 : decode cX1_refusalToTake 42 = .ok (.invokevirtual 103, 3) := by decide +kernel
theorem dX1_refusalToTake_45 : decode cX1_refusalToTake 45 = .ok (.ifCond .eq 7, 3) := by decide +kernel
theorem dX1_refusalToTake_48 : decode cX1_refusalToTake 48 = .ok (.iconst 1, 1) := by decide +kernel
theorem dX1_refusalToTake_49 : decode cX1_refusalToTake 49 = .ok (.goto 4, 3) := by decide +kernel
theorem dX1_refusalToTake_52 : decode cX1_refusalToTake 52 = .ok (.iconst 0, 1) := by decide +kernel
theorem dX1_refusalToTake_53 : decode cX1_refusalToTake 53 = .ok (.istore 6, 2) := by decide +kernel
theorem dX1_refusalToTake_55 : decode cX1_refusalToTake 55 = .ok (.aload_n 0, 1) := by decide +kernel
theorem dX1_refusalToTake_56 : decode cX1_refusalToTake 56 = .ok (.iload_n 1, 1) := by decide +kernel
theorem dX1_refusalToTake_57 : decode cX1_refusalToTake 57 = .ok (.iload 6, 2) := by decide +kernel
theorem dX1_refusalToTake_59 : decode cX1_refusalToTake 59 = .ok (.ifCond .eq 7, 3) := by decide +kernel
theorem dX1_refusalToTake_62 : decode cX1_refusalToTake 62 = .ok (.iconst 1, 1) := by decide +kernel
theorem dX1_refusalToTake_63 : decode cX1_refusalToTake 63 = .ok (.goto 4, 3) := by decide +kernel
theorem dX1_refusalToTake_66 : decode cX1_refusalToTake 66 = .ok (.iconst 0, 1) := by decide +kernel
theorem dX1_refusalToTake_67 : decode cX1_refusalToTake 67 = .ok (.iload 4, 2) := by decide +kernel
theorem dX1_refusalToTake_69 : decode cX1_refusalToTake 69 = .ok (.ifCond .eq 7, 3) := by decide +kernel
theorem dX1_refusalToTake_72 : decode cX1_refusalToTake 72 = .ok (.iconst (-1), 1) := by decide +kernel
theorem dX1_refusalToTake_73 : decode cX1_refusalToTake 73 = .ok (.goto 4, 3) := by decide +kernel
theorem dX1_refusalToTake_76 : decode cX1_refusalToTake 76 = .ok (.iconst 0, 1) := by decide +kernel
theorem dX1_refusalToTake_77 : decode cX1_refusalToTake 77 = .ok (.invokevirtual 107, 3) := by decide +kernel
theorem dX1_refusalToTake_80 : decode cX1_refusalToTake 80 = .ok (.istore 7, 2) := by decide +kernel
theorem dX1_refusalToTake_82 : decode cX1_refusalToTake 82 = .ok (.iload 7, 2) := by decide +kernel
theorem dX1_refusalToTake_84 : decode cX1_refusalToTake 84 = .ok (.ifCond .eq 6, 3) := by decide +kernel
theorem dX1_refusalToTake_87 : decode cX1_refusalToTake 87 = .ok (.iload 7, 2) := by decide +kernel
theorem dX1_refusalToTake_89 : decode cX1_refusalToTake 89 = .ok (.ireturn, 1) := by decide +kernel
theorem dX1_refusalToTake_90 : decode cX1_refusalToTake 90 = .ok (.iload 4, 2) := by decide +kernel
theorem dX1_refusalToTake_92 : decode cX1_refusalToTake 92 = .ok (.ifCond .eq 7, 3) := by decide +kernel
theorem dX1_refusalToTake_95 : decode cX1_refusalToTake 95 = .ok (.iconst 0, 1) := by decide +kernel
theorem dX1_refusalToTake_96 : decode cX1_refusalToTake 96 = .ok (.goto 4, 3) := by decide +kernel
theorem dX1_refusalToTake_99 : decode cX1_refusalToTake 99 = .ok (.iconst 3, 1) := by decide +kernel
theorem dX1_refusalToTake_100 : decode cX1_refusalToTake 100 = .ok (.ireturn, 1) := by decide +kernel
theorem dX1_refusalToDrop_0 : decode cX1_refusalToDrop 0 = .ok (.iconst 0, 1) := by decide +kernel
theorem dX1_refusalToDrop_1 : decode cX1_refusalToDrop 1 = .ok (.istore_n 3, 1) := by decide +kernel
theorem dX1_refusalToDrop_2 : decode cX1_refusalToDrop 2 = .ok (.iconst 0, 1) := by decide +kernel
theorem dX1_refusalToDrop_3 : decode cX1_refusalToDrop 3 = .ok (.istore 4, 2) := by decide +kernel
theorem dX1_refusalToDrop_5 : decode cX1_refusalToDrop 5 = .ok (.iload 4, 2) := by decide +kernel
theorem dX1_refusalToDrop_7 : decode cX1_refusalToDrop 7 = .ok (.bipush 12, 2) := by decide +kernel
theorem dX1_refusalToDrop_9 : decode cX1_refusalToDrop 9 = .ok (.if_icmp .ge 35, 3) := by decide +kernel
theorem dX1_refusalToDrop_12 : decode cX1_refusalToDrop 12 = .ok (.iload_n 2, 1) := by decide +kernel
theorem dX1_refusalToDrop_13 : decode cX1_refusalToDrop 13 = .ok (.ifCond .eq 25, 3) := by decide +kernel
theorem dX1_refusalToDrop_16 : decode cX1_refusalToDrop 16 = .ok (.aload_n 0, 1) := by decide +kernel
theorem dX1_refusalToDrop_17 : decode cX1_refusalToDrop 17 = .ok (.iload_n 1, 1) := by decide +kernel
theorem dX1_refusalToDrop_18 : decode cX1_refusalToDrop 18 = .ok (.iconst 1, 1) := by decide +kernel
theorem dX1_refusalToDrop_19 : decode cX1_refusalToDrop 19 = .ok (.iadd, 1) := by decide +kernel
theorem dX1_refusalToDrop_20 : decode cX1_refusalToDrop 20 = .ok (.iload 4, 2) := by decide +kernel
theorem dX1_refusalToDrop_22 : decode cX1_refusalToDrop 22 = .ok (.aload_n 0, 1) := by decide +kernel
theorem dX1_refusalToDrop_23 : decode cX1_refusalToDrop 23 = .ok (.iload_n 1, 1) := by decide +kernel
theorem dX1_refusalToDrop_24 : decode cX1_refusalToDrop 24 = .ok (.iload 4, 2) := by decide +kernel
theorem dX1_refusalToDrop_26 : decode cX1_refusalToDrop 26 = .ok (.invokevirtual 69, 3) := by decide +kernel
theorem dX1_refusalToDrop_29 : decode cX1_refusalToDrop 29 = .ok (.invokevirtual 103, 3) := by decide +kernel
theorem dX1_refusalToDrop_32 : decode cX1_refusalToDrop 32 = .ok (.ifCond .eq 6, 3) := by decide +kernel
theorem dX1_refusalToDrop_35 : decode cX1_refusalToDrop 35 = .ok (.iinc 3 1, 3) := by decide +kernel
theorem dX1_refusalToDrop_38 : decode cX1_refusalToDrop 38 = .ok (.iinc 4 1, 3) := by decide +kernel
theorem dX1_refusalToDrop_41 : decode cX1_refusalToDrop 41 = .ok (.goto (-36), 3) := by decide +kernel
theorem dX1_refusalToDrop_44 : decode cX1_refusalToDrop 44 = .ok (.aload_n 0, 1) := by decide +kernel
theorem dX1_refusalToDrop_45 : decode cX1_refusalToDrop 45 = .ok (.iload_n 1, 1) := by decide +kernel
theorem dX1_refusalToDrop_46 : decode cX1_refusalToDrop 46 = .ok (.iload_n 3, 1) := by decide +kernel
theorem dX1_refusalToDrop_47 : decode cX1_refusalToDrop 47 = .ok (.aload_n 0, 1) := by decide +kernel
theorem dX1_refusalToDrop_48 : decode cX1_refusalToDrop 48 = .ok (.getfield 11, 3) := by decide +kernel
theorem dX1_refusalToDrop_51 : decode cX1_refusalToDrop 51 = .ok (.iload_n 1, 1) := by decide +kernel
theorem dX1_refusalToDrop_52 : decode cX1_refusalToDrop 52 = .ok (.aaload, 1) := by decide +kernel
theorem dX1_refusalToDrop_53 : decode cX1_refusalToDrop 53 = .ok (.invokevirtual 114, 3) := by decide +kernel
theorem dX1_refusalToDrop_56 : decode cX1_refusalToDrop 56 = .ok (.ineg, 1) := by decide +kernel
theorem dX1_refusalToDrop_57 : decode cX1_refusalToDrop 57 = .ok (.invokevirtual 107, 3) := by decide +kernel
theorem dX1_refusalToDrop_60 : decode cX1_refusalToDrop 60 = .ok (.ireturn, 1) := by decide +kernel
theorem dX1_give_0 : decode cX1_give 0 = .ok (.aload_n 0, 1) := by decide +kernel
theorem dX1_give_1 : decode cX1_give 1 = .ok (.iload_n 1, 1) := by decide +kernel
theorem dX1_give_2 : decode cX1_give 2 = .ok (.iload_n 2, 1) := by decide +kernel
theorem dX1_give_3 : decode cX1_give 3 = .ok (.invokevirtual 62, 3) := by decide +kernel
theorem dX1_give_6 : decode cX1_give 6 = .ok (.istore 6, 2) := by decide +kernel
theorem dX1_give_8 : decode cX1_give 8 = .ok (.iload 5, 2) := by decide +kernel
theorem dX1_give_10 : decode cX1_give 10 = .ok (.ifCond .eq 24, 3) := by decide +kernel
theorem dX1_give_13 : decode cX1_give 13 = .ok (.aload_n 0, 1) := by decide +kernel
theorem dX1_give_14 : decode cX1_give 14 = .ok (.iload_n 1, 1) := by decide +kernel
theorem dX1_give_15 : decode cX1_give 15 = .ok (.iconst 1, 1) := by decide +kernel
theorem dX1_give_16 : decode cX1_give 16 = .ok (.iadd, 1) := by decide +kernel
theorem dX1_give_17 : decode cX1_give 17 = .ok (.iload_n 2, 1) := by decide +kernel
theorem dX1_give_18 : decode cX1_give 18 = .ok (.aload_n 0, 1) := by decide +kernel
theorem dX1_give_19 : decode cX1_give 19 = .ok (.iload_n 3, 1) := by decide +kernel
theorem dX1_give_20 : decode cX1_give 20 = .ok (.iload_n 2, 1) := by decide +kernel
theorem dX1_give_21 : decode cX1_give 21 = .ok (.invokevirtual 58, 3) := by decide +kernel
theorem dX1_give_24 : decode cX1_give 24 = .ok (.invokevirtual 103, 3) := by decide +kernel
theorem dX1_give_27 : decode cX1_give 27 = .ok (.ifCond .eq 7, 3) := by decide +kernel
theorem dX1_give_30 : decode cX1_give 30 = .ok (.iconst 1, 1) := by decide +kernel
theorem dX1_give_31 : decode cX1_give 31 = .ok (.goto 4, 3) := by decide +kernel
theorem dX1_give_34 : decode cX1_give 34 = .ok (.iconst 0, 1) := by decide +kernel
theorem dX1_give_35 : decode cX1_give 35 = .ok (.istore 7, 2) := by decide +kernel
theorem dX1_give_37 : decode cX1_give 37 = .ok (.aload_n 0, 1) := by decide +kernel
theorem dX1_give_38 : decode cX1_give 38 = .ok (.iload_n 1, 1) := by decide +kernel
theorem dX1_give_39 : decode cX1_give 39 = .ok (.iload_n 2, 1) := by decide +kernel
theorem dX1_give_40 : decode cX1_give 40 = .ok (.iload_n 3, 1) := by decide +kernel
theorem dX1_give_41 : decode cX1_give 41 = .ok (.iload 4, 2) := by decide +kernel
theorem dX1_give_43 : decode cX1_give 43 = .ok (.invokevirtual 118, 3) := by decide +kernel
theorem dX1_give_46 : decode cX1_give 46 = .ok (.iload 7, 2) := by decide +kernel
theorem dX1_give_48 : decode cX1_give 48 = .ok (.ifCond .eq 14, 3) := by decide +kernel
theorem dX1_give_51 : decode cX1_give 51 = .ok (.aload_n 0, 1) := by decide +kernel
theorem dX1_give_52 : decode cX1_give 52 = .ok (.iload_n 1, 1) := by decide +kernel
theorem dX1_give_53 : decode cX1_give 53 = .ok (.iconst 1, 1) := by decide +kernel
theorem dX1_give_54 : decode cX1_give 54 = .ok (.iadd, 1) := by decide +kernel
theorem dX1_give_55 : decode cX1_give 55 = .ok (.iload_n 2, 1) := by decide +kernel
theorem dX1_give_56 : decode cX1_give 56 = .ok (.iload 6, 2) := by decide +kernel
theorem dX1_give_58 : decode cX1_give 58 = .ok (.iconst 0, 1) := by decide +kernel
theorem dX1_give_59 : decode cX1_give 59 = .ok (.invokevirtual 118, 3) := by decide +kernel
theorem dX1_give_62 : decode cX1_give 62 = .ok (.aload_n 0, 1) := by decide +kernel
theorem dX1_give_63 : decode cX1_give 63 = .ok (.iload 6, 2) := by decide +kernel
theorem dX1_give_65 : decode cX1_give 65 = .ok (.iload_n 1, 1) := by decide +kernel
theorem dX1_give_66 : decode cX1_give 66 = .ok (.iload_n 2, 1) := by decide +kernel
theorem dX1_give_67 : decode cX1_give 67 = .ok (.invokevirtual 122, 3) := by decide +kernel
theorem dX1_give_70 : decode cX1_give 70 = .ok (.ireturn, 1) := by decide +kernel
theorem dX1_take_0 : decode cX1_take 0 = .ok (.aload_n 0, 1) := by decide +kernel
theorem dX1_take_1 : decode cX1_take 1 = .ok (.iload_n 1, 1) := by decide +kernel
theorem dX1_take_2 : decode cX1_take 2 = .ok (.iload_n 2, 1) := by decide +kernel
theorem dX1_take_3 : decode cX1_take 3 = .ok (.invokevirtual 62, 3) := by decide +kernel
theorem dX1_take_6 : decode cX1_take 6 = .ok (.istore 4, 2) := by decide +kernel
theorem dX1_take_8 : decode cX1_take 8 = .ok (.aload_n 0, 1) := by decide +kernel
theorem dX1_take_9 : decode cX1_take 9 = .ok (.iload_n 1, 1) := by decide +kernel
theorem dX1_take_10 : decode cX1_take 10 = .ok (.iload_n 2, 1) := by decide +kernel
theorem dX1_take_11 : decode cX1_take 11 = .ok (.invokevirtual 111, 3) := by decide +kernel
theorem dX1_take_14 : decode cX1_take 14 = .ok (.istore 5, 2) := by decide +kernel
theorem dX1_take_16 : decode cX1_take 16 = .ok (.iload_n 3, 1) := by decide +kernel
theorem dX1_take_17 : decode cX1_take 17 = .ok (.ifCond .eq 20, 3) := by decide +kernel
theorem dX1_take_20 : decode cX1_take 20 = .ok (.aload_n 0, 1) := by decide +kernel
theorem dX1_take_21 : decode cX1_take 21 = .ok (.iload_n 1, 1) := by decide +kernel
theorem dX1_take_22 : decode cX1_take 22 = .ok (.iconst 1, 1) := by decide +kernel
theorem dX1_take_23 : decode cX1_take 23 = .ok (.iadd, 1) := by decide +kernel
theorem dX1_take_24 : decode cX1_take 24 = .ok (.iload_n 2, 1) := by decide +kernel
theorem dX1_take_25 : decode cX1_take 25 = .ok (.iload 5, 2) := by decide +kernel
theorem dX1_take_27 : decode cX1_take 27 = .ok (.invokevirtual 103, 3) := by decide +kernel
theorem dX1_take_30 : decode cX1_take 30 = .ok (.ifCond .eq 7, 3) := by decide +kernel
theorem dX1_take_33 : decode cX1_take 33 = .ok (.iconst 1, 1) := by decide +kernel
theorem dX1_take_34 : decode cX1_take 34 = .ok (.goto 4, 3) := by decide +kernel
theorem dX1_take_37 : decode cX1_take 37 = .ok (.iconst 0, 1) := by decide +kernel
theorem dX1_take_38 : decode cX1_take 38 = .ok (.istore 6, 2) := by decide +kernel
theorem dX1_take_40 : decode cX1_take 40 = .ok (.aload_n 0, 1) := by decide +kernel
theorem dX1_take_41 : decode cX1_take 41 = .ok (.iload_n 1, 1) := by decide +kernel
theorem dX1_take_42 : decode cX1_take 42 = .ok (.iload_n 2, 1) := by decide +kernel
theorem dX1_take_43 : decode cX1_take 43 = .ok (.invokevirtual 125, 3) := by decide +kernel
theorem dX1_take_46 : decode cX1_take 46 = .ok (.iload 6, 2) := by decide +kernel
theorem dX1_take_48 : decode cX1_take 48 = .ok (.ifCond .eq 14, 3) := by decide +kernel
theorem dX1_take_51 : decode cX1_take 51 = .ok (.aload_n 0, 1) := by decide +kernel
theorem dX1_take_52 : decode cX1_take 52 = .ok (.iload_n 1, 1) := by decide +kernel
theorem dX1_take_53 : decode cX1_take 53 = .ok (.iconst 1, 1) := by decide +kernel
theorem dX1_take_54 : decode cX1_take 54 = .ok (.iadd, 1) := by decide +kernel
theorem dX1_take_55 : decode cX1_take 55 = .ok (.iload_n 2, 1) := by decide +kernel
theorem dX1_take_56 : decode cX1_take 56 = .ok (.iload 4, 2) := by decide +kernel
theorem dX1_take_58 : decode cX1_take 58 = .ok (.iconst 0, 1) := by decide +kernel
theorem dX1_take_59 : decode cX1_take 59 = .ok (.invokevirtual 118, 3) := by decide +kernel
theorem dX1_take_62 : decode cX1_take 62 = .ok (.aload_n 0, 1) := by decide +kernel
theorem dX1_take_63 : decode cX1_take 63 = .ok (.iload 4, 2) := by decide +kernel
theorem dX1_take_65 : decode cX1_take 65 = .ok (.iload_n 1, 1) := by decide +kernel
theorem dX1_take_66 : decode cX1_take 66 = .ok (.iload_n 2, 1) := by decide +kernel
theorem dX1_take_67 : decode cX1_take 67 = .ok (.invokevirtual 122, 3) := by decide +kernel
theorem dX1_take_70 : decode cX1_take 70 = .ok (.ireturn, 1) := by decide +kernel
theorem dX1_changedFrom_0 : decode cX1_changedFrom 0 = .ok (.aload_n 0, 1) := by decide +kernel
theorem dX1_changedFrom_1 : decode cX1_changedFrom 1 = .ok (.iload_n 2, 1) := by decide +kernel
theorem dX1_changedFrom_2 : decode cX1_changedFrom 2 = .ok (.iload_n 3, 1) := by decide +kernel
theorem dX1_changedFrom_3 : decode cX1_changedFrom 3 = .ok (.invokevirtual 62, 3) := by decide +kernel
theorem dX1_changedFrom_6 : decode cX1_changedFrom 6 = .ok (.iload_n 1, 1) := by decide +kernel
theorem dX1_changedFrom_7 : decode cX1_changedFrom 7 = .ok (.if_icmp .ne 5, 3) := by decide +kernel
theorem dX1_changedFrom_10 : decode cX1_changedFrom 10 = .ok (.iconst 0, 1) := by decide +kernel
theorem dX1_changedFrom_11 : decode cX1_changedFrom 11 = .ok (.ireturn, 1) := by decide +kernel
theorem dX1_changedFrom_12 : decode cX1_changedFrom 12 = .ok (.iconst 1, 1) := by decide +kernel
theorem dX1_changedFrom_13 : decode cX1_changedFrom 13 = .ok (.istore 4, 2) := by decide +kernel
theorem dX1_changedFrom_15 : decode cX1_changedFrom 15 = .ok (.iload_n 2, 1) := by decide +kernel
theorem dX1_changedFrom_16 : decode cX1_changedFrom 16 = .ok (.iconst 1, 1) := by decide +kernel
theorem dX1_changedFrom_17 : decode cX1_changedFrom 17 = .ok (.iadd, 1) := by decide +kernel
theorem dX1_changedFrom_18 : decode cX1_changedFrom 18 = .ok (.istore 5, 2) := by decide +kernel
theorem dX1_changedFrom_20 : decode cX1_changedFrom 20 = .ok (.iload 5, 2) := by decide +kernel
theorem dX1_changedFrom_22 : decode cX1_changedFrom 22 = .ok (.aload_n 0, 1) := by decide +kernel
theorem dX1_changedFrom_23 : decode cX1_changedFrom 23 = .ok (.getfield 31, 3) := by decide +kernel
theorem dX1_changedFrom_26 : decode cX1_changedFrom 26 = .ok (.if_icmp .ge 26, 3) := by decide +kernel
theorem dX1_changedFrom_29 : decode cX1_changedFrom 29 = .ok (.aload_n 0, 1) := by decide +kernel
theorem dX1_changedFrom_30 : decode cX1_changedFrom 30 = .ok (.getfield 11, 3) := by decide +kernel
theorem dX1_changedFrom_33 : decode cX1_changedFrom 33 = .ok (.iload 5, 2) := by decide +kernel
theorem dX1_changedFrom_35 : decode cX1_changedFrom 35 = .ok (.aaload, 1) := by decide +kernel
theorem dX1_changedFrom_36 : decode cX1_changedFrom 36 = .ok (.iload_n 3, 1) := by decide +kernel
theorem dX1_changedFrom_37 : decode cX1_changedFrom 37 = .ok (.invokevirtual 51, 3) := by decide +kernel
theorem dX1_changedFrom_40 : decode cX1_changedFrom 40 = .ok (.ifCond .eq 12, 3) := by decide +kernel
theorem dX1_changedFrom_43 : decode cX1_changedFrom 43 = .ok (.iinc 4 1, 3) := by decide +kernel
theorem dX1_changedFrom_46 : decode cX1_changedFrom 46 = .ok (.iinc 5 1, 3) := by decide +kernel
theorem dX1_changedFrom_49 : decode cX1_changedFrom 49 = .ok (.goto (-29), 3) := by decide +kernel
theorem dX1_changedFrom_52 : decode cX1_changedFrom 52 = .ok (.iload 4, 2) := by decide +kernel
theorem dX1_changedFrom_54 : decode cX1_changedFrom 54 = .ok (.ireturn, 1) := by decide +kernel
theorem dX1_makeBlock_0 : decode cX1_makeBlock 0 = .ok (.aload_n 0, 1) := by decide +kernel
theorem dX1_makeBlock_1 : decode cX1_makeBlock 1 = .ok (.getfield 11, 3) := by decide +kernel
theorem dX1_makeBlock_4 : decode cX1_makeBlock 4 = .ok (.iload_n 1, 1) := by decide +kernel
theorem dX1_makeBlock_5 : decode cX1_makeBlock 5 = .ok (.aaload, 1) := by decide +kernel
theorem dX1_makeBlock_6 : decode cX1_makeBlock 6 = .ok (.astore_n 3, 1) := by decide +kernel
theorem dX1_makeBlock_7 : decode cX1_makeBlock 7 = .ok (.aload_n 3, 1) := by decide +kernel
theorem dX1_makeBlock_8 : decode cX1_makeBlock 8 = .ok (.getfield 65, 3) := by decide +kernel
theorem dX1_makeBlock_11 : decode cX1_makeBlock 11 = .ok (.iload_n 2, 1) := by decide +kernel
theorem dX1_makeBlock_12 : decode cX1_makeBlock 12 = .ok (.if_icmp .ne 5, 3) := by decide +kernel
theorem dX1_makeBlock_15 : decode cX1_makeBlock 15 = .ok (.iconst 0, 1) := by decide +kernel
theorem dX1_makeBlock_16 : decode cX1_makeBlock 16 = .ok (.ireturn, 1) := by decide +kernel
theorem dX1_makeBlock_17 : decode cX1_makeBlock 17 = .ok (.aload_n 3, 1) := by decide +kernel
theorem dX1_makeBlock_18 : decode cX1_makeBlock 18 = .ok (.iload_n 2, 1) := by decide +kernel
theorem dX1_makeBlock_19 : decode cX1_makeBlock 19 = .ok (.putfield 65, 3) := by decide +kernel
theorem dX1_makeBlock_22 : decode cX1_makeBlock 22 = .ok (.iconst 0, 1) := by decide +kernel
theorem dX1_makeBlock_23 : decode cX1_makeBlock 23 = .ok (.istore 4, 2) := by decide +kernel
theorem dX1_makeBlock_25 : decode cX1_makeBlock 25 = .ok (.iconst 0, 1) := by decide +kernel
theorem dX1_makeBlock_26 : decode cX1_makeBlock 26 = .ok (.istore 5, 2) := by decide +kernel
theorem dX1_makeBlock_28 : decode cX1_makeBlock 28 = .ok (.iload 5, 2) := by decide +kernel
theorem dX1_makeBlock_30 : decode cX1_makeBlock 30 = .ok (.bipush 12, 2) := by decide +kernel
theorem dX1_makeBlock_32 : decode cX1_makeBlock 32 = .ok (.if_icmp .ge 41, 3) := by decide +kernel
theorem dX1_makeBlock_35 : decode cX1_makeBlock 35 = .ok (.aload_n 3, 1) := by decide +kernel
theorem dX1_makeBlock_36 : decode cX1_makeBlock 36 = .ok (.getfield 55, 3) := by decide +kernel
theorem dX1_makeBlock_39 : decode cX1_makeBlock 39 = .ok (.iload 5, 2) := by decide +kernel
theorem dX1_makeBlock_41 : decode cX1_makeBlock 41 = .ok (.iaload, 1) := by decide +kernel
theorem dX1_makeBlock_42 : decode cX1_makeBlock 42 = .ok (.bipush (-2), 2) := by decide +kernel
theorem dX1_makeBlock_44 : decode cX1_makeBlock 44 = .ok (.if_icmp .ne 23, 3) := by decide +kernel
theorem dX1_makeBlock_47 : decode cX1_makeBlock 47 = .ok (.aload_n 0, 1) := by decide +kernel
theorem dX1_makeBlock_48 : decode cX1_makeBlock 48 = .ok (.getfield 17, 3) := by decide +kernel
theorem dX1_makeBlock_51 : decode cX1_makeBlock 51 = .ok (.iload 5, 2) := by decide +kernel
theorem dX1_makeBlock_53 : decode cX1_makeBlock 53 = .ok (.iaload, 1) := by decide +kernel
theorem dX1_makeBlock_54 : decode cX1_makeBlock 54 = .ok (.aload_n 0, 1) := by decide +kernel
theorem dX1_makeBlock_55 : decode cX1_makeBlock 55 = .ok (.iload_n 1, 1) := by decide +kernel
theorem dX1_makeBlock_56 : decode cX1_makeBlock 56 = .ok (.iload 5, 2) := by decide +kernel
theorem dX1_makeBlock_58 : decode cX1_makeBlock 58 = .ok (.invokevirtual 69, 3) := by decide +kernel
theorem dX1_makeBlock_61 : decode cX1_makeBlock 61 = .ok (.if_icmp .eq 6, 3) := by decide +kernel
theorem dX1_makeBlock_64 : decode cX1_makeBlock 64 = .ok (.iinc 4 1, 3) := by decide +kernel
theorem dX1_makeBlock_67 : decode cX1_makeBlock 67 = .ok (.iinc 5 1, 3) := by decide +kernel
theorem dX1_makeBlock_70 : decode cX1_makeBlock 70 = .ok (.goto (-42), 3) := by decide +kernel
theorem dX1_makeBlock_73 : decode cX1_makeBlock 73 = .ok (.iload 4, 2) := by decide +kernel
theorem dX1_makeBlock_75 : decode cX1_makeBlock 75 = .ok (.ireturn, 1) := by decide +kernel
theorem dX1_insertCue_0 : decode cX1_insertCue 0 = .ok (.aload_n 0, 1) := by decide +kernel
theorem dX1_insertCue_1 : decode cX1_insertCue 1 = .ok (.getfield 31, 3) := by decide +kernel
theorem dX1_insertCue_4 : decode cX1_insertCue 4 = .ok (.bipush 12, 2) := by decide +kernel
theorem dX1_insertCue_6 : decode cX1_insertCue 6 = .ok (.if_icmp .lt 4, 3) := by decide +kernel
theorem dX1_insertCue_9 : decode cX1_insertCue 9 = .ok (.return_, 1) := by decide +kernel
theorem dX1_insertCue_10 : decode cX1_insertCue 10 = .ok (.aload_n 0, 1) := by decide +kernel
theorem dX1_insertCue_11 : decode cX1_insertCue 11 = .ok (.getfield 11, 3) := by decide +kernel
theorem dX1_insertCue_14 : decode cX1_insertCue 14 = .ok (.aload_n 0, 1) := by decide +kernel
theorem dX1_insertCue_15 : decode cX1_insertCue 15 = .ok (.getfield 31, 3) := by decide +kernel
theorem dX1_insertCue_18 : decode cX1_insertCue 18 = .ok (.aaload, 1) := by decide +kernel
theorem dX1_insertCue_19 : decode cX1_insertCue 19 = .ok (.astore_n 2, 1) := by decide +kernel
theorem dX1_insertCue_20 : decode cX1_insertCue 20 = .ok (.aload_n 2, 1) := by decide +kernel
theorem dX1_insertCue_21 : decode cX1_insertCue 21 = .ok (.iload_n 1, 1) := by decide +kernel
theorem dX1_insertCue_22 : decode cX1_insertCue 22 = .ok (.invokevirtual 129, 3) := by decide +kernel
theorem dX1_insertCue_25 : decode cX1_insertCue 25 = .ok (.aload_n 0, 1) := by decide +kernel
theorem dX1_insertCue_26 : decode cX1_insertCue 26 = .ok (.getfield 31, 3) := by decide +kernel
theorem dX1_insertCue_29 : decode cX1_insertCue 29 = .ok (.istore_n 3, 1) := by decide +kernel
theorem dX1_insertCue_30 : decode cX1_insertCue 30 = .ok (.iload_n 3, 1) := by decide +kernel
theorem dX1_insertCue_31 : decode cX1_insertCue 31 = .ok (.ifCond .le 38, 3) := by decide +kernel
theorem dX1_insertCue_34 : decode cX1_insertCue 34 = .ok (.aload_n 0, 1) := by decide +kernel
theorem dX1_insertCue_35 : decode cX1_insertCue 35 = .ok (.getfield 11, 3) := by decide +kernel
theorem dX1_insertCue_38 : decode cX1_insertCue 38 = .ok (.iload_n 3, 1) := by decide +kernel
theorem dX1_insertCue_39 : decode cX1_insertCue 39 = .ok (.iconst 1, 1) := by decide +kernel
theorem dX1_insertCue_40 : decode cX1_insertCue 40 = .ok (.isub, 1) := by decide +kernel
theorem dX1_insertCue_41 : decode cX1_insertCue 41 = .ok (.aaload, 1) := by decide +kernel
theorem dX1_insertCue_42 : decode cX1_insertCue 42 = .ok (.getfield 48, 3) := by decide +kernel
theorem dX1_insertCue_45 : decode cX1_insertCue 45 = .ok (.iload_n 1, 1) := by decide +kernel
theorem dX1_insertCue_46 : decode cX1_insertCue 46 = .ok (.if_icmp .le 23, 3) := by decide +kernel
theorem dX1_insertCue_49 : decode cX1_insertCue 49 = .ok (.aload_n 0, 1) := by decide +kernel
theorem dX1_insertCue_50 : decode cX1_insertCue 50 = .ok (.getfield 11, 3) := by decide +kernel
theorem dX1_insertCue_53 : decode cX1_insertCue 53 = .ok (.iload_n 3, 1) := by decide +kernel
theorem dX1_insertCue_54 : decode cX1_insertCue 54 = .ok (.aload_n 0, 1) := by decide +kernel
theorem dX1_insertCue_55 : decode cX1_insertCue 55 = .ok (.getfield 11, 3) := by decide +kernel
theorem dX1_insertCue_58 : decode cX1_insertCue 58 = .ok (.iload_n 3, 1) := by decide +kernel
theorem dX1_insertCue_59 : decode cX1_insertCue 59 = .ok (.iconst 1, 1) := by decide +kernel
theorem dX1_insertCue_60 : decode cX1_insertCue 60 = .ok (.isub, 1) := by decide +kernel
theorem dX1_insertCue_61 : decode cX1_insertCue 61 = .ok (.aaload, 1) := by decide +kernel
theorem dX1_insertCue_62 : decode cX1_insertCue 62 = .ok (.aastore, 1) := by decide +kernel
theorem dX1_insertCue_63 : decode cX1_insertCue 63 = .ok (.iinc 3 (-1), 3) := by decide +kernel
theorem dX1_insertCue_66 : decode cX1_insertCue 66 = .ok (.goto (-36), 3) := by decide +kernel
theorem dX1_insertCue_69 : decode cX1_insertCue 69 = .ok (.aload_n 0, 1) := by decide +kernel
theorem dX1_insertCue_70 : decode cX1_insertCue 70 = .ok (.getfield 11, 3) := by decide +kernel
theorem dX1_insertCue_73 : decode cX1_insertCue 73 = .ok (.iload_n 3, 1) := by decide +kernel
theorem dX1_insertCue_74 : decode cX1_insertCue 74 = .ok (.aload_n 2, 1) := by decide +kernel
theorem dX1_insertCue_75 : decode cX1_insertCue 75 = .ok (.aastore, 1) := by decide +kernel
theorem dX1_insertCue_76 : decode cX1_insertCue 76 = .ok (.aload_n 0, 1) := by decide +kernel
theorem dX1_insertCue_77 : decode cX1_insertCue 77 = .ok (.dup, 1) := by decide +kernel
theorem dX1_insertCue_78 : decode cX1_insertCue 78 = .ok (.getfield 31, 3) := by decide +kernel
theorem dX1_insertCue_81 : decode cX1_insertCue 81 = .ok (.iconst 1, 1) := by decide +kernel
theorem dX1_insertCue_82 : decode cX1_insertCue 82 = .ok (.iadd, 1) := by decide +kernel
theorem dX1_insertCue_83 : decode cX1_insertCue 83 = .ok (.putfield 31, 3) := by decide +kernel
theorem dX1_insertCue_86 : decode cX1_insertCue 86 = .ok (.return_, 1) := by decide +kernel
theorem dX1_dropCue_0 : decode cX1_dropCue 0 = .ok (.iconst 0, 1) := by decide +kernel
theorem dX1_dropCue_1 : decode cX1_dropCue 1 = .ok (.istore_n 3, 1) := by decide +kernel
theorem dX1_dropCue_2 : decode cX1_dropCue 2 = .ok (.iload_n 3, 1) := by decide +kernel
theorem dX1_dropCue_3 : decode cX1_dropCue 3 = .ok (.bipush 12, 2) := by decide +kernel
theorem dX1_dropCue_5 : decode cX1_dropCue 5 = .ok (.if_icmp .ge 61, 3) := by decide +kernel
theorem dX1_dropCue_8 : decode cX1_dropCue 8 = .ok (.iload_n 2, 1) := by decide +kernel
theorem dX1_dropCue_9 : decode cX1_dropCue 9 = .ok (.ifCond .eq 24, 3) := by decide +kernel
theorem dX1_dropCue_12 : decode cX1_dropCue 12 = .ok (.aload_n 0, 1) := by decide +kernel
theorem dX1_dropCue_13 : decode cX1_dropCue 13 = .ok (.iload_n 1, 1) := by decide +kernel
theorem dX1_dropCue_14 : decode cX1_dropCue 14 = .ok (.iconst 1, 1) := by decide +kernel
theorem dX1_dropCue_15 : decode cX1_dropCue 15 = .ok (.iadd, 1) := by decide +kernel
theorem dX1_dropCue_16 : decode cX1_dropCue 16 = .ok (.iload_n 3, 1) := by decide +kernel
theorem dX1_dropCue_17 : decode cX1_dropCue 17 = .ok (.aload_n 0, 1) := by decide +kernel
theorem dX1_dropCue_18 : decode cX1_dropCue 18 = .ok (.iload_n 1, 1) := by decide +kernel
theorem dX1_dropCue_19 : decode cX1_dropCue 19 = .ok (.iload_n 3, 1) := by decide +kernel
theorem dX1_dropCue_20 : decode cX1_dropCue 20 = .ok (.invokevirtual 69, 3) := by decide +kernel
theorem dX1_dropCue_23 : decode cX1_dropCue 23 = .ok (.invokevirtual 103, 3) := by decide +kernel
theorem dX1_dropCue_26 : decode cX1_dropCue 26 = .ok (.ifCond .eq 7, 3) := by decide +kernel
theorem dX1_dropCue_29 : decode cX1_dropCue 29 = .ok (.iconst 1, 1) := by decide +kernel
theorem dX1_dropCue_30 : decode cX1_dropCue 30 = .ok (.goto 4, 3) := by decide +kernel
theorem dX1_dropCue_33 : decode cX1_dropCue 33 = .ok (.iconst 0, 1) := by decide +kernel
theorem dX1_dropCue_34 : decode cX1_dropCue 34 = .ok (.istore 4, 2) := by decide +kernel
theorem dX1_dropCue_36 : decode cX1_dropCue 36 = .ok (.aload_n 0, 1) := by decide +kernel
theorem dX1_dropCue_37 : decode cX1_dropCue 37 = .ok (.getfield 27, 3) := by decide +kernel
theorem dX1_dropCue_40 : decode cX1_dropCue 40 = .ok (.iload_n 3, 1) := by decide +kernel
theorem dX1_dropCue_41 : decode cX1_dropCue 41 = .ok (.iload 4, 2) := by decide +kernel
theorem dX1_dropCue_43 : decode cX1_dropCue 43 = .ok (.ifCond .eq 14, 3) := by decide +kernel
theorem dX1_dropCue_46 : decode cX1_dropCue 46 = .ok (.aload_n 0, 1) := by decide +kernel
theorem dX1_dropCue_47 : decode cX1_dropCue 47 = .ok (.iload_n 1, 1) := by decide +kernel
theorem dX1_dropCue_48 : decode cX1_dropCue 48 = .ok (.iconst 1, 1) := by decide +kernel
theorem dX1_dropCue_49 : decode cX1_dropCue 49 = .ok (.iadd, 1) := by decide +kernel
theorem dX1_dropCue_50 : decode cX1_dropCue 50 = .ok (.iload_n 3, 1) := by decide +kernel
theorem dX1_dropCue_51 : decode cX1_dropCue 51 = .ok (.invokevirtual 62, 3) := by decide +kernel
theorem dX1_dropCue_54 : decode cX1_dropCue 54 = .ok (.goto 5, 3) := by decide +kernel
theorem dX1_dropCue_57 : decode cX1_dropCue 57 = .ok (.bipush (-2), 2) := by decide +kernel
theorem dX1_dropCue_59 : decode cX1_dropCue 59 = .ok (.iastore, 1) := by decide +kernel
theorem dX1_dropCue_60 : decode cX1_dropCue 60 = .ok (.iinc 3 1, 3) := by decide +kernel
theorem dX1_dropCue_63 : decode cX1_dropCue 63 = .ok (.goto (-61), 3) := by decide +kernel
theorem dX1_dropCue_66 : decode cX1_dropCue 66 = .ok (.aload_n 0, 1) := by decide +kernel
theorem dX1_dropCue_67 : decode cX1_dropCue 67 = .ok (.iload_n 1, 1) := by decide +kernel
theorem dX1_dropCue_68 : decode cX1_dropCue 68 = .ok (.invokevirtual 133, 3) := by decide +kernel
theorem dX1_dropCue_71 : decode cX1_dropCue 71 = .ok (.istore_n 3, 1) := by decide +kernel
theorem dX1_dropCue_72 : decode cX1_dropCue 72 = .ok (.iconst 0, 1) := by decide +kernel
theorem dX1_dropCue_73 : decode cX1_dropCue 73 = .ok (.istore 4, 2) := by decide +kernel
theorem dX1_dropCue_75 : decode cX1_dropCue 75 = .ok (.iload 4, 2) := by decide +kernel
theorem dX1_dropCue_77 : decode cX1_dropCue 77 = .ok (.bipush 12, 2) := by decide +kernel
theorem dX1_dropCue_79 : decode cX1_dropCue 79 = .ok (.if_icmp .ge 36, 3) := by decide +kernel
theorem dX1_dropCue_82 : decode cX1_dropCue 82 = .ok (.aload_n 0, 1) := by decide +kernel
theorem dX1_dropCue_83 : decode cX1_dropCue 83 = .ok (.getfield 27, 3) := by decide +kernel
theorem dX1_dropCue_86 : decode cX1_dropCue 86 = .ok (.iload 4, 2) := by decide +kernel
theorem dX1_dropCue_88 : decode cX1_dropCue 88 = .ok (.iaload, 1) := by decide +kernel
theorem dX1_dropCue_89 : decode cX1_dropCue 89 = .ok (.bipush (-2), 2) := by decide +kernel
theorem dX1_dropCue_91 : decode cX1_dropCue 91 = .ok (.if_icmp .eq 18, 3) := by decide +kernel
theorem dX1_dropCue_94 : decode cX1_dropCue 94 = .ok (.aload_n 0, 1) := by decide +kernel
theorem dX1_dropCue_95 : decode cX1_dropCue 95 = .ok (.iload_n 1, 1) := by decide +kernel
theorem dX1_dropCue_96 : decode cX1_dropCue 96 = .ok (.iload 4, 2) := by decide +kernel
theorem dX1_dropCue_98 : decode cX1_dropCue 98 = .ok (.aload_n 0, 1) := by decide +kernel
theorem dX1_dropCue_99 : decode cX1_dropCue 99 = .ok (.getfield 27, 3) := by decide +kernel
theorem dX1_dropCue_102 : decode cX1_dropCue 102 = .ok (.iload 4, 2) := by decide +kernel
theorem dX1_dropCue_104 : decode cX1_dropCue 104 = .ok (.iaload, 1) := by decide +kernel
theorem dX1_dropCue_105 : decode cX1_dropCue 105 = .ok (.iconst 0, 1) := by decide +kernel
theorem dX1_dropCue_106 : decode cX1_dropCue 106 = .ok (.invokevirtual 118, 3) := by decide +kernel
theorem dX1_dropCue_109 : decode cX1_dropCue 109 = .ok (.iinc 4 1, 3) := by decide +kernel
theorem dX1_dropCue_112 : decode cX1_dropCue 112 = .ok (.goto (-37), 3) := by decide +kernel
theorem dX1_dropCue_115 : decode cX1_dropCue 115 = .ok (.iload_n 3, 1) := by decide +kernel
theorem dX1_dropCue_116 : decode cX1_dropCue 116 = .ok (.ireturn, 1) := by decide +kernel
theorem dX1_deleteCue_0 : decode cX1_deleteCue 0 = .ok (.aload_n 0, 1) := by decide +kernel
theorem dX1_deleteCue_1 : decode cX1_deleteCue 1 = .ok (.getfield 11, 3) := by decide +kernel
theorem dX1_deleteCue_4 : decode cX1_deleteCue 4 = .ok (.iload_n 1, 1) := by decide +kernel
theorem dX1_deleteCue_5 : decode cX1_deleteCue 5 = .ok (.aaload, 1) := by decide +kernel
theorem dX1_deleteCue_6 : decode cX1_deleteCue 6 = .ok (.astore_n 2, 1) := by decide +kernel
theorem dX1_deleteCue_7 : decode cX1_deleteCue 7 = .ok (.iconst 0, 1) := by decide +kernel
theorem dX1_deleteCue_8 : decode cX1_deleteCue 8 = .ok (.istore_n 3, 1) := by decide +kernel
theorem dX1_deleteCue_9 : decode cX1_deleteCue 9 = .ok (.iconst 0, 1) := by decide +kernel
theorem dX1_deleteCue_10 : decode cX1_deleteCue 10 = .ok (.istore 4, 2) := by decide +kernel
theorem dX1_deleteCue_12 : decode cX1_deleteCue 12 = .ok (.iload 4, 2) := by decide +kernel
theorem dX1_deleteCue_14 : decode cX1_deleteCue 14 = .ok (.bipush 12, 2) := by decide +kernel
theorem dX1_deleteCue_16 : decode cX1_deleteCue 16 = .ok (.if_icmp .ge 31, 3) := by decide +kernel
theorem dX1_deleteCue_19 : decode cX1_deleteCue 19 = .ok (.aload_n 2, 1) := by decide +kernel
theorem dX1_deleteCue_20 : decode cX1_deleteCue 20 = .ok (.getfield 55, 3) := by decide +kernel
theorem dX1_deleteCue_23 : decode cX1_deleteCue 23 = .ok (.iload 4, 2) := by decide +kernel
theorem dX1_deleteCue_25 : decode cX1_deleteCue 25 = .ok (.iaload, 1) := by decide +kernel
theorem dX1_deleteCue_26 : decode cX1_deleteCue 26 = .ok (.bipush (-2), 2) := by decide +kernel
theorem dX1_deleteCue_28 : decode cX1_deleteCue 28 = .ok (.if_icmp .eq 13, 3) := by decide +kernel
theorem dX1_deleteCue_31 : decode cX1_deleteCue 31 = .ok (.aload_n 0, 1) := by decide +kernel
theorem dX1_deleteCue_32 : decode cX1_deleteCue 32 = .ok (.iload_n 1, 1) := by decide +kernel
theorem dX1_deleteCue_33 : decode cX1_deleteCue 33 = .ok (.iload 4, 2) := by decide +kernel
theorem dX1_deleteCue_35 : decode cX1_deleteCue 35 = .ok (.invokevirtual 125, 3) := by decide +kernel
theorem dX1_deleteCue_38 : decode cX1_deleteCue 38 = .ok (.iinc 3 1, 3) := by decide +kernel
theorem dX1_deleteCue_41 : decode cX1_deleteCue 41 = .ok (.iinc 4 1, 3) := by decide +kernel
theorem dX1_deleteCue_44 : decode cX1_deleteCue 44 = .ok (.goto (-32), 3) := by decide +kernel
theorem dX1_deleteCue_47 : decode cX1_deleteCue 47 = .ok (.aload_n 0, 1) := by decide +kernel
theorem dX1_deleteCue_48 : decode cX1_deleteCue 48 = .ok (.dup, 1) := by decide +kernel
theorem dX1_deleteCue_49 : decode cX1_deleteCue 49 = .ok (.getfield 31, 3) := by decide +kernel
theorem dX1_deleteCue_52 : decode cX1_deleteCue 52 = .ok (.iconst 1, 1) := by decide +kernel
theorem dX1_deleteCue_53 : decode cX1_deleteCue 53 = .ok (.isub, 1) := by decide +kernel
theorem dX1_deleteCue_54 : decode cX1_deleteCue 54 = .ok (.putfield 31, 3) := by decide +kernel
theorem dX1_deleteCue_57 : decode cX1_deleteCue 57 = .ok (.iload_n 1, 1) := by decide +kernel
theorem dX1_deleteCue_58 : decode cX1_deleteCue 58 = .ok (.istore 4, 2) := by decide +kernel
theorem dX1_deleteCue_60 : decode cX1_deleteCue 60 = .ok (.iload 4, 2) := by decide +kernel
theorem dX1_deleteCue_62 : decode cX1_deleteCue 62 = .ok (.aload_n 0, 1) := by decide +kernel
theorem dX1_deleteCue_63 : decode cX1_deleteCue 63 = .ok (.getfield 31, 3) := by decide +kernel
theorem dX1_deleteCue_66 : decode cX1_deleteCue 66 = .ok (.if_icmp .ge 25, 3) := by decide +kernel
theorem dX1_deleteCue_69 : decode cX1_deleteCue 69 = .ok (.aload_n 0, 1) := by decide +kernel
theorem dX1_deleteCue_70 : decode cX1_deleteCue 70 = .ok (.getfield 11, 3) := by decide +kernel
theorem dX1_deleteCue_73 : decode cX1_deleteCue 73 = .ok (.iload 4, 2) := by decide +kernel
theorem dX1_deleteCue_75 : decode cX1_deleteCue 75 = .ok (.aload_n 0, 1) := by decide +kernel
theorem dX1_deleteCue_76 : decode cX1_deleteCue 76 = .ok (.getfield 11, 3) := by decide +kernel
theorem dX1_deleteCue_79 : decode cX1_deleteCue 79 = .ok (.iload 4, 2) := by decide +kernel
theorem dX1_deleteCue_81 : decode cX1_deleteCue 81 = .ok (.iconst 1, 1) := by decide +kernel
theorem dX1_deleteCue_82 : decode cX1_deleteCue 82 = .ok (.iadd, 1) := by decide +kernel
theorem dX1_deleteCue_83 : decode cX1_deleteCue 83 = .ok (.aaload, 1) := by decide +kernel
theorem dX1_deleteCue_84 : decode cX1_deleteCue 84 = .ok (.aastore, 1) := by decide +kernel
theorem dX1_deleteCue_85 : decode cX1_deleteCue 85 = .ok (.iinc 4 1, 3) := by decide +kernel
theorem dX1_deleteCue_88 : decode cX1_deleteCue 88 = .ok (.goto (-28), 3) := by decide +kernel
theorem dX1_deleteCue_91 : decode cX1_deleteCue 91 = .ok (.aload_n 0, 1) := by decide +kernel
theorem dX1_deleteCue_92 : decode cX1_deleteCue 92 = .ok (.getfield 11, 3) := by decide +kernel
theorem dX1_deleteCue_95 : decode cX1_deleteCue 95 = .ok (.aload_n 0, 1) := by decide +kernel
theorem dX1_deleteCue_96 : decode cX1_deleteCue 96 = .ok (.getfield 31, 3) := by decide +kernel
theorem dX1_deleteCue_99 : decode cX1_deleteCue 99 = .ok (.aload_n 2, 1) := by decide +kernel
theorem dX1_deleteCue_100 : decode cX1_deleteCue 100 = .ok (.aastore, 1) := by decide +kernel
theorem dX1_deleteCue_101 : decode cX1_deleteCue 101 = .ok (.iload_n 3, 1) := by decide +kernel
theorem dX1_deleteCue_102 : decode cX1_deleteCue 102 = .ok (.ireturn, 1) := by decide +kernel
theorem dX1_sumOfMoving_0 : decode cX1_sumOfMoving 0 = .ok (.iconst 0, 1) := by decide +kernel
theorem dX1_sumOfMoving_1 : decode cX1_sumOfMoving 1 = .ok (.istore_n 1, 1) := by decide +kernel
theorem dX1_sumOfMoving_2 : decode cX1_sumOfMoving 2 = .ok (.iconst 0, 1) := by decide +kernel
theorem dX1_sumOfMoving_3 : decode cX1_sumOfMoving 3 = .ok (.istore_n 2, 1) := by decide +kernel
theorem dX1_sumOfMoving_4 : decode cX1_sumOfMoving 4 = .ok (.iload_n 2, 1) := by decide +kernel
theorem dX1_sumOfMoving_5 : decode cX1_sumOfMoving 5 = .ok (.aload_n 0, 1) := by decide +kernel
theorem dX1_sumOfMoving_6 : decode cX1_sumOfMoving 6 = .ok (.getfield 31, 3) := by decide +kernel
theorem dX1_sumOfMoving_9 : decode cX1_sumOfMoving 9 = .ok (.if_icmp .ge 20, 3) := by decide +kernel
theorem dX1_sumOfMoving_12 : decode cX1_sumOfMoving 12 = .ok (.iload_n 1, 1) := by decide +kernel
theorem dX1_sumOfMoving_13 : decode cX1_sumOfMoving 13 = .ok (.aload_n 0, 1) := by decide +kernel
theorem dX1_sumOfMoving_14 : decode cX1_sumOfMoving 14 = .ok (.iload_n 2, 1) := by decide +kernel
theorem dX1_sumOfMoving_15 : decode cX1_sumOfMoving 15 = .ok (.invokevirtual 136, 3) := by decide +kernel
theorem dX1_sumOfMoving_18 : decode cX1_sumOfMoving 18 = .ok (.invokestatic 139, 3) := by decide +kernel
theorem dX1_sumOfMoving_21 : decode cX1_sumOfMoving 21 = .ok (.iadd, 1) := by decide +kernel
theorem dX1_sumOfMoving_22 : decode cX1_sumOfMoving 22 = .ok (.istore_n 1, 1) := by decide +kernel
theorem dX1_sumOfMoving_23 : decode cX1_sumOfMoving 23 = .ok (.iinc 2 1, 3) := by decide +kernel
theorem dX1_sumOfMoving_26 : decode cX1_sumOfMoving 26 = .ok (.goto (-22), 3) := by decide +kernel
theorem dX1_sumOfMoving_29 : decode cX1_sumOfMoving 29 = .ok (.iload_n 1, 1) := by decide +kernel
theorem dX1_sumOfMoving_30 : decode cX1_sumOfMoving 30 = .ok (.ireturn, 1) := by decide +kernel
theorem dX1_protectedCount_0 : decode cX1_protectedCount 0 = .ok (.iconst 0, 1) := by decide +kernel
theorem dX1_protectedCount_1 : decode cX1_protectedCount 1 = .ok (.istore_n 1, 1) := by decide +kernel
theorem dX1_protectedCount_2 : decode cX1_protectedCount 2 = .ok (.iconst 0, 1) := by decide +kernel
theorem dX1_protectedCount_3 : decode cX1_protectedCount 3 = .ok (.istore_n 2, 1) := by decide +kernel
theorem dX1_protectedCount_4 : decode cX1_protectedCount 4 = .ok (.iload_n 2, 1) := by decide +kernel
theorem dX1_protectedCount_5 : decode cX1_protectedCount 5 = .ok (.aload_n 0, 1) := by decide +kernel
theorem dX1_protectedCount_6 : decode cX1_protectedCount 6 = .ok (.getfield 31, 3) := by decide +kernel
theorem dX1_protectedCount_9 : decode cX1_protectedCount 9 = .ok (.if_icmp .ge 24, 3) := by decide +kernel
theorem dX1_protectedCount_12 : decode cX1_protectedCount 12 = .ok (.aload_n 0, 1) := by decide +kernel
theorem dX1_protectedCount_13 : decode cX1_protectedCount 13 = .ok (.getfield 11, 3) := by decide +kernel
theorem dX1_protectedCount_16 : decode cX1_protectedCount 16 = .ok (.iload_n 2, 1) := by decide +kernel
theorem dX1_protectedCount_17 : decode cX1_protectedCount 17 = .ok (.aaload, 1) := by decide +kernel
theorem dX1_protectedCount_18 : decode cX1_protectedCount 18 = .ok (.getfield 100, 3) := by decide +kernel
theorem dX1_protectedCount_21 : decode cX1_protectedCount 21 = .ok (.ifCond .eq 6, 3) := by decide +kernel
theorem dX1_protectedCount_24 : decode cX1_protectedCount 24 = .ok (.iinc 1 1, 3) := by decide +kernel
theorem dX1_protectedCount_27 : decode cX1_protectedCount 27 = .ok (.iinc 2 1, 3) := by decide +kernel
theorem dX1_protectedCount_30 : decode cX1_protectedCount 30 = .ok (.goto (-26), 3) := by decide +kernel
theorem dX1_protectedCount_33 : decode cX1_protectedCount 33 = .ok (.iload_n 1, 1) := by decide +kernel
theorem dX1_protectedCount_34 : decode cX1_protectedCount 34 = .ok (.ireturn, 1) := by decide +kernel
theorem dX1_blockCount_0 : decode cX1_blockCount 0 = .ok (.iconst 0, 1) := by decide +kernel
theorem dX1_blockCount_1 : decode cX1_blockCount 1 = .ok (.istore_n 1, 1) := by decide +kernel
theorem dX1_blockCount_2 : decode cX1_blockCount 2 = .ok (.iconst 0, 1) := by decide +kernel
theorem dX1_blockCount_3 : decode cX1_blockCount 3 = .ok (.istore_n 2, 1) := by decide +kernel
theorem dX1_blockCount_4 : decode cX1_blockCount 4 = .ok (.iload_n 2, 1) := by decide +kernel
theorem dX1_blockCount_5 : decode cX1_blockCount 5 = .ok (.aload_n 0, 1) := by decide +kernel
theorem dX1_blockCount_6 : decode cX1_blockCount 6 = .ok (.getfield 31, 3) := by decide +kernel
theorem dX1_blockCount_9 : decode cX1_blockCount 9 = .ok (.if_icmp .ge 24, 3) := by decide +kernel
theorem dX1_blockCount_12 : decode cX1_blockCount 12 = .ok (.aload_n 0, 1) := by decide +kernel
theorem dX1_blockCount_13 : decode cX1_blockCount 13 = .ok (.getfield 11, 3) := by decide +kernel
theorem dX1_blockCount_16 : decode cX1_blockCount 16 = .ok (.iload_n 2, 1) := by decide +kernel
theorem dX1_blockCount_17 : decode cX1_blockCount 17 = .ok (.aaload, 1) := by decide +kernel
theorem dX1_blockCount_18 : decode cX1_blockCount 18 = .ok (.getfield 65, 3) := by decide +kernel
theorem dX1_blockCount_21 : decode cX1_blockCount 21 = .ok (.ifCond .eq 6, 3) := by decide +kernel
theorem dX1_blockCount_24 : decode cX1_blockCount 24 = .ok (.iinc 1 1, 3) := by decide +kernel
theorem dX1_blockCount_27 : decode cX1_blockCount 27 = .ok (.iinc 2 1, 3) := by decide +kernel
theorem dX1_blockCount_30 : decode cX1_blockCount 30 = .ok (.goto (-26), 3) := by decide +kernel
theorem dX1_blockCount_33 : decode cX1_blockCount 33 = .ok (.iload_n 1, 1) := by decide +kernel
theorem dX1_blockCount_34 : decode cX1_blockCount 34 = .ok (.ireturn, 1) := by decide +kernel
theorem dX1_releaseCount_0 : decode cX1_releaseCount 0 = .ok (.iconst 0, 1) := by decide +kernel
theorem dX1_releaseCount_1 : decode cX1_releaseCount 1 = .ok (.istore_n 1, 1) := by decide +kernel
theorem dX1_releaseCount_2 : decode cX1_releaseCount 2 = .ok (.iconst 0, 1) := by decide +kernel
theorem dX1_releaseCount_3 : decode cX1_releaseCount 3 = .ok (.istore_n 2, 1) := by decide +kernel
theorem dX1_releaseCount_4 : decode cX1_releaseCount 4 = .ok (.iload_n 2, 1) := by decide +kernel
theorem dX1_releaseCount_5 : decode cX1_releaseCount 5 = .ok (.aload_n 0, 1) := by decide +kernel
theorem dX1_releaseCount_6 : decode cX1_releaseCount 6 = .ok (.getfield 35, 3) := by decide +kernel
theorem dX1_releaseCount_9 : decode cX1_releaseCount 9 = .ok (.if_icmp .ge 21, 3) := by decide +kernel
theorem dX1_releaseCount_12 : decode cX1_releaseCount 12 = .ok (.aload_n 0, 1) := by decide +kernel
theorem dX1_releaseCount_13 : decode cX1_releaseCount 13 = .ok (.iload_n 2, 1) := by decide +kernel
theorem dX1_releaseCount_14 : decode cX1_releaseCount 14 = .ok (.invokevirtual 144, 3) := by decide +kernel
theorem dX1_releaseCount_17 : decode cX1_releaseCount 17 = .ok (.iconst (-1), 1) := by decide +kernel
theorem dX1_releaseCount_18 : decode cX1_releaseCount 18 = .ok (.if_icmp .ne 6, 3) := by decide +kernel
theorem dX1_releaseCount_21 : decode cX1_releaseCount 21 = .ok (.iinc 1 1, 3) := by decide +kernel
theorem dX1_releaseCount_24 : decode cX1_releaseCount 24 = .ok (.iinc 2 1, 3) := by decide +kernel
theorem dX1_releaseCount_27 : decode cX1_releaseCount 27 = .ok (.goto (-23), 3) := by decide +kernel
theorem dX1_releaseCount_30 : decode cX1_releaseCount 30 = .ok (.iload_n 1, 1) := by decide +kernel
theorem dX1_releaseCount_31 : decode cX1_releaseCount 31 = .ok (.ireturn, 1) := by decide +kernel
theorem dX2_init_0 : decode cX2_init 0 = .ok (.aload_n 0, 1) := by decide +kernel
theorem dX2_init_1 : decode cX2_init 1 = .ok (.invokespecial 3, 3) := by decide +kernel
theorem dX2_init_4 : decode cX2_init 4 = .ok (.aload_n 0, 1) := by decide +kernel
theorem dX2_init_5 : decode cX2_init 5 = .ok (.bipush 7, 2) := by decide +kernel
theorem dX2_init_7 : decode cX2_init 7 = .ok (.anewarray 11, 3) := by decide +kernel
theorem dX2_init_10 : decode cX2_init 10 = .ok (.putfield 13, 3) := by decide +kernel
theorem dX2_init_13 : decode cX2_init 13 = .ok (.iconst 0, 1) := by decide +kernel
theorem dX2_init_14 : decode cX2_init 14 = .ok (.istore_n 1, 1) := by decide +kernel
theorem dX2_init_15 : decode cX2_init 15 = .ok (.iload_n 1, 1) := by decide +kernel
theorem dX2_init_16 : decode cX2_init 16 = .ok (.bipush 7, 2) := by decide +kernel
theorem dX2_init_18 : decode cX2_init 18 = .ok (.if_icmp .ge 22, 3) := by decide +kernel
theorem dX2_init_21 : decode cX2_init 21 = .ok (.aload_n 0, 1) := by decide +kernel
theorem dX2_init_22 : decode cX2_init 22 = .ok (.getfield 13, 3) := by decide +kernel
theorem dX2_init_25 : decode cX2_init 25 = .ok (.iload_n 1, 1) := by decide +kernel
theorem dX2_init_26 : decode cX2_init 26 = .ok (.new 11, 3) := by decide +kernel
theorem dX2_init_29 : decode cX2_init 29 = .ok (.dup, 1) := by decide +kernel
theorem dX2_init_30 : decode cX2_init 30 = .ok (.invokespecial 17, 3) := by decide +kernel
theorem dX2_init_33 : decode cX2_init 33 = .ok (.aastore, 1) := by decide +kernel
theorem dX2_init_34 : decode cX2_init 34 = .ok (.iinc 1 1, 3) := by decide +kernel
theorem dX2_init_37 : decode cX2_init 37 = .ok (.goto (-22), 3) := by decide +kernel
theorem dX2_init_40 : decode cX2_init 40 = .ok (.return_, 1) := by decide +kernel
theorem dX2_remember_0 : decode cX2_remember 0 = .ok (.aload_n 0, 1) := by decide +kernel
theorem dX2_remember_1 : decode cX2_remember 1 = .ok (.aload_n 1, 1) := by decide +kernel
theorem dX2_remember_2 : decode cX2_remember 2 = .ok (.invokevirtual 18, 3) := by decide +kernel
theorem dX2_remember_5 : decode cX2_remember 5 = .ok (.aload_n 0, 1) := by decide +kernel
theorem dX2_remember_6 : decode cX2_remember 6 = .ok (.invokevirtual 22, 3) := by decide +kernel
theorem dX2_remember_9 : decode cX2_remember 9 = .ok (.return_, 1) := by decide +kernel
theorem dX2_prepare_0 : decode cX2_prepare 0 = .ok (.aload_n 0, 1) := by decide +kernel
theorem dX2_prepare_1 : decode cX2_prepare 1 = .ok (.getfield 13, 3) := by decide +kernel
theorem dX2_prepare_4 : decode cX2_prepare 4 = .ok (.aload_n 0, 1) := by decide +kernel
theorem dX2_prepare_5 : decode cX2_prepare 5 = .ok (.getfield 25, 3) := by decide +kernel
theorem dX2_prepare_8 : decode cX2_prepare 8 = .ok (.aaload, 1) := by decide +kernel
theorem dX2_prepare_9 : decode cX2_prepare 9 = .ok (.aload_n 1, 1) := by decide +kernel
theorem dX2_prepare_10 : decode cX2_prepare 10 = .ok (.invokevirtual 29, 3) := by decide +kernel
theorem dX2_prepare_13 : decode cX2_prepare 13 = .ok (.return_, 1) := by decide +kernel
theorem dX2_takePrepared_0 : decode cX2_takePrepared 0 = .ok (.aload_n 1, 1) := by decide +kernel
theorem dX2_takePrepared_1 : decode cX2_takePrepared 1 = .ok (.aload_n 0, 1) := by decide +kernel
theorem dX2_takePrepared_2 : decode cX2_takePrepared 2 = .ok (.getfield 13, 3) := by decide +kernel
theorem dX2_takePrepared_5 : decode cX2_takePrepared 5 = .ok (.aload_n 0, 1) := by decide +kernel
theorem dX2_takePrepared_6 : decode cX2_takePrepared 6 = .ok (.getfield 25, 3) := by decide +kernel
theorem dX2_takePrepared_9 : decode cX2_takePrepared 9 = .ok (.aaload, 1) := by decide +kernel
theorem dX2_takePrepared_10 : decode cX2_takePrepared 10 = .ok (.invokevirtual 29, 3) := by decide +kernel
theorem dX2_takePrepared_13 : decode cX2_takePrepared 13 = .ok (.return_, 1) := by decide +kernel
theorem dX2_countPrepared_0 : decode cX2_countPrepared 0 = .ok (.aload_n 0, 1) := by decide +kernel
theorem dX2_countPrepared_1 : decode cX2_countPrepared 1 = .ok (.aload_n 0, 1) := by decide +kernel
theorem dX2_countPrepared_2 : decode cX2_countPrepared 2 = .ok (.getfield 25, 3) := by decide +kernel
theorem dX2_countPrepared_5 : decode cX2_countPrepared 5 = .ok (.iconst 1, 1) := by decide +kernel
theorem dX2_countPrepared_6 : decode cX2_countPrepared 6 = .ok (.iadd, 1) := by decide +kernel
theorem dX2_countPrepared_7 : decode cX2_countPrepared 7 = .ok (.bipush 7, 2) := by decide +kernel
theorem dX2_countPrepared_9 : decode cX2_countPrepared 9 = .ok (.irem, 1) := by decide +kernel
theorem dX2_countPrepared_10 : decode cX2_countPrepared 10 = .ok (.putfield 25, 3) := by decide +kernel
theorem dX2_countPrepared_13 : decode cX2_countPrepared 13 = .ok (.aload_n 0, 1) := by decide +kernel
theorem dX2_countPrepared_14 : decode cX2_countPrepared 14 = .ok (.aload_n 0, 1) := by decide +kernel
theorem dX2_countPrepared_15 : decode cX2_countPrepared 15 = .ok (.getfield 32, 3) := by decide +kernel
theorem dX2_countPrepared_18 : decode cX2_countPrepared 18 = .ok (.iconst 1, 1) := by decide +kernel
theorem dX2_countPrepared_19 : decode cX2_countPrepared 19 = .ok (.iadd, 1) := by decide +kernel
theorem dX2_countPrepared_20 : decode cX2_countPrepared 20 = .ok (.bipush 6, 2) := by decide +kernel
theorem dX2_countPrepared_22 : decode cX2_countPrepared 22 = .ok (.invokestatic 35, 3) := by decide +kernel
theorem dX2_countPrepared_25 : decode cX2_countPrepared 25 = .ok (.putfield 32, 3) := by decide +kernel
theorem dX2_countPrepared_28 : decode cX2_countPrepared 28 = .ok (.return_, 1) := by decide +kernel
theorem dX2_takeLatest_0 : decode cX2_takeLatest 0 = .ok (.aload_n 0, 1) := by decide +kernel
theorem dX2_takeLatest_1 : decode cX2_takeLatest 1 = .ok (.aload_n 0, 1) := by decide +kernel
theorem dX2_takeLatest_2 : decode cX2_takeLatest 2 = .ok (.getfield 25, 3) := by decide +kernel
theorem dX2_takeLatest_5 : decode cX2_takeLatest 5 = .ok (.bipush 7, 2) := by decide +kernel
theorem dX2_takeLatest_7 : decode cX2_takeLatest 7 = .ok (.iadd, 1) := by decide +kernel
theorem dX2_takeLatest_8 : decode cX2_takeLatest 8 = .ok (.iconst 1, 1) := by decide +kernel
theorem dX2_takeLatest_9 : decode cX2_takeLatest 9 = .ok (.isub, 1) := by decide +kernel
theorem dX2_takeLatest_10 : decode cX2_takeLatest 10 = .ok (.bipush 7, 2) := by decide +kernel
theorem dX2_takeLatest_12 : decode cX2_takeLatest 12 = .ok (.irem, 1) := by decide +kernel
theorem dX2_takeLatest_13 : decode cX2_takeLatest 13 = .ok (.putfield 25, 3) := by decide +kernel
theorem dX2_takeLatest_16 : decode cX2_takeLatest 16 = .ok (.aload_n 0, 1) := by decide +kernel
theorem dX2_takeLatest_17 : decode cX2_takeLatest 17 = .ok (.dup, 1) := by decide +kernel
theorem dX2_takeLatest_18 : decode cX2_takeLatest 18 = .ok (.getfield 32, 3) := by decide +kernel
theorem dX2_takeLatest_21 : decode cX2_takeLatest 21 = .ok (.iconst 1, 1) := by decide +kernel
theorem dX2_takeLatest_22 : decode cX2_takeLatest 22 = .ok (.isub, 1) := by decide +kernel
theorem dX2_takeLatest_23 : decode cX2_takeLatest 23 = .ok (.putfield 32, 3) := by decide +kernel
theorem dX2_takeLatest_26 : decode cX2_takeLatest 26 = .ok (.aload_n 1, 1) := by decide +kernel
theorem dX2_takeLatest_27 : decode cX2_takeLatest 27 = .ok (.aload_n 0, 1) := by decide +kernel
theorem dX2_takeLatest_28 : decode cX2_takeLatest 28 = .ok (.getfield 13, 3) := by decide +kernel
theorem dX2_takeLatest_31 : decode cX2_takeLatest 31 = .ok (.aload_n 0, 1) := by decide +kernel
theorem dX2_takeLatest_32 : decode cX2_takeLatest 32 = .ok (.getfield 25, 3) := by decide +kernel
theorem dX2_takeLatest_35 : decode cX2_takeLatest 35 = .ok (.aaload, 1) := by decide +kernel
theorem dX2_takeLatest_36 : decode cX2_takeLatest 36 = .ok (.invokevirtual 29, 3) := by decide +kernel
theorem dX2_takeLatest_39 : decode cX2_takeLatest 39 = .ok (.return_, 1) := by decide +kernel
theorem dX2_forgetAll_0 : decode cX2_forgetAll 0 = .ok (.aload_n 0, 1) := by decide +kernel
theorem dX2_forgetAll_1 : decode cX2_forgetAll 1 = .ok (.iconst 0, 1) := by decide +kernel
theorem dX2_forgetAll_2 : decode cX2_forgetAll 2 = .ok (.putfield 32, 3) := by decide +kernel
theorem dX2_forgetAll_5 : decode cX2_forgetAll 5 = .ok (.return_, 1) := by decide +kernel
theorem dX3_init_0 : decode cX3_init 0 = .ok (.aload_n 0, 1) := by decide +kernel
theorem dX3_init_1 : decode cX3_init 1 = .ok (.invokespecial 3, 3) := by decide +kernel
theorem dX3_init_4 : decode cX3_init 4 = .ok (.aload_n 0, 1) := by decide +kernel
theorem dX3_init_5 : decode cX3_init 5 = .ok (.bipush 60, 2) := by decide +kernel
theorem dX3_init_7 : decode cX3_init 7 = .ok (.newarray .char, 2) := by decide +kernel
theorem dX3_init_9 : decode cX3_init 9 = .ok (.putfield 9, 3) := by decide +kernel
theorem dX3_init_12 : decode cX3_init 12 = .ok (.aload_n 0, 1) := by decide +kernel
theorem dX3_init_13 : decode cX3_init 13 = .ok (.iconst 3, 1) := by decide +kernel
theorem dX3_init_14 : decode cX3_init 14 = .ok (.newarray .int, 2) := by decide +kernel
theorem dX3_init_16 : decode cX3_init 16 = .ok (.putfield 15, 3) := by decide +kernel
theorem dX3_init_19 : decode cX3_init 19 = .ok (.return_, 1) := by decide +kernel
theorem dX3_countEntries_0 : decode cX3_countEntries 0 = .ok (.aload_n 0, 1) := by decide +kernel
theorem dX3_countEntries_1 : decode cX3_countEntries 1 = .ok (.iconst 0, 1) := by decide +kernel
theorem dX3_countEntries_2 : decode cX3_countEntries 2 = .ok (.putfield 19, 3) := by decide +kernel
theorem dX3_countEntries_5 : decode cX3_countEntries 5 = .ok (.iconst 1, 1) := by decide +kernel
theorem dX3_countEntries_6 : decode cX3_countEntries 6 = .ok (.istore_n 1, 1) := by decide +kernel
theorem dX3_countEntries_7 : decode cX3_countEntries 7 = .ok (.iload_n 1, 1) := by decide +kernel
theorem dX3_countEntries_8 : decode cX3_countEntries 8 = .ok (.bipush 60, 2) := by decide +kernel
theorem dX3_countEntries_10 : decode cX3_countEntries 10 = .ok (.if_icmp .gt 31, 3) := by decide +kernel
theorem dX3_countEntries_13 : decode cX3_countEntries 13 = .ok (.aload_n 0, 1) := by decide +kernel
theorem dX3_countEntries_14 : decode cX3_countEntries 14 = .ok (.invokevirtual 23, 3) := by decide +kernel
theorem dX3_countEntries_17 : decode cX3_countEntries 17 = .ok (.ifCond .ne 5, 3) := by decide +kernel
theorem dX3_countEntries_20 : decode cX3_countEntries 20 = .ok (.iconst (-1), 1) := by decide +kernel
theorem dX3_countEntries_21 : decode cX3_countEntries 21 = .ok (.ireturn, 1) := by decide +kernel
theorem dX3_countEntries_22 : decode cX3_countEntries 22 = .ok (.aload_n 0, 1) := by decide +kernel
theorem dX3_countEntries_23 : decode cX3_countEntries 23 = .ok (.getfield 19, 3) := by decide +kernel
theorem dX3_countEntries_26 : decode cX3_countEntries 26 = .ok (.aload_n 0, 1) := by decide +kernel
theorem dX3_countEntries_27 : decode cX3_countEntries 27 = .ok (.getfield 27, 3) := by decide +kernel
theorem dX3_countEntries_30 : decode cX3_countEntries 30 = .ok (.if_icmp .lt 5, 3) := by decide +kernel
theorem dX3_countEntries_33 : decode cX3_countEntries 33 = .ok (.iload_n 1, 1) := by decide +kernel
theorem dX3_countEntries_34 : decode cX3_countEntries 34 = .ok (.ireturn, 1) := by decide +kernel
theorem dX3_countEntries_35 : decode cX3_countEntries 35 = .ok (.iinc 1 1, 3) := by decide +kernel
theorem dX3_countEntries_38 : decode cX3_countEntries 38 = .ok (.goto (-31), 3) := by decide +kernel
theorem dX3_countEntries_41 : decode cX3_countEntries 41 = .ok (.iconst (-1), 1) := by decide +kernel
theorem dX3_countEntries_42 : decode cX3_countEntries 42 = .ok (.ireturn, 1) := by decide +kernel
theorem dX3_readEntry_0 : decode cX3_readEntry 0 = .ok (.aload_n 0, 1) := by decide +kernel
theorem dX3_readEntry_1 : decode cX3_readEntry 1 = .ok (.getfield 19, 3) := by decide +kernel
theorem dX3_readEntry_4 : decode cX3_readEntry 4 = .ok (.aload_n 0, 1) := by decide +kernel
theorem dX3_readEntry_5 : decode cX3_readEntry 5 = .ok (.getfield 27, 3) := by decide +kernel
theorem dX3_readEntry_8 : decode cX3_readEntry 8 = .ok (.if_icmp .lt 5, 3) := by decide +kernel
theorem dX3_readEntry_11 : decode cX3_readEntry 11 = .ok (.iconst 0, 1) := by decide +kernel
theorem dX3_readEntry_12 : decode cX3_readEntry 12 = .ok (.ireturn, 1) := by decide +kernel
theorem dX3_readEntry_13 : decode cX3_readEntry 13 = .ok (.aload_n 0, 1) := by decide +kernel
theorem dX3_readEntry_14 : decode cX3_readEntry 14 = .ok (.aload_n 0, 1) := by decide +kernel
theorem dX3_readEntry_15 : decode cX3_readEntry 15 = .ok (.getfield 9, 3) := by decide +kernel
theorem dX3_readEntry_18 : decode cX3_readEntry 18 = .ok (.aload_n 0, 1) := by decide +kernel
theorem dX3_readEntry_19 : decode cX3_readEntry 19 = .ok (.getfield 19, 3) := by decide +kernel
theorem dX3_readEntry_22 : decode cX3_readEntry 22 = .ok (.caload, 1) := by decide +kernel
theorem dX3_readEntry_23 : decode cX3_readEntry 23 = .ok (.putfield 30, 3) := by decide +kernel
theorem dX3_readEntry_26 : decode cX3_readEntry 26 = .ok (.aload_n 0, 1) := by decide +kernel
theorem dX3_readEntry_27 : decode cX3_readEntry 27 = .ok (.getfield 30, 3) := by decide +kernel
theorem dX3_readEntry_30 : decode cX3_readEntry 30 = .ok (.invokestatic 34, 3) := by decide +kernel
theorem dX3_readEntry_33 : decode cX3_readEntry 33 = .ok (.istore_n 1, 1) := by decide +kernel
theorem dX3_readEntry_34 : decode cX3_readEntry 34 = .ok (.iload_n 1, 1) := by decide +kernel
theorem dX3_readEntry_35 : decode cX3_readEntry 35 = .ok (.ifCond .ge 5, 3) := by decide +kernel
theorem dX3_readEntry_38 : decode cX3_readEntry 38 = .ok (.iconst 0, 1) := by decide +kernel
theorem dX3_readEntry_39 : decode cX3_readEntry 39 = .ok (.ireturn, 1) := by decide +kernel
theorem dX3_readEntry_40 : decode cX3_readEntry 40 = .ok (.aload_n 0, 1) := by decide +kernel
theorem dX3_readEntry_41 : decode cX3_readEntry 41 = .ok (.dup, 1) := by decide +kernel
theorem dX3_readEntry_42 : decode cX3_readEntry 42 = .ok (.getfield 19, 3) := by decide +kernel
theorem dX3_readEntry_45 : decode cX3_readEntry 45 = .ok (.iconst 1, 1) := by decide +kernel
theorem dX3_readEntry_46 : decode cX3_readEntry 46 = .ok (.iadd, 1) := by decide +kernel
theorem dX3_readEntry_47 : decode cX3_readEntry 47 = .ok (.putfield 19, 3) := by decide +kernel
theorem dX3_readEntry_50 : decode cX3_readEntry 50 = .ok (.iconst 0, 1) := by decide +kernel
theorem dX3_readEntry_51 : decode cX3_readEntry 51 = .ok (.istore_n 2, 1) := by decide +kernel
theorem dX3_readEntry_52 : decode cX3_readEntry 52 = .ok (.iload_n 2, 1) := by decide +kernel
theorem dX3_readEntry_53 : decode cX3_readEntry 53 = .ok (.iload_n 1, 1) := by decide +kernel
theorem dX3_readEntry_54 : decode cX3_readEntry 54 = .ok (.if_icmp .ge 44, 3) := by decide +kernel
theorem dX3_readEntry_57 : decode cX3_readEntry 57 = .ok (.iload_n 2, 1) := by decide +kernel
theorem dX3_readEntry_58 : decode cX3_readEntry 58 = .ok (.ifCond .le 24, 3) := by decide +kernel
theorem dX3_readEntry_61 : decode cX3_readEntry 61 = .ok (.aload_n 0, 1) := by decide +kernel
theorem dX3_readEntry_62 : decode cX3_readEntry 62 = .ok (.iload_n 2, 1) := by decide +kernel
theorem dX3_readEntry_63 : decode cX3_readEntry 63 = .ok (.iconst 1, 1) := by decide +kernel
theorem dX3_readEntry_64 : decode cX3_readEntry 64 = .ok (.if_icmp .ne 8, 3) := by decide +kernel
theorem dX3_readEntry_67 : decode cX3_readEntry 67 = .ok (.bipush 47, 2) := by decide +kernel
theorem dX3_readEntry_69 : decode cX3_readEntry 69 = .ok (.goto 5, 3) := by decide +kernel
theorem dX3_readEntry_72 : decode cX3_readEntry 72 = .ok (.bipush 64, 2) := by decide +kernel
theorem dX3_readEntry_74 : decode cX3_readEntry 74 = .ok (.invokevirtual 38, 3) := by decide +kernel
theorem dX3_readEntry_77 : decode cX3_readEntry 77 = .ok (.ifCond .ne 5, 3) := by decide +kernel
theorem dX3_readEntry_80 : decode cX3_readEntry 80 = .ok (.iconst 0, 1) := by decide +kernel
theorem dX3_readEntry_81 : decode cX3_readEntry 81 = .ok (.ireturn, 1) := by decide +kernel
theorem dX3_readEntry_82 : decode cX3_readEntry 82 = .ok (.aload_n 0, 1) := by decide +kernel
theorem dX3_readEntry_83 : decode cX3_readEntry 83 = .ok (.iload_n 2, 1) := by decide +kernel
theorem dX3_readEntry_84 : decode cX3_readEntry 84 = .ok (.invokevirtual 42, 3) := by decide +kernel
theorem dX3_readEntry_87 : decode cX3_readEntry 87 = .ok (.ifCond .ne 5, 3) := by decide +kernel
theorem dX3_readEntry_90 : decode cX3_readEntry 90 = .ok (.iconst 0, 1) := by decide +kernel
theorem dX3_readEntry_91 : decode cX3_readEntry 91 = .ok (.ireturn, 1) := by decide +kernel
theorem dX3_readEntry_92 : decode cX3_readEntry 92 = .ok (.iinc 2 1, 3) := by decide +kernel
theorem dX3_readEntry_95 : decode cX3_readEntry 95 = .ok (.goto (-43), 3) := by decide +kernel
theorem dX3_readEntry_98 : decode cX3_readEntry 98 = .ok (.aload_n 0, 1) := by decide +kernel
theorem dX3_readEntry_99 : decode cX3_readEntry 99 = .ok (.bipush 59, 2) := by decide +kernel
theorem dX3_readEntry_101 : decode cX3_readEntry 101 = .ok (.invokevirtual 38, 3) := by decide +kernel
theorem dX3_readEntry_104 : decode cX3_readEntry 104 = .ok (.ireturn, 1) := by decide +kernel
theorem dX3_numberCount_0 : decode cX3_numberCount 0 = .ok (.iload_n 0, 1) := by decide +kernel
theorem dX3_numberCount_1 : decode cX3_numberCount 1 = .ok (.tableswitch 117 99 120 #[105, 117, 117, 117, 103, 117, 117, 109, 117, 117, 117, 117, 117, 117, 117, 113, 115, 111, 117, 117, 117, 107], 103) := by decide +kernel
theorem dX3_numberCount_104 : decode cX3_numberCount 104 = .ok (.iconst 0, 1) := by decide +kernel
theorem dX3_numberCount_105 : decode cX3_numberCount 105 = .ok (.ireturn, 1) := by decide +kernel
theorem dX3_numberCount_106 : decode cX3_numberCount 106 = .ok (.iconst 1, 1) := by decide +kernel
theorem dX3_numberCount_107 : decode cX3_numberCount 107 = .ok (.ireturn, 1) := by decide +kernel
theorem dX3_numberCount_108 : decode cX3_numberCount 108 = .ok (.iconst 1, 1) := by decide +kernel
theorem dX3_numberCount_109 : decode cX3_numberCount 109 = .ok (.ireturn, 1) := by decide +kernel
theorem dX3_numberCount_110 : decode cX3_numberCount 110 = .ok (.iconst 1, 1) := by decide +kernel
theorem dX3_numberCount_111 : decode cX3_numberCount 111 = .ok (.ireturn, 1) := by decide +kernel
theorem dX3_numberCount_112 : decode cX3_numberCount 112 = .ok (.iconst 1, 1) := by decide +kernel
theorem dX3_numberCount_113 : decode cX3_numberCount 113 = .ok (.ireturn, 1) := by decide +kernel
theorem dX3_numberCount_114 : decode cX3_numberCount 114 = .ok (.iconst 2, 1) := by decide +kernel
theorem dX3_numberCount_115 : decode cX3_numberCount 115 = .ok (.ireturn, 1) := by decide +kernel
theorem dX3_numberCount_116 : decode cX3_numberCount 116 = .ok (.iconst 3, 1) := by decide +kernel
theorem dX3_numberCount_117 : decode cX3_numberCount 117 = .ok (.ireturn, 1) := by decide +kernel
theorem dX3_numberCount_118 : decode cX3_numberCount 118 = .ok (.iconst (-1), 1) := by decide +kernel
theorem dX3_numberCount_119 : decode cX3_numberCount 119 = .ok (.ireturn, 1) := by decide +kernel
theorem dX3_mostDigits_0 : decode cX3_mostDigits 0 = .ok (.aload_n 0, 1) := by decide +kernel
theorem dX3_mostDigits_1 : decode cX3_mostDigits 1 = .ok (.getfield 30, 3) := by decide +kernel
theorem dX3_mostDigits_4 : decode cX3_mostDigits 4 = .ok (.bipush 116, 2) := by decide +kernel
theorem dX3_mostDigits_6 : decode cX3_mostDigits 6 = .ok (.if_icmp .ne 5, 3) := by decide +kernel
theorem dX3_mostDigits_9 : decode cX3_mostDigits 9 = .ok (.iconst 4, 1) := by decide +kernel
theorem dX3_mostDigits_10 : decode cX3_mostDigits 10 = .ok (.ireturn, 1) := by decide +kernel
theorem dX3_mostDigits_11 : decode cX3_mostDigits 11 = .ok (.iload_n 1, 1) := by decide +kernel
theorem dX3_mostDigits_12 : decode cX3_mostDigits 12 = .ok (.iconst 2, 1) := by decide +kernel
theorem dX3_mostDigits_13 : decode cX3_mostDigits 13 = .ok (.if_icmp .ne 7, 3) := by decide +kernel
theorem dX3_mostDigits_16 : decode cX3_mostDigits 16 = .ok (.iconst 3, 1) := by decide +kernel
theorem dX3_mostDigits_17 : decode cX3_mostDigits 17 = .ok (.goto 4, 3) := by decide +kernel
theorem dX3_mostDigits_20 : decode cX3_mostDigits 20 = .ok (.iconst 2, 1) := by decide +kernel
theorem dX3_mostDigits_21 : decode cX3_mostDigits 21 = .ok (.ireturn, 1) := by decide +kernel
theorem dX3_readSign_0 : decode cX3_readSign 0 = .ok (.aload_n 0, 1) := by decide +kernel
theorem dX3_readSign_1 : decode cX3_readSign 1 = .ok (.getfield 19, 3) := by decide +kernel
theorem dX3_readSign_4 : decode cX3_readSign 4 = .ok (.aload_n 0, 1) := by decide +kernel
theorem dX3_readSign_5 : decode cX3_readSign 5 = .ok (.getfield 27, 3) := by decide +kernel
theorem dX3_readSign_8 : decode cX3_readSign 8 = .ok (.if_icmp .ge 16, 3) := by decide +kernel
theorem dX3_readSign_11 : decode cX3_readSign 11 = .ok (.aload_n 0, 1) := by decide +kernel
theorem dX3_readSign_12 : decode cX3_readSign 12 = .ok (.getfield 9, 3) := by decide +kernel
theorem dX3_readSign_15 : decode cX3_readSign 15 = .ok (.aload_n 0, 1) := by decide +kernel
theorem dX3_readSign_16 : decode cX3_readSign 16 = .ok (.getfield 19, 3) := by decide +kernel
theorem dX3_readSign_19 : decode cX3_readSign 19 = .ok (.caload, 1) := by decide +kernel
theorem dX3_readSign_20 : decode cX3_readSign 20 = .ok (.iload_n 1, 1) := by decide +kernel
theorem dX3_readSign_21 : decode cX3_readSign 21 = .ok (.if_icmp .eq 5, 3) := by decide +kernel
theorem dX3_readSign_24 : decode cX3_readSign 24 = .ok (.iconst 0, 1) := by decide +kernel
theorem dX3_readSign_25 : decode cX3_readSign 25 = .ok (.ireturn, 1) := by decide +kernel
theorem dX3_readSign_26 : decode cX3_readSign 26 = .ok (.aload_n 0, 1) := by decide +kernel
theorem dX3_readSign_27 : decode cX3_readSign 27 = .ok (.dup, 1) := by decide +kernel
theorem dX3_readSign_28 : decode cX3_readSign 28 = .ok (.getfield 19, 3) := by decide +kernel
theorem dX3_readSign_31 : decode cX3_readSign 31 = .ok (.iconst 1, 1) := by decide +kernel
theorem dX3_readSign_32 : decode cX3_readSign 32 = .ok (.iadd, 1) := by decide +kernel
theorem dX3_readSign_33 : decode cX3_readSign 33 = .ok (.putfield 19, 3) := by decide +kernel
theorem dX3_readSign_36 : decode cX3_readSign 36 = .ok (.iconst 1, 1) := by decide +kernel
theorem dX3_readSign_37 : decode cX3_readSign 37 = .ok (.ireturn, 1) := by decide +kernel
theorem dX3_readNumber_0 : decode cX3_readNumber 0 = .ok (.iconst 0, 1) := by decide +kernel
theorem dX3_readNumber_1 : decode cX3_readNumber 1 = .ok (.istore_n 2, 1) := by decide +kernel
theorem dX3_readNumber_2 : decode cX3_readNumber 2 = .ok (.iconst 0, 1) := by decide +kernel
theorem dX3_readNumber_3 : decode cX3_readNumber 3 = .ok (.istore_n 3, 1) := by decide +kernel
theorem dX3_readNumber_4 : decode cX3_readNumber 4 = .ok (.iload_n 2, 1) := by decide +kernel
theorem dX3_readNumber_5 : decode cX3_readNumber 5 = .ok (.aload_n 0, 1) := by decide +kernel
theorem dX3_readNumber_6 : decode cX3_readNumber 6 = .ok (.iload_n 1, 1) := by decide +kernel
theorem dX3_readNumber_7 : decode cX3_readNumber 7 = .ok (.invokevirtual 46, 3) := by decide +kernel
theorem dX3_readNumber_10 : decode cX3_readNumber 10 = .ok (.if_icmp .ge 63, 3) := by decide +kernel
theorem dX3_readNumber_13 : decode cX3_readNumber 13 = .ok (.aload_n 0, 1) := by decide +kernel
theorem dX3_readNumber_14 : decode cX3_readNumber 14 = .ok (.getfield 19, 3) := by decide +kernel
theorem dX3_readNumber_17 : decode cX3_readNumber 17 = .ok (.aload_n 0, 1) := by decide +kernel
theorem dX3_readNumber_18 : decode cX3_readNumber 18 = .ok (.getfield 27, 3) := by decide +kernel
theorem dX3_readNumber_21 : decode cX3_readNumber 21 = .ok (.if_icmp .ge 52, 3) := by decide +kernel
theorem dX3_readNumber_24 : decode cX3_readNumber 24 = .ok (.aload_n 0, 1) := by decide +kernel
theorem dX3_readNumber_25 : decode cX3_readNumber 25 = .ok (.getfield 9, 3) := by decide +kernel
theorem dX3_readNumber_28 : decode cX3_readNumber 28 = .ok (.aload_n 0, 1) := by decide +kernel
theorem dX3_readNumber_29 : decode cX3_readNumber 29 = .ok (.getfield 19, 3) := by decide +kernel
theorem dX3_readNumber_32 : decode cX3_readNumber 32 = .ok (.caload, 1) := by decide +kernel
theorem dX3_readNumber_33 : decode cX3_readNumber 33 = .ok (.invokestatic 50, 3) := by decide +kernel
theorem dX3_readNumber_36 : decode cX3_readNumber 36 = .ok (.ifCond .eq 37, 3) := by decide +kernel
theorem dX3_readNumber_39 : decode cX3_readNumber 39 = .ok (.iload_n 3, 1) := by decide +kernel
theorem dX3_readNumber_40 : decode cX3_readNumber 40 = .ok (.bipush 10, 2) := by decide +kernel
theorem dX3_readNumber_42 : decode cX3_readNumber 42 = .ok (.imul, 1) := by decide +kernel
theorem dX3_readNumber_43 : decode cX3_readNumber 43 = .ok (.aload_n 0, 1) := by decide +kernel
theorem dX3_readNumber_44 : decode cX3_readNumber 44 = .ok (.getfield 9, 3) := by decide +kernel
theorem dX3_readNumber_47 : decode cX3_readNumber 47 = .ok (.aload_n 0, 1) := by decide +kernel
theorem dX3_readNumber_48 : decode cX3_readNumber 48 = .ok (.getfield 19, 3) := by decide +kernel
theorem dX3_readNumber_51 : decode cX3_readNumber 51 = .ok (.caload, 1) := by decide +kernel
theorem dX3_readNumber_52 : decode cX3_readNumber 52 = .ok (.bipush 48, 2) := by decide +kernel
theorem dX3_readNumber_54 : decode cX3_readNumber 54 = .ok (.isub, 1) := by decide +kernel
theorem dX3_readNumber_55 : decode cX3_readNumber 55 = .ok (.iadd, 1) := by decide +kernel
theorem dX3_readNumber_56 : decode cX3_readNumber 56 = .ok (.istore_n 3, 1) := by decide +kernel
theorem dX3_readNumber_57 : decode cX3_readNumber 57 = .ok (.iinc 2 1, 3) := by decide +kernel
theorem dX3_readNumber_60 : decode cX3_readNumber 60 = .ok (.aload_n 0, 1) := by decide +kernel
theorem dX3_readNumber_61 : decode cX3_readNumber 61 = .ok (.dup, 1) := by decide +kernel
theorem dX3_readNumber_62 : decode cX3_readNumber 62 = .ok (.getfield 19, 3) := by decide +kernel
theorem dX3_readNumber_65 : decode cX3_readNumber 65 = .ok (.iconst 1, 1) := by decide +kernel
theorem dX3_readNumber_66 : decode cX3_readNumber 66 = .ok (.iadd, 1) := by decide +kernel
theorem dX3_readNumber_67 : decode cX3_readNumber 67 = .ok (.putfield 19, 3) := by decide +kernel
theorem dX3_readNumber_70 : decode cX3_readNumber 70 = .ok (.goto (-66), 3) := by decide +kernel
theorem dX3_readNumber_73 : decode cX3_readNumber 73 = .ok (.aload_n 0, 1) := by decide +kernel
theorem dX3_readNumber_74 : decode cX3_readNumber 74 = .ok (.getfield 15, 3) := by decide +kernel
theorem dX3_readNumber_77 : decode cX3_readNumber 77 = .ok (.iload_n 1, 1) := by decide +kernel
theorem dX3_readNumber_78 : decode cX3_readNumber 78 = .ok (.iload_n 3, 1) := by decide +kernel
theorem dX3_readNumber_79 : decode cX3_readNumber 79 = .ok (.iastore, 1) := by decide +kernel
theorem dX3_readNumber_80 : decode cX3_readNumber 80 = .ok (.iload_n 2, 1) := by decide +kernel
theorem dX3_readNumber_81 : decode cX3_readNumber 81 = .ok (.ifCond .le 7, 3) := by decide +kernel
theorem dX3_readNumber_84 : decode cX3_readNumber 84 = .ok (.iconst 1, 1) := by decide +kernel
theorem dX3_readNumber_85 : decode cX3_readNumber 85 = .ok (.goto 4, 3) := by decide +kernel
theorem dX3_readNumber_88 : decode cX3_readNumber 88 = .ok (.iconst 0, 1) := by decide +kernel
theorem dX3_readNumber_89 : decode cX3_readNumber 89 = .ok (.ireturn, 1) := by decide +kernel
theorem dX3_isDigit_0 : decode cX3_isDigit 0 = .ok (.iload_n 0, 1) := by decide +kernel
theorem dX3_isDigit_1 : decode cX3_isDigit 1 = .ok (.bipush 48, 2) := by decide +kernel
theorem dX3_isDigit_3 : decode cX3_isDigit 3 = .ok (.if_icmp .lt 13, 3) := by decide +kernel
theorem dX3_isDigit_6 : decode cX3_isDigit 6 = .ok (.iload_n 0, 1) := by decide +kernel
theorem dX3_isDigit_7 : decode cX3_isDigit 7 = .ok (.bipush 57, 2) := by decide +kernel
theorem dX3_isDigit_9 : decode cX3_isDigit 9 = .ok (.if_icmp .gt 7, 3) := by decide +kernel
theorem dX3_isDigit_12 : decode cX3_isDigit 12 = .ok (.iconst 1, 1) := by decide +kernel
theorem dX3_isDigit_13 : decode cX3_isDigit 13 = .ok (.goto 4, 3) := by decide +kernel
theorem dX3_isDigit_16 : decode cX3_isDigit 16 = .ok (.iconst 0, 1) := by decide +kernel
theorem dX3_isDigit_17 : decode cX3_isDigit 17 = .ok (.ireturn, 1) := by decide +kernel
theorem dX4_init_0 : decode cX4_init 0 = .ok (.aload_n 0, 1) := by decide +kernel
theorem dX4_init_1 : decode cX4_init 1 = .ok (.invokespecial 3, 3) := by decide +kernel
theorem dX4_init_4 : decode cX4_init 4 = .ok (.aload_n 0, 1) := by decide +kernel
theorem dX4_init_5 : decode cX4_init 5 = .ok (.bipush 12, 2) := by decide +kernel
theorem dX4_init_7 : decode cX4_init 7 = .ok (.newarray .int, 2) := by decide +kernel
theorem dX4_init_9 : decode cX4_init 9 = .ok (.putfield 9, 3) := by decide +kernel
theorem dX4_init_12 : decode cX4_init 12 = .ok (.aload_n 0, 1) := by decide +kernel
theorem dX4_init_13 : decode cX4_init 13 = .ok (.bipush 12, 2) := by decide +kernel
theorem dX4_init_15 : decode cX4_init 15 = .ok (.newarray .int, 2) := by decide +kernel
theorem dX4_init_17 : decode cX4_init 17 = .ok (.putfield 15, 3) := by decide +kernel
theorem dX4_init_20 : decode cX4_init 20 = .ok (.aload_n 0, 1) := by decide +kernel
theorem dX4_init_21 : decode cX4_init 21 = .ok (.bipush 12, 2) := by decide +kernel
theorem dX4_init_23 : decode cX4_init 23 = .ok (.newarray .int, 2) := by decide +kernel
theorem dX4_init_25 : decode cX4_init 25 = .ok (.putfield 18, 3) := by decide +kernel
theorem dX4_init_28 : decode cX4_init 28 = .ok (.aload_n 0, 1) := by decide +kernel
theorem dX4_init_29 : decode cX4_init 29 = .ok (.bipush 12, 2) := by decide +kernel
theorem dX4_init_31 : decode cX4_init 31 = .ok (.newarray .int, 2) := by decide +kernel
theorem dX4_init_33 : decode cX4_init 33 = .ok (.putfield 21, 3) := by decide +kernel
theorem dX4_init_36 : decode cX4_init 36 = .ok (.aload_n 0, 1) := by decide +kernel
theorem dX4_init_37 : decode cX4_init 37 = .ok (.bipush 12, 2) := by decide +kernel
theorem dX4_init_39 : decode cX4_init 39 = .ok (.newarray .int, 2) := by decide +kernel
theorem dX4_init_41 : decode cX4_init 41 = .ok (.putfield 24, 3) := by decide +kernel
theorem dX4_init_44 : decode cX4_init 44 = .ok (.return_, 1) := by decide +kernel
theorem dX4_makeNew_0 : decode cX4_makeNew 0 = .ok (.iconst 0, 1) := by decide +kernel
theorem dX4_makeNew_1 : decode cX4_makeNew 1 = .ok (.istore_n 1, 1) := by decide +kernel
theorem dX4_makeNew_2 : decode cX4_makeNew 2 = .ok (.iload_n 1, 1) := by decide +kernel
theorem dX4_makeNew_3 : decode cX4_makeNew 3 = .ok (.bipush 12, 2) := by decide +kernel
theorem dX4_makeNew_5 : decode cX4_makeNew 5 = .ok (.if_icmp .ge 44, 3) := by decide +kernel
theorem dX4_makeNew_8 : decode cX4_makeNew 8 = .ok (.aload_n 0, 1) := by decide +kernel
theorem dX4_makeNew_9 : decode cX4_makeNew 9 = .ok (.getfield 9, 3) := by decide +kernel
theorem dX4_makeNew_12 : decode cX4_makeNew 12 = .ok (.iload_n 1, 1) := by decide +kernel
theorem dX4_makeNew_13 : decode cX4_makeNew 13 = .ok (.iconst 0, 1) := by decide +kernel
theorem dX4_makeNew_14 : decode cX4_makeNew 14 = .ok (.iastore, 1) := by decide +kernel
theorem dX4_makeNew_15 : decode cX4_makeNew 15 = .ok (.aload_n 0, 1) := by decide +kernel
theorem dX4_makeNew_16 : decode cX4_makeNew 16 = .ok (.getfield 15, 3) := by decide +kernel
theorem dX4_makeNew_19 : decode cX4_makeNew 19 = .ok (.iload_n 1, 1) := by decide +kernel
theorem dX4_makeNew_20 : decode cX4_makeNew 20 = .ok (.iconst 0, 1) := by decide +kernel
theorem dX4_makeNew_21 : decode cX4_makeNew 21 = .ok (.iastore, 1) := by decide +kernel
theorem dX4_makeNew_22 : decode cX4_makeNew 22 = .ok (.aload_n 0, 1) := by decide +kernel
theorem dX4_makeNew_23 : decode cX4_makeNew 23 = .ok (.getfield 18, 3) := by decide +kernel
theorem dX4_makeNew_26 : decode cX4_makeNew 26 = .ok (.iload_n 1, 1) := by decide +kernel
theorem dX4_makeNew_27 : decode cX4_makeNew 27 = .ok (.iconst 0, 1) := by decide +kernel
theorem dX4_makeNew_28 : decode cX4_makeNew 28 = .ok (.iastore, 1) := by decide +kernel
theorem dX4_makeNew_29 : decode cX4_makeNew 29 = .ok (.aload_n 0, 1) := by decide +kernel
theorem dX4_makeNew_30 : decode cX4_makeNew 30 = .ok (.getfield 21, 3) := by decide +kernel
theorem dX4_makeNew_33 : decode cX4_makeNew 33 = .ok (.iload_n 1, 1) := by decide +kernel
theorem dX4_makeNew_34 : decode cX4_makeNew 34 = .ok (.iconst 0, 1) := by decide +kernel
theorem dX4_makeNew_35 : decode cX4_makeNew 35 = .ok (.iastore, 1) := by decide +kernel
theorem dX4_makeNew_36 : decode cX4_makeNew 36 = .ok (.aload_n 0, 1) := by decide +kernel
theorem dX4_makeNew_37 : decode cX4_makeNew 37 = .ok (.getfield 24, 3) := by decide +kernel
theorem dX4_makeNew_40 : decode cX4_makeNew 40 = .ok (.iload_n 1, 1) := by decide +kernel
theorem dX4_makeNew_41 : decode cX4_makeNew 41 = .ok (.iconst 0, 1) := by decide +kernel
theorem dX4_makeNew_42 : decode cX4_makeNew 42 = .ok (.iastore, 1) := by decide +kernel
theorem dX4_makeNew_43 : decode cX4_makeNew 43 = .ok (.iinc 1 1, 3) := by decide +kernel
theorem dX4_makeNew_46 : decode cX4_makeNew 46 = .ok (.goto (-44), 3) := by decide +kernel
theorem dX4_makeNew_49 : decode cX4_makeNew 49 = .ok (.aload_n 0, 1) := by decide +kernel
theorem dX4_makeNew_50 : decode cX4_makeNew 50 = .ok (.iconst 0, 1) := by decide +kernel
theorem dX4_makeNew_51 : decode cX4_makeNew 51 = .ok (.putfield 27, 3) := by decide +kernel
theorem dX4_makeNew_54 : decode cX4_makeNew 54 = .ok (.aload_n 0, 1) := by decide +kernel
theorem dX4_makeNew_55 : decode cX4_makeNew 55 = .ok (.iconst 0, 1) := by decide +kernel
theorem dX4_makeNew_56 : decode cX4_makeNew 56 = .ok (.putfield 31, 3) := by decide +kernel
theorem dX4_makeNew_59 : decode cX4_makeNew 59 = .ok (.aload_n 0, 1) := by decide +kernel
theorem dX4_makeNew_60 : decode cX4_makeNew 60 = .ok (.iconst 0, 1) := by decide +kernel
theorem dX4_makeNew_61 : decode cX4_makeNew 61 = .ok (.putfield 34, 3) := by decide +kernel
theorem dX4_makeNew_64 : decode cX4_makeNew 64 = .ok (.aload_n 0, 1) := by decide +kernel
theorem dX4_makeNew_65 : decode cX4_makeNew 65 = .ok (.iconst 0, 1) := by decide +kernel
theorem dX4_makeNew_66 : decode cX4_makeNew 66 = .ok (.putfield 37, 3) := by decide +kernel
theorem dX4_makeNew_69 : decode cX4_makeNew 69 = .ok (.return_, 1) := by decide +kernel
theorem dX4_copyFrom_0 : decode cX4_copyFrom 0 = .ok (.aload_n 1, 1) := by decide +kernel
theorem dX4_copyFrom_1 : decode cX4_copyFrom 1 = .ok (.getfield 9, 3) := by decide +kernel
theorem dX4_copyFrom_4 : decode cX4_copyFrom 4 = .ok (.iconst 0, 1) := by decide +kernel
theorem dX4_copyFrom_5 : decode cX4_copyFrom 5 = .ok (.aload_n 0, 1) := by decide +kernel
theorem dX4_copyFrom_6 : decode cX4_copyFrom 6 = .ok (.getfield 9, 3) := by decide +kernel
theorem dX4_copyFrom_9 : decode cX4_copyFrom 9 = .ok (.iconst 0, 1) := by decide +kernel
theorem dX4_copyFrom_10 : decode cX4_copyFrom 10 = .ok (.bipush 12, 2) := by decide +kernel
theorem dX4_copyFrom_12 : decode cX4_copyFrom 12 = .ok (.invokestatic 40, 3) := by decide +kernel
theorem dX4_copyFrom_15 : decode cX4_copyFrom 15 = .ok (.aload_n 1, 1) := by decide +kernel
theorem dX4_copyFrom_16 : decode cX4_copyFrom 16 = .ok (.getfield 15, 3) := by decide +kernel
theorem dX4_copyFrom_19 : decode cX4_copyFrom 19 = .ok (.iconst 0, 1) := by decide +kernel
theorem dX4_copyFrom_20 : decode cX4_copyFrom 20 = .ok (.aload_n 0, 1) := by decide +kernel
theorem dX4_copyFrom_21 : decode cX4_copyFrom 21 = .ok (.getfield 15, 3) := by decide +kernel
theorem dX4_copyFrom_24 : decode cX4_copyFrom 24 = .ok (.iconst 0, 1) := by decide +kernel
theorem dX4_copyFrom_25 : decode cX4_copyFrom 25 = .ok (.bipush 12, 2) := by decide +kernel
theorem dX4_copyFrom_27 : decode cX4_copyFrom 27 = .ok (.invokestatic 40, 3) := by decide +kernel
theorem dX4_copyFrom_30 : decode cX4_copyFrom 30 = .ok (.aload_n 1, 1) := by decide +kernel
theorem dX4_copyFrom_31 : decode cX4_copyFrom 31 = .ok (.getfield 18, 3) := by decide +kernel
theorem dX4_copyFrom_34 : decode cX4_copyFrom 34 = .ok (.iconst 0, 1) := by decide +kernel
theorem dX4_copyFrom_35 : decode cX4_copyFrom 35 = .ok (.aload_n 0, 1) := by decide +kernel
theorem dX4_copyFrom_36 : decode cX4_copyFrom 36 = .ok (.getfield 18, 3) := by decide +kernel
theorem dX4_copyFrom_39 : decode cX4_copyFrom 39 = .ok (.iconst 0, 1) := by decide +kernel
theorem dX4_copyFrom_40 : decode cX4_copyFrom 40 = .ok (.bipush 12, 2) := by decide +kernel
theorem dX4_copyFrom_42 : decode cX4_copyFrom 42 = .ok (.invokestatic 40, 3) := by decide +kernel
theorem dX4_copyFrom_45 : decode cX4_copyFrom 45 = .ok (.aload_n 1, 1) := by decide +kernel
theorem dX4_copyFrom_46 : decode cX4_copyFrom 46 = .ok (.getfield 21, 3) := by decide +kernel
theorem dX4_copyFrom_49 : decode cX4_copyFrom 49 = .ok (.iconst 0, 1) := by decide +kernel
theorem dX4_copyFrom_50 : decode cX4_copyFrom 50 = .ok (.aload_n 0, 1) := by decide +kernel
theorem dX4_copyFrom_51 : decode cX4_copyFrom 51 = .ok (.getfield 21, 3) := by decide +kernel
theorem dX4_copyFrom_54 : decode cX4_copyFrom 54 = .ok (.iconst 0, 1) := by decide +kernel
theorem dX4_copyFrom_55 : decode cX4_copyFrom 55 = .ok (.bipush 12, 2) := by decide +kernel
theorem dX4_copyFrom_57 : decode cX4_copyFrom 57 = .ok (.invokestatic 40, 3) := by decide +kernel
theorem dX4_copyFrom_60 : decode cX4_copyFrom 60 = .ok (.aload_n 1, 1) := by decide +kernel
theorem dX4_copyFrom_61 : decode cX4_copyFrom 61 = .ok (.getfield 24, 3) := by decide +kernel
theorem dX4_copyFrom_64 : decode cX4_copyFrom 64 = .ok (.iconst 0, 1) := by decide +kernel
theorem dX4_copyFrom_65 : decode cX4_copyFrom 65 = .ok (.aload_n 0, 1) := by decide +kernel
theorem dX4_copyFrom_66 : decode cX4_copyFrom 66 = .ok (.getfield 24, 3) := by decide +kernel
theorem dX4_copyFrom_69 : decode cX4_copyFrom 69 = .ok (.iconst 0, 1) := by decide +kernel
theorem dX4_copyFrom_70 : decode cX4_copyFrom 70 = .ok (.bipush 12, 2) := by decide +kernel
theorem dX4_copyFrom_72 : decode cX4_copyFrom 72 = .ok (.invokestatic 40, 3) := by decide +kernel
theorem dX4_copyFrom_75 : decode cX4_copyFrom 75 = .ok (.aload_n 0, 1) := by decide +kernel
theorem dX4_copyFrom_76 : decode cX4_copyFrom 76 = .ok (.aload_n 1, 1) := by decide +kernel
theorem dX4_copyFrom_77 : decode cX4_copyFrom 77 = .ok (.getfield 27, 3) := by decide +kernel
theorem dX4_copyFrom_80 : decode cX4_copyFrom 80 = .ok (.putfield 27, 3) := by decide +kernel
theorem dX4_copyFrom_83 : decode cX4_copyFrom 83 = .ok (.aload_n 0, 1) := by decide +kernel
theorem dX4_copyFrom_84 : decode cX4_copyFrom 84 = .ok (.aload_n 1, 1) := by decide +kernel
theorem dX4_copyFrom_85 : decode cX4_copyFrom 85 = .ok (.getfield 31, 3) := by decide +kernel
theorem dX4_copyFrom_88 : decode cX4_copyFrom 88 = .ok (.putfield 31, 3) := by decide +kernel
theorem dX4_copyFrom_91 : decode cX4_copyFrom 91 = .ok (.aload_n 0, 1) := by decide +kernel
theorem dX4_copyFrom_92 : decode cX4_copyFrom 92 = .ok (.aload_n 1, 1) := by decide +kernel
theorem dX4_copyFrom_93 : decode cX4_copyFrom 93 = .ok (.getfield 34, 3) := by decide +kernel
theorem dX4_copyFrom_96 : decode cX4_copyFrom 96 = .ok (.putfield 34, 3) := by decide +kernel
theorem dX4_copyFrom_99 : decode cX4_copyFrom 99 = .ok (.aload_n 0, 1) := by decide +kernel
theorem dX4_copyFrom_100 : decode cX4_copyFrom 100 = .ok (.aload_n 1, 1) := by decide +kernel
theorem dX4_copyFrom_101 : decode cX4_copyFrom 101 = .ok (.getfield 37, 3) := by decide +kernel
theorem dX4_copyFrom_104 : decode cX4_copyFrom 104 = .ok (.putfield 37, 3) := by decide +kernel
theorem dX4_copyFrom_107 : decode cX4_copyFrom 107 = .ok (.return_, 1) := by decide +kernel
theorem dX4_presentLevel_0 : decode cX4_presentLevel 0 = .ok (.aload_n 0, 1) := by decide +kernel
theorem dX4_presentLevel_1 : decode cX4_presentLevel 1 = .ok (.getfield 24, 3) := by decide +kernel
theorem dX4_presentLevel_4 : decode cX4_presentLevel 4 = .ok (.iload_n 1, 1) := by decide +kernel
theorem dX4_presentLevel_5 : decode cX4_presentLevel 5 = .ok (.iaload, 1) := by decide +kernel
theorem dX4_presentLevel_6 : decode cX4_presentLevel 6 = .ok (.istore_n 2, 1) := by decide +kernel
theorem dX4_presentLevel_7 : decode cX4_presentLevel 7 = .ok (.aload_n 0, 1) := by decide +kernel
theorem dX4_presentLevel_8 : decode cX4_presentLevel 8 = .ok (.getfield 37, 3) := by decide +kernel
theorem dX4_presentLevel_11 : decode cX4_presentLevel 11 = .ok (.aload_n 0, 1) := by decide +kernel
theorem dX4_presentLevel_12 : decode cX4_presentLevel 12 = .ok (.getfield 18, 3) := by decide +kernel
theorem dX4_presentLevel_15 : decode cX4_presentLevel 15 = .ok (.iload_n 1, 1) := by decide +kernel
theorem dX4_presentLevel_16 : decode cX4_presentLevel 16 = .ok (.iaload, 1) := by decide +kernel
theorem dX4_presentLevel_17 : decode cX4_presentLevel 17 = .ok (.isub, 1) := by decide +kernel
theorem dX4_presentLevel_18 : decode cX4_presentLevel 18 = .ok (.aload_n 0, 1) := by decide +kernel
theorem dX4_presentLevel_19 : decode cX4_presentLevel 19 = .ok (.getfield 21, 3) := by decide +kernel
theorem dX4_presentLevel_22 : decode cX4_presentLevel 22 = .ok (.iload_n 1, 1) := by decide +kernel
theorem dX4_presentLevel_23 : decode cX4_presentLevel 23 = .ok (.iaload, 1) := by decide +kernel
theorem dX4_presentLevel_24 : decode cX4_presentLevel 24 = .ok (.isub, 1) := by decide +kernel
theorem dX4_presentLevel_25 : decode cX4_presentLevel 25 = .ok (.istore_n 3, 1) := by decide +kernel
theorem dX4_presentLevel_26 : decode cX4_presentLevel 26 = .ok (.iload_n 3, 1) := by decide +kernel
theorem dX4_presentLevel_27 : decode cX4_presentLevel 27 = .ok (.iload_n 2, 1) := by decide +kernel
theorem dX4_presentLevel_28 : decode cX4_presentLevel 28 = .ok (.if_icmp .lt 10, 3) := by decide +kernel
theorem dX4_presentLevel_31 : decode cX4_presentLevel 31 = .ok (.aload_n 0, 1) := by decide +kernel
theorem dX4_presentLevel_32 : decode cX4_presentLevel 32 = .ok (.getfield 15, 3) := by decide +kernel
theorem dX4_presentLevel_35 : decode cX4_presentLevel 35 = .ok (.iload_n 1, 1) := by decide +kernel
theorem dX4_presentLevel_36 : decode cX4_presentLevel 36 = .ok (.iaload, 1) := by decide +kernel
theorem dX4_presentLevel_37 : decode cX4_presentLevel 37 = .ok (.ireturn, 1) := by decide +kernel
theorem dX4_presentLevel_38 : decode cX4_presentLevel 38 = .ok (.iload_n 3, 1) := by decide +kernel
theorem dX4_presentLevel_39 : decode cX4_presentLevel 39 = .ok (.ifCond .le 7, 3) := by decide +kernel
theorem dX4_presentLevel_42 : decode cX4_presentLevel 42 = .ok (.iload_n 2, 1) := by decide +kernel
theorem dX4_presentLevel_43 : decode cX4_presentLevel 43 = .ok (.ifCond .gt 10, 3) := by decide +kernel
theorem dX4_presentLevel_46 : decode cX4_presentLevel 46 = .ok (.aload_n 0, 1) := by decide +kernel
theorem dX4_presentLevel_47 : decode cX4_presentLevel 47 = .ok (.getfield 9, 3) := by decide +kernel
theorem dX4_presentLevel_50 : decode cX4_presentLevel 50 = .ok (.iload_n 1, 1) := by decide +kernel
theorem dX4_presentLevel_51 : decode cX4_presentLevel 51 = .ok (.iaload, 1) := by decide +kernel
theorem dX4_presentLevel_52 : decode cX4_presentLevel 52 = .ok (.ireturn, 1) := by decide +kernel
theorem dX4_presentLevel_53 : decode cX4_presentLevel 53 = .ok (.aload_n 0, 1) := by decide +kernel
theorem dX4_presentLevel_54 : decode cX4_presentLevel 54 = .ok (.getfield 9, 3) := by decide +kernel
theorem dX4_presentLevel_57 : decode cX4_presentLevel 57 = .ok (.iload_n 1, 1) := by decide +kernel
theorem dX4_presentLevel_58 : decode cX4_presentLevel 58 = .ok (.iaload, 1) := by decide +kernel
theorem dX4_presentLevel_59 : decode cX4_presentLevel 59 = .ok (.aload_n 0, 1) := by decide +kernel
theorem dX4_presentLevel_60 : decode cX4_presentLevel 60 = .ok (.getfield 15, 3) := by decide +kernel
theorem dX4_presentLevel_63 : decode cX4_presentLevel 63 = .ok (.iload_n 1, 1) := by decide +kernel
theorem dX4_presentLevel_64 : decode cX4_presentLevel 64 = .ok (.iaload, 1) := by decide +kernel
theorem dX4_presentLevel_65 : decode cX4_presentLevel 65 = .ok (.aload_n 0, 1) := by decide +kernel
theorem dX4_presentLevel_66 : decode cX4_presentLevel 66 = .ok (.getfield 9, 3) := by decide +kernel
theorem dX4_presentLevel_69 : decode cX4_presentLevel 69 = .ok (.iload_n 1, 1) := by decide +kernel
theorem dX4_presentLevel_70 : decode cX4_presentLevel 70 = .ok (.iaload, 1) := by decide +kernel
theorem dX4_presentLevel_71 : decode cX4_presentLevel 71 = .ok (.isub, 1) := by decide +kernel
theorem dX4_presentLevel_72 : decode cX4_presentLevel 72 = .ok (.iload_n 3, 1) := by decide +kernel
theorem dX4_presentLevel_73 : decode cX4_presentLevel 73 = .ok (.imul, 1) := by decide +kernel
theorem dX4_presentLevel_74 : decode cX4_presentLevel 74 = .ok (.iload_n 2, 1) := by decide +kernel
theorem dX4_presentLevel_75 : decode cX4_presentLevel 75 = .ok (.idiv, 1) := by decide +kernel
theorem dX4_presentLevel_76 : decode cX4_presentLevel 76 = .ok (.iadd, 1) := by decide +kernel
theorem dX4_presentLevel_77 : decode cX4_presentLevel 77 = .ok (.ireturn, 1) := by decide +kernel
theorem dX4_isFading_0 : decode cX4_isFading 0 = .ok (.aload_n 0, 1) := by decide +kernel
theorem dX4_isFading_1 : decode cX4_isFading 1 = .ok (.getfield 37, 3) := by decide +kernel
theorem dX4_isFading_4 : decode cX4_isFading 4 = .ok (.aload_n 0, 1) := by decide +kernel
theorem dX4_isFading_5 : decode cX4_isFading 5 = .ok (.getfield 18, 3) := by decide +kernel
theorem dX4_isFading_8 : decode cX4_isFading 8 = .ok (.iload_n 1, 1) := by decide +kernel
theorem dX4_isFading_9 : decode cX4_isFading 9 = .ok (.iaload, 1) := by decide +kernel
theorem dX4_isFading_10 : decode cX4_isFading 10 = .ok (.isub, 1) := by decide +kernel
theorem dX4_isFading_11 : decode cX4_isFading 11 = .ok (.aload_n 0, 1) := by decide +kernel
theorem dX4_isFading_12 : decode cX4_isFading 12 = .ok (.getfield 21, 3) := by decide +kernel
theorem dX4_isFading_15 : decode cX4_isFading 15 = .ok (.iload_n 1, 1) := by decide +kernel
theorem dX4_isFading_16 : decode cX4_isFading 16 = .ok (.iaload, 1) := by decide +kernel
theorem dX4_isFading_17 : decode cX4_isFading 17 = .ok (.aload_n 0, 1) := by decide +kernel
theorem dX4_isFading_18 : decode cX4_isFading 18 = .ok (.getfield 24, 3) := by decide +kernel
theorem dX4_isFading_21 : decode cX4_isFading 21 = .ok (.iload_n 1, 1) := by decide +kernel
theorem dX4_isFading_22 : decode cX4_isFading 22 = .ok (.iaload, 1) := by decide +kernel
theorem dX4_isFading_23 : decode cX4_isFading 23 = .ok (.iadd, 1) := by decide +kernel
theorem dX4_isFading_24 : decode cX4_isFading 24 = .ok (.if_icmp .ge 7, 3) := by decide +kernel
theorem dX4_isFading_27 : decode cX4_isFading 27 = .ok (.iconst 1, 1) := by decide +kernel
theorem dX4_isFading_28 : decode cX4_isFading 28 = .ok (.goto 4, 3) := by decide +kernel
theorem dX4_isFading_31 : decode cX4_isFading 31 = .ok (.iconst 0, 1) := by decide +kernel
theorem dX4_isFading_32 : decode cX4_isFading 32 = .ok (.ireturn, 1) := by decide +kernel
theorem dX4_fadingSet_0 : decode cX4_fadingSet 0 = .ok (.iconst 0, 1) := by decide +kernel
theorem dX4_fadingSet_1 : decode cX4_fadingSet 1 = .ok (.istore_n 1, 1) := by decide +kernel
theorem dX4_fadingSet_2 : decode cX4_fadingSet 2 = .ok (.iconst 0, 1) := by decide +kernel
theorem dX4_fadingSet_3 : decode cX4_fadingSet 3 = .ok (.istore_n 2, 1) := by decide +kernel
theorem dX4_fadingSet_4 : decode cX4_fadingSet 4 = .ok (.iload_n 2, 1) := by decide +kernel
theorem dX4_fadingSet_5 : decode cX4_fadingSet 5 = .ok (.bipush 12, 2) := by decide +kernel
theorem dX4_fadingSet_7 : decode cX4_fadingSet 7 = .ok (.if_icmp .ge 23, 3) := by decide +kernel
theorem dX4_fadingSet_10 : decode cX4_fadingSet 10 = .ok (.aload_n 0, 1) := by decide +kernel
theorem dX4_fadingSet_11 : decode cX4_fadingSet 11 = .ok (.iload_n 2, 1) := by decide +kernel
theorem dX4_fadingSet_12 : decode cX4_fadingSet 12 = .ok (.invokevirtual 46, 3) := by decide +kernel
theorem dX4_fadingSet_15 : decode cX4_fadingSet 15 = .ok (.ifCond .eq 9, 3) := by decide +kernel
theorem dX4_fadingSet_18 : decode cX4_fadingSet 18 = .ok (.iload_n 1, 1) := by decide +kernel
theorem dX4_fadingSet_19 : decode cX4_fadingSet 19 = .ok (.iconst 1, 1) := by decide +kernel
theorem dX4_fadingSet_20 : decode cX4_fadingSet 20 = .ok (.iload_n 2, 1) := by decide +kernel
theorem dX4_fadingSet_21 : decode cX4_fadingSet 21 = .ok (.ishl, 1) := by decide +kernel
theorem dX4_fadingSet_22 : decode cX4_fadingSet 22 = .ok (.ior, 1) := by decide +kernel
theorem dX4_fadingSet_23 : decode cX4_fadingSet 23 = .ok (.istore_n 1, 1) := by decide +kernel
theorem dX4_fadingSet_24 : decode cX4_fadingSet 24 = .ok (.iinc 2 1, 3) := by decide +kernel
theorem dX4_fadingSet_27 : decode cX4_fadingSet 27 = .ok (.goto (-23), 3) := by decide +kernel
theorem dX4_fadingSet_30 : decode cX4_fadingSet 30 = .ok (.iload_n 1, 1) := by decide +kernel
theorem dX4_fadingSet_31 : decode cX4_fadingSet 31 = .ok (.ireturn, 1) := by decide +kernel
theorem dX4_sumOfPresent_0 : decode cX4_sumOfPresent 0 = .ok (.iconst 0, 1) := by decide +kernel
theorem dX4_sumOfPresent_1 : decode cX4_sumOfPresent 1 = .ok (.istore_n 1, 1) := by decide +kernel
theorem dX4_sumOfPresent_2 : decode cX4_sumOfPresent 2 = .ok (.iconst 0, 1) := by decide +kernel
theorem dX4_sumOfPresent_3 : decode cX4_sumOfPresent 3 = .ok (.istore_n 2, 1) := by decide +kernel
theorem dX4_sumOfPresent_4 : decode cX4_sumOfPresent 4 = .ok (.iload_n 2, 1) := by decide +kernel
theorem dX4_sumOfPresent_5 : decode cX4_sumOfPresent 5 = .ok (.bipush 12, 2) := by decide +kernel
theorem dX4_sumOfPresent_7 : decode cX4_sumOfPresent 7 = .ok (.if_icmp .ge 17, 3) := by decide +kernel
theorem dX4_sumOfPresent_10 : decode cX4_sumOfPresent 10 = .ok (.iload_n 1, 1) := by decide +kernel
theorem dX4_sumOfPresent_11 : decode cX4_sumOfPresent 11 = .ok (.aload_n 0, 1) := by decide +kernel
theorem dX4_sumOfPresent_12 : decode cX4_sumOfPresent 12 = .ok (.iload_n 2, 1) := by decide +kernel
theorem dX4_sumOfPresent_13 : decode cX4_sumOfPresent 13 = .ok (.invokevirtual 50, 3) := by decide +kernel
theorem dX4_sumOfPresent_16 : decode cX4_sumOfPresent 16 = .ok (.iadd, 1) := by decide +kernel
theorem dX4_sumOfPresent_17 : decode cX4_sumOfPresent 17 = .ok (.istore_n 1, 1) := by decide +kernel
theorem dX4_sumOfPresent_18 : decode cX4_sumOfPresent 18 = .ok (.iinc 2 1, 3) := by decide +kernel
theorem dX4_sumOfPresent_21 : decode cX4_sumOfPresent 21 = .ok (.goto (-17), 3) := by decide +kernel
theorem dX4_sumOfPresent_24 : decode cX4_sumOfPresent 24 = .ok (.iload_n 1, 1) := by decide +kernel
theorem dX4_sumOfPresent_25 : decode cX4_sumOfPresent 25 = .ok (.ireturn, 1) := by decide +kernel
theorem dX4_sumOfTargets_0 : decode cX4_sumOfTargets 0 = .ok (.iconst 0, 1) := by decide +kernel
theorem dX4_sumOfTargets_1 : decode cX4_sumOfTargets 1 = .ok (.istore_n 1, 1) := by decide +kernel
theorem dX4_sumOfTargets_2 : decode cX4_sumOfTargets 2 = .ok (.iconst 0, 1) := by decide +kernel
theorem dX4_sumOfTargets_3 : decode cX4_sumOfTargets 3 = .ok (.istore_n 2, 1) := by decide +kernel
theorem dX4_sumOfTargets_4 : decode cX4_sumOfTargets 4 = .ok (.iload_n 2, 1) := by decide +kernel
theorem dX4_sumOfTargets_5 : decode cX4_sumOfTargets 5 = .ok (.bipush 12, 2) := by decide +kernel
theorem dX4_sumOfTargets_7 : decode cX4_sumOfTargets 7 = .ok (.if_icmp .ge 18, 3) := by decide +kernel
theorem dX4_sumOfTargets_10 : decode cX4_sumOfTargets 10 = .ok (.iload_n 1, 1) := by decide +kernel
theorem dX4_sumOfTargets_11 : decode cX4_sumOfTargets 11 = .ok (.aload_n 0, 1) := by decide +kernel
theorem dX4_sumOfTargets_12 : decode cX4_sumOfTargets 12 = .ok (.getfield 15, 3) := by decide +kernel
theorem dX4_sumOfTargets_15 : decode cX4_sumOfTargets 15 = .ok (.iload_n 2, 1) := by decide +kernel
theorem dX4_sumOfTargets_16 : decode cX4_sumOfTargets 16 = .ok (.iaload, 1) := by decide +kernel
theorem dX4_sumOfTargets_17 : decode cX4_sumOfTargets 17 = .ok (.iadd, 1) := by decide +kernel
theorem dX4_sumOfTargets_18 : decode cX4_sumOfTargets 18 = .ok (.istore_n 1, 1) := by decide +kernel
theorem dX4_sumOfTargets_19 : decode cX4_sumOfTargets 19 = .ok (.iinc 2 1, 3) := by decide +kernel
theorem dX4_sumOfTargets_22 : decode cX4_sumOfTargets 22 = .ok (.goto (-18), 3) := by decide +kernel
theorem dX4_sumOfTargets_25 : decode cX4_sumOfTargets 25 = .ok (.iload_n 1, 1) := by decide +kernel
theorem dX4_sumOfTargets_26 : decode cX4_sumOfTargets 26 = .ok (.ireturn, 1) := by decide +kernel
theorem dX4_nextIndex_0 : decode cX4_nextIndex 0 = .ok (.iconst 0, 1) := by decide +kernel
theorem dX4_nextIndex_1 : decode cX4_nextIndex 1 = .ok (.istore_n 2, 1) := by decide +kernel
theorem dX4_nextIndex_2 : decode cX4_nextIndex 2 = .ok (.iload_n 2, 1) := by decide +kernel
theorem dX4_nextIndex_3 : decode cX4_nextIndex 3 = .ok (.aload_n 1, 1) := by decide +kernel
theorem dX4_nextIndex_4 : decode cX4_nextIndex 4 = .ok (.getfield 54, 3) := by decide +kernel
theorem dX4_nextIndex_7 : decode cX4_nextIndex 7 = .ok (.if_icmp .ge 27, 3) := by decide +kernel
theorem dX4_nextIndex_10 : decode cX4_nextIndex 10 = .ok (.aload_n 1, 1) := by decide +kernel
theorem dX4_nextIndex_11 : decode cX4_nextIndex 11 = .ok (.getfield 59, 3) := by decide +kernel
theorem dX4_nextIndex_14 : decode cX4_nextIndex 14 = .ok (.iload_n 2, 1) := by decide +kernel
theorem dX4_nextIndex_15 : decode cX4_nextIndex 15 = .ok (.aaload, 1) := by decide +kernel
theorem dX4_nextIndex_16 : decode cX4_nextIndex 16 = .ok (.getfield 63, 3) := by decide +kernel
theorem dX4_nextIndex_19 : decode cX4_nextIndex 19 = .ok (.aload_n 0, 1) := by decide +kernel
theorem dX4_nextIndex_20 : decode cX4_nextIndex 20 = .ok (.getfield 27, 3) := by decide +kernel
theorem dX4_nextIndex_23 : decode cX4_nextIndex 23 = .ok (.if_icmp .le 5, 3) := by decide +kernel
theorem dX4_nextIndex_26 : decode cX4_nextIndex 26 = .ok (.iload_n 2, 1) := by decide +kernel
theorem dX4_nextIndex_27 : decode cX4_nextIndex 27 = .ok (.ireturn, 1) := by decide +kernel
theorem dX4_nextIndex_28 : decode cX4_nextIndex 28 = .ok (.iinc 2 1, 3) := by decide +kernel
theorem dX4_nextIndex_31 : decode cX4_nextIndex 31 = .ok (.goto (-29), 3) := by decide +kernel
theorem dX4_nextIndex_34 : decode cX4_nextIndex 34 = .ok (.iconst (-1), 1) := by decide +kernel
theorem dX4_nextIndex_35 : decode cX4_nextIndex 35 = .ok (.ireturn, 1) := by decide +kernel
theorem dX4_nextNumber_0 : decode cX4_nextNumber 0 = .ok (.aload_n 0, 1) := by decide +kernel
theorem dX4_nextNumber_1 : decode cX4_nextNumber 1 = .ok (.aload_n 1, 1) := by decide +kernel
theorem dX4_nextNumber_2 : decode cX4_nextNumber 2 = .ok (.invokevirtual 68, 3) := by decide +kernel
theorem dX4_nextNumber_5 : decode cX4_nextNumber 5 = .ok (.istore_n 2, 1) := by decide +kernel
theorem dX4_nextNumber_6 : decode cX4_nextNumber 6 = .ok (.iload_n 2, 1) := by decide +kernel
theorem dX4_nextNumber_7 : decode cX4_nextNumber 7 = .ok (.ifCond .ge 7, 3) := by decide +kernel
theorem dX4_nextNumber_10 : decode cX4_nextNumber 10 = .ok (.iconst 0, 1) := by decide +kernel
theorem dX4_nextNumber_11 : decode cX4_nextNumber 11 = .ok (.goto 12, 3) := by decide +kernel
theorem dX4_nextNumber_14 : decode cX4_nextNumber 14 = .ok (.aload_n 1, 1) := by decide +kernel
theorem dX4_nextNumber_15 : decode cX4_nextNumber 15 = .ok (.getfield 59, 3) := by decide +kernel
theorem dX4_nextNumber_18 : decode cX4_nextNumber 18 = .ok (.iload_n 2, 1) := by decide +kernel
theorem dX4_nextNumber_19 : decode cX4_nextNumber 19 = .ok (.aaload, 1) := by decide +kernel
theorem dX4_nextNumber_20 : decode cX4_nextNumber 20 = .ok (.getfield 63, 3) := by decide +kernel
theorem dX4_nextNumber_23 : decode cX4_nextNumber 23 = .ok (.ireturn, 1) := by decide +kernel
theorem dX4_lowerIndex_0 : decode cX4_lowerIndex 0 = .ok (.aload_n 1, 1) := by decide +kernel
theorem dX4_lowerIndex_1 : decode cX4_lowerIndex 1 = .ok (.getfield 54, 3) := by decide +kernel
theorem dX4_lowerIndex_4 : decode cX4_lowerIndex 4 = .ok (.iconst 1, 1) := by decide +kernel
theorem dX4_lowerIndex_5 : decode cX4_lowerIndex 5 = .ok (.isub, 1) := by decide +kernel
theorem dX4_lowerIndex_6 : decode cX4_lowerIndex 6 = .ok (.istore_n 2, 1) := by decide +kernel
theorem dX4_lowerIndex_7 : decode cX4_lowerIndex 7 = .ok (.iload_n 2, 1) := by decide +kernel
theorem dX4_lowerIndex_8 : decode cX4_lowerIndex 8 = .ok (.ifCond .lt 27, 3) := by decide +kernel
theorem dX4_lowerIndex_11 : decode cX4_lowerIndex 11 = .ok (.aload_n 1, 1) := by decide +kernel
theorem dX4_lowerIndex_12 : decode cX4_lowerIndex 12 = .ok (.getfield 59, 3) := by decide +kernel
theorem dX4_lowerIndex_15 : decode cX4_lowerIndex 15 = .ok (.iload_n 2, 1) := by decide +kernel
theorem dX4_lowerIndex_16 : decode cX4_lowerIndex 16 = .ok (.aaload, 1) := by decide +kernel
theorem dX4_lowerIndex_17 : decode cX4_lowerIndex 17 = .ok (.getfield 63, 3) := by decide +kernel
theorem dX4_lowerIndex_20 : decode cX4_lowerIndex 20 = .ok (.aload_n 0, 1) := by decide +kernel
theorem dX4_lowerIndex_21 : decode cX4_lowerIndex 21 = .ok (.getfield 27, 3) := by decide +kernel
theorem dX4_lowerIndex_24 : decode cX4_lowerIndex 24 = .ok (.if_icmp .ge 5, 3) := by decide +kernel
theorem dX4_lowerIndex_27 : decode cX4_lowerIndex 27 = .ok (.iload_n 2, 1) := by decide +kernel
theorem dX4_lowerIndex_28 : decode cX4_lowerIndex 28 = .ok (.ireturn, 1) := by decide +kernel
theorem dX4_lowerIndex_29 : decode cX4_lowerIndex 29 = .ok (.iinc 2 (-1), 3) := by decide +kernel
theorem dX4_lowerIndex_32 : decode cX4_lowerIndex 32 = .ok (.goto (-25), 3) := by decide +kernel
theorem dX4_lowerIndex_35 : decode cX4_lowerIndex 35 = .ok (.iconst (-1), 1) := by decide +kernel
theorem dX4_lowerIndex_36 : decode cX4_lowerIndex 36 = .ok (.ireturn, 1) := by decide +kernel
theorem dX4_tenthsSinceLast_0 : decode cX4_tenthsSinceLast 0 = .ok (.aload_n 0, 1) := by decide +kernel
theorem dX4_tenthsSinceLast_1 : decode cX4_tenthsSinceLast 1 = .ok (.getfield 27, 3) := by decide +kernel
theorem dX4_tenthsSinceLast_4 : decode cX4_tenthsSinceLast 4 = .ok (.ifCond .ne 7, 3) := by decide +kernel
theorem dX4_tenthsSinceLast_7 : decode cX4_tenthsSinceLast 7 = .ok (.iconst 0, 1) := by decide +kernel
theorem dX4_tenthsSinceLast_8 : decode cX4_tenthsSinceLast 8 = .ok (.goto 12, 3) := by decide +kernel
theorem dX4_tenthsSinceLast_11 : decode cX4_tenthsSinceLast 11 = .ok (.aload_n 0, 1) := by decide +kernel
theorem dX4_tenthsSinceLast_12 : decode cX4_tenthsSinceLast 12 = .ok (.getfield 37, 3) := by decide +kernel
theorem dX4_tenthsSinceLast_15 : decode cX4_tenthsSinceLast 15 = .ok (.aload_n 0, 1) := by decide +kernel
theorem dX4_tenthsSinceLast_16 : decode cX4_tenthsSinceLast 16 = .ok (.getfield 31, 3) := by decide +kernel
theorem dX4_tenthsSinceLast_19 : decode cX4_tenthsSinceLast 19 = .ok (.isub, 1) := by decide +kernel
theorem dX4_tenthsSinceLast_20 : decode cX4_tenthsSinceLast 20 = .ok (.ireturn, 1) := by decide +kernel
theorem dX4_tenthsToFollow_0 : decode cX4_tenthsToFollow 0 = .ok (.aload_n 1, 1) := by decide +kernel
theorem dX4_tenthsToFollow_1 : decode cX4_tenthsToFollow 1 = .ok (.aload_n 0, 1) := by decide +kernel
theorem dX4_tenthsToFollow_2 : decode cX4_tenthsToFollow 2 = .ok (.getfield 27, 3) := by decide +kernel
theorem dX4_tenthsToFollow_5 : decode cX4_tenthsToFollow 5 = .ok (.invokevirtual 72, 3) := by decide +kernel
theorem dX4_tenthsToFollow_8 : decode cX4_tenthsToFollow 8 = .ok (.istore_n 2, 1) := by decide +kernel
theorem dX4_tenthsToFollow_9 : decode cX4_tenthsToFollow 9 = .ok (.iload_n 2, 1) := by decide +kernel
theorem dX4_tenthsToFollow_10 : decode cX4_tenthsToFollow 10 = .ok (.ifCond .lt 13, 3) := by decide +kernel
theorem dX4_tenthsToFollow_13 : decode cX4_tenthsToFollow 13 = .ok (.iload_n 2, 1) := by decide +kernel
theorem dX4_tenthsToFollow_14 : decode cX4_tenthsToFollow 14 = .ok (.iconst 1, 1) := by decide +kernel
theorem dX4_tenthsToFollow_15 : decode cX4_tenthsToFollow 15 = .ok (.iadd, 1) := by decide +kernel
theorem dX4_tenthsToFollow_16 : decode cX4_tenthsToFollow 16 = .ok (.aload_n 1, 1) := by decide +kernel
theorem dX4_tenthsToFollow_17 : decode cX4_tenthsToFollow 17 = .ok (.getfield 54, 3) := by decide +kernel
theorem dX4_tenthsToFollow_20 : decode cX4_tenthsToFollow 20 = .ok (.if_icmp .lt 5, 3) := by decide +kernel
theorem dX4_tenthsToFollow_23 : decode cX4_tenthsToFollow 23 = .ok (.iconst (-1), 1) := by decide +kernel
theorem dX4_tenthsToFollow_24 : decode cX4_tenthsToFollow 24 = .ok (.ireturn, 1) := by decide +kernel
theorem dX4_tenthsToFollow_25 : decode cX4_tenthsToFollow 25 = .ok (.aload_n 1, 1) := by decide +kernel
theorem dX4_tenthsToFollow_26 : decode cX4_tenthsToFollow 26 = .ok (.getfield 59, 3) := by decide +kernel
theorem dX4_tenthsToFollow_29 : decode cX4_tenthsToFollow 29 = .ok (.iload_n 2, 1) := by decide +kernel
theorem dX4_tenthsToFollow_30 : decode cX4_tenthsToFollow 30 = .ok (.aaload, 1) := by decide +kernel
theorem dX4_tenthsToFollow_31 : decode cX4_tenthsToFollow 31 = .ok (.getfield 75, 3) := by decide +kernel
theorem dX4_tenthsToFollow_34 : decode cX4_tenthsToFollow 34 = .ok (.istore_n 3, 1) := by decide +kernel
theorem dX4_tenthsToFollow_35 : decode cX4_tenthsToFollow 35 = .ok (.iload_n 3, 1) := by decide +kernel
theorem dX4_tenthsToFollow_36 : decode cX4_tenthsToFollow 36 = .ok (.iconst (-1), 1) := by decide +kernel
theorem dX4_tenthsToFollow_37 : decode cX4_tenthsToFollow 37 = .ok (.if_icmp .ne 7, 3) := by decide +kernel
theorem dX4_tenthsToFollow_40 : decode cX4_tenthsToFollow 40 = .ok (.iconst (-1), 1) := by decide +kernel
theorem dX4_tenthsToFollow_41 : decode cX4_tenthsToFollow 41 = .ok (.goto 13, 3) := by decide +kernel
theorem dX4_tenthsToFollow_44 : decode cX4_tenthsToFollow 44 = .ok (.iconst 1, 1) := by decide +kernel
theorem dX4_tenthsToFollow_45 : decode cX4_tenthsToFollow 45 = .ok (.iload_n 3, 1) := by decide +kernel
theorem dX4_tenthsToFollow_46 : decode cX4_tenthsToFollow 46 = .ok (.aload_n 0, 1) := by decide +kernel
theorem dX4_tenthsToFollow_47 : decode cX4_tenthsToFollow 47 = .ok (.invokevirtual 78, 3) := by decide +kernel
theorem dX4_tenthsToFollow_50 : decode cX4_tenthsToFollow 50 = .ok (.isub, 1) := by decide +kernel
theorem dX4_tenthsToFollow_51 : decode cX4_tenthsToFollow 51 = .ok (.invokestatic 82, 3) := by decide +kernel
theorem dX4_tenthsToFollow_54 : decode cX4_tenthsToFollow 54 = .ok (.ireturn, 1) := by decide +kernel
theorem dX4_letGo_0 : decode cX4_letGo 0 = .ok (.aload_n 1, 1) := by decide +kernel
theorem dX4_letGo_1 : decode cX4_letGo 1 = .ok (.getfield 59, 3) := by decide +kernel
theorem dX4_letGo_4 : decode cX4_letGo 4 = .ok (.iload_n 2, 1) := by decide +kernel
theorem dX4_letGo_5 : decode cX4_letGo 5 = .ok (.aaload, 1) := by decide +kernel
theorem dX4_letGo_6 : decode cX4_letGo 6 = .ok (.astore_n 3, 1) := by decide +kernel
theorem dX4_letGo_7 : decode cX4_letGo 7 = .ok (.iconst 0, 1) := by decide +kernel
theorem dX4_letGo_8 : decode cX4_letGo 8 = .ok (.istore 4, 2) := by decide +kernel
theorem dX4_letGo_10 : decode cX4_letGo 10 = .ok (.iconst 0, 1) := by decide +kernel
theorem dX4_letGo_11 : decode cX4_letGo 11 = .ok (.istore 5, 2) := by decide +kernel
theorem dX4_letGo_13 : decode cX4_letGo 13 = .ok (.iload 5, 2) := by decide +kernel
theorem dX4_letGo_15 : decode cX4_letGo 15 = .ok (.bipush 12, 2) := by decide +kernel
theorem dX4_letGo_17 : decode cX4_letGo 17 = .ok (.if_icmp .ge 63, 3) := by decide +kernel
theorem dX4_letGo_20 : decode cX4_letGo 20 = .ok (.aload_n 1, 1) := by decide +kernel
theorem dX4_letGo_21 : decode cX4_letGo 21 = .ok (.iload_n 2, 1) := by decide +kernel
theorem dX4_letGo_22 : decode cX4_letGo 22 = .ok (.iload 5, 2) := by decide +kernel
theorem dX4_letGo_24 : decode cX4_letGo 24 = .ok (.invokevirtual 88, 3) := by decide +kernel
theorem dX4_letGo_27 : decode cX4_letGo 27 = .ok (.istore 6, 2) := by decide +kernel
theorem dX4_letGo_29 : decode cX4_letGo 29 = .ok (.iload 6, 2) := by decide +kernel
theorem dX4_letGo_31 : decode cX4_letGo 31 = .ok (.aload_n 0, 1) := by decide +kernel
theorem dX4_letGo_32 : decode cX4_letGo 32 = .ok (.getfield 15, 3) := by decide +kernel
theorem dX4_letGo_35 : decode cX4_letGo 35 = .ok (.iload 5, 2) := by decide +kernel
theorem dX4_letGo_37 : decode cX4_letGo 37 = .ok (.iaload, 1) := by decide +kernel
theorem dX4_letGo_38 : decode cX4_letGo 38 = .ok (.if_icmp .eq 36, 3) := by decide +kernel
theorem dX4_letGo_41 : decode cX4_letGo 41 = .ok (.aload_n 3, 1) := by decide +kernel
theorem dX4_letGo_42 : decode cX4_letGo 42 = .ok (.iload 5, 2) := by decide +kernel
theorem dX4_letGo_44 : decode cX4_letGo 44 = .ok (.invokevirtual 91, 3) := by decide +kernel
theorem dX4_letGo_47 : decode cX4_letGo 47 = .ok (.istore 7, 2) := by decide +kernel
theorem dX4_letGo_49 : decode cX4_letGo 49 = .ok (.aload_n 0, 1) := by decide +kernel
theorem dX4_letGo_50 : decode cX4_letGo 50 = .ok (.iload 5, 2) := by decide +kernel
theorem dX4_letGo_52 : decode cX4_letGo 52 = .ok (.iload 6, 2) := by decide +kernel
theorem dX4_letGo_54 : decode cX4_letGo 54 = .ok (.aload_n 3, 1) := by decide +kernel
theorem dX4_letGo_55 : decode cX4_letGo 55 = .ok (.getfield 94, 3) := by decide +kernel
theorem dX4_letGo_58 : decode cX4_letGo 58 = .ok (.iload 7, 2) := by decide +kernel
theorem dX4_letGo_60 : decode cX4_letGo 60 = .ok (.iaload, 1) := by decide +kernel
theorem dX4_letGo_61 : decode cX4_letGo 61 = .ok (.aload_n 3, 1) := by decide +kernel
theorem dX4_letGo_62 : decode cX4_letGo 62 = .ok (.getfield 95, 3) := by decide +kernel
theorem dX4_letGo_65 : decode cX4_letGo 65 = .ok (.iload 7, 2) := by decide +kernel
theorem dX4_letGo_67 : decode cX4_letGo 67 = .ok (.iaload, 1) := by decide +kernel
theorem dX4_letGo_68 : decode cX4_letGo 68 = .ok (.invokevirtual 96, 3) := by decide +kernel
theorem dX4_letGo_71 : decode cX4_letGo 71 = .ok (.iinc 4 1, 3) := by decide +kernel
theorem dX4_letGo_74 : decode cX4_letGo 74 = .ok (.iinc 5 1, 3) := by decide +kernel
theorem dX4_letGo_77 : decode cX4_letGo 77 = .ok (.goto (-64), 3) := by decide +kernel
theorem dX4_letGo_80 : decode cX4_letGo 80 = .ok (.aload_n 0, 1) := by decide +kernel
theorem dX4_letGo_81 : decode cX4_letGo 81 = .ok (.aload_n 3, 1) := by decide +kernel
theorem dX4_letGo_82 : decode cX4_letGo 82 = .ok (.getfield 63, 3) := by decide +kernel
theorem dX4_letGo_85 : decode cX4_letGo 85 = .ok (.putfield 27, 3) := by decide +kernel
theorem dX4_letGo_88 : decode cX4_letGo 88 = .ok (.aload_n 0, 1) := by decide +kernel
theorem dX4_letGo_89 : decode cX4_letGo 89 = .ok (.aload_n 0, 1) := by decide +kernel
theorem dX4_letGo_90 : decode cX4_letGo 90 = .ok (.getfield 37, 3) := by decide +kernel
theorem dX4_letGo_93 : decode cX4_letGo 93 = .ok (.putfield 31, 3) := by decide +kernel
theorem dX4_letGo_96 : decode cX4_letGo 96 = .ok (.aload_n 0, 1) := by decide +kernel
theorem dX4_letGo_97 : decode cX4_letGo 97 = .ok (.dup, 1) := by decide +kernel
theorem dX4_letGo_98 : decode cX4_letGo 98 = .ok (.getfield 34, 3) := by decide +kernel
theorem dX4_letGo_101 : decode cX4_letGo 101 = .ok (.iconst 1, 1) := by decide +kernel
theorem dX4_letGo_102 : decode cX4_letGo 102 = .ok (.iadd, 1) := by decide +kernel
theorem dX4_letGo_103 : decode cX4_letGo 103 = .ok (.putfield 34, 3) := by decide +kernel
theorem dX4_letGo_106 : decode cX4_letGo 106 = .ok (.iload 4, 2) := by decide +kernel
theorem dX4_letGo_108 : decode cX4_letGo 108 = .ok (.ireturn, 1) := by decide +kernel
theorem dX4_beginFade_0 : decode cX4_beginFade 0 = .ok (.aload_n 0, 1) := by decide +kernel
theorem dX4_beginFade_1 : decode cX4_beginFade 1 = .ok (.getfield 9, 3) := by decide +kernel
theorem dX4_beginFade_4 : decode cX4_beginFade 4 = .ok (.iload_n 1, 1) := by decide +kernel
theorem dX4_beginFade_5 : decode cX4_beginFade 5 = .ok (.aload_n 0, 1) := by decide +kernel
theorem dX4_beginFade_6 : decode cX4_beginFade 6 = .ok (.iload_n 1, 1) := by decide +kernel
theorem dX4_beginFade_7 : decode cX4_beginFade 7 = .ok (.invokevirtual 50, 3) := by decide +kernel
theorem dX4_beginFade_10 : decode cX4_beginFade 10 = .ok (.iastore, 1) := by decide +kernel
theorem dX4_beginFade_11 : decode cX4_beginFade 11 = .ok (.aload_n 0, 1) := by decide +kernel
theorem dX4_beginFade_12 : decode cX4_beginFade 12 = .ok (.getfield 15, 3) := by decide +kernel
theorem dX4_beginFade_15 : decode cX4_beginFade 15 = .ok (.iload_n 1, 1) := by decide +kernel
theorem dX4_beginFade_16 : decode cX4_beginFade 16 = .ok (.iload_n 2, 1) := by decide +kernel
theorem dX4_beginFade_17 : decode cX4_beginFade 17 = .ok (.iastore, 1) := by decide +kernel
theorem dX4_beginFade_18 : decode cX4_beginFade 18 = .ok (.aload_n 0, 1) := by decide +kernel
theorem dX4_beginFade_19 : decode cX4_beginFade 19 = .ok (.getfield 18, 3) := by decide +kernel
theorem dX4_beginFade_22 : decode cX4_beginFade 22 = .ok (.iload_n 1, 1) := by decide +kernel
theorem dX4_beginFade_23 : decode cX4_beginFade 23 = .ok (.aload_n 0, 1) := by decide +kernel
theorem dX4_beginFade_24 : decode cX4_beginFade 24 = .ok (.getfield 37, 3) := by decide +kernel
theorem dX4_beginFade_27 : decode cX4_beginFade 27 = .ok (.iastore, 1) := by decide +kernel
theorem dX4_beginFade_28 : decode cX4_beginFade 28 = .ok (.aload_n 0, 1) := by decide +kernel
theorem dX4_beginFade_29 : decode cX4_beginFade 29 = .ok (.getfield 21, 3) := by decide +kernel
theorem dX4_beginFade_32 : decode cX4_beginFade 32 = .ok (.iload_n 1, 1) := by decide +kernel
theorem dX4_beginFade_33 : decode cX4_beginFade 33 = .ok (.iload_n 3, 1) := by decide +kernel
theorem dX4_beginFade_34 : decode cX4_beginFade 34 = .ok (.iastore, 1) := by decide +kernel
theorem dX4_beginFade_35 : decode cX4_beginFade 35 = .ok (.aload_n 0, 1) := by decide +kernel
theorem dX4_beginFade_36 : decode cX4_beginFade 36 = .ok (.getfield 24, 3) := by decide +kernel
theorem dX4_beginFade_39 : decode cX4_beginFade 39 = .ok (.iload_n 1, 1) := by decide +kernel
theorem dX4_beginFade_40 : decode cX4_beginFade 40 = .ok (.iload 4, 2) := by decide +kernel
theorem dX4_beginFade_42 : decode cX4_beginFade 42 = .ok (.iastore, 1) := by decide +kernel
theorem dX4_beginFade_43 : decode cX4_beginFade 43 = .ok (.return_, 1) := by decide +kernel
theorem dX4_hasTimeFor_0 : decode cX4_hasTimeFor 0 = .ok (.aload_n 0, 1) := by decide +kernel
theorem dX4_hasTimeFor_1 : decode cX4_hasTimeFor 1 = .ok (.getfield 37, 3) := by decide +kernel
theorem dX4_hasTimeFor_4 : decode cX4_hasTimeFor 4 = .ok (.iload_n 1, 1) := by decide +kernel
theorem dX4_hasTimeFor_5 : decode cX4_hasTimeFor 5 = .ok (.iadd, 1) := by decide +kernel
theorem dX4_hasTimeFor_6 : decode cX4_hasTimeFor 6 = .ok (.ldc 100, 2) := by decide +kernel
theorem dX4_hasTimeFor_8 : decode cX4_hasTimeFor 8 = .ok (.if_icmp .gt 7, 3) := by decide +kernel
theorem dX4_hasTimeFor_11 : decode cX4_hasTimeFor 11 = .ok (.iconst 1, 1) := by decide +kernel
theorem dX4_hasTimeFor_12 : decode cX4_hasTimeFor 12 = .ok (.goto 4, 3) := by decide +kernel
theorem dX4_hasTimeFor_15 : decode cX4_hasTimeFor 15 = .ok (.iconst 0, 1) := by decide +kernel
theorem dX4_hasTimeFor_16 : decode cX4_hasTimeFor 16 = .ok (.ireturn, 1) := by decide +kernel
theorem dX4_letPass_0 : decode cX4_letPass 0 = .ok (.iconst 0, 1) := by decide +kernel
theorem dX4_letPass_1 : decode cX4_letPass 1 = .ok (.istore_n 3, 1) := by decide +kernel
theorem dX4_letPass_2 : decode cX4_letPass 2 = .ok (.iload_n 2, 1) := by decide +kernel
theorem dX4_letPass_3 : decode cX4_letPass 3 = .ok (.istore 4, 2) := by decide +kernel
theorem dX4_letPass_5 : decode cX4_letPass 5 = .ok (.iload 4, 2) := by decide +kernel
theorem dX4_letPass_7 : decode cX4_letPass 7 = .ok (.ifCond .le 80, 3) := by decide +kernel
theorem dX4_letPass_10 : decode cX4_letPass 10 = .ok (.aload_n 0, 1) := by decide +kernel
theorem dX4_letPass_11 : decode cX4_letPass 11 = .ok (.aload_n 1, 1) := by decide +kernel
theorem dX4_letPass_12 : decode cX4_letPass 12 = .ok (.invokevirtual 101, 3) := by decide +kernel
theorem dX4_letPass_15 : decode cX4_letPass 15 = .ok (.istore 5, 2) := by decide +kernel
theorem dX4_letPass_17 : decode cX4_letPass 17 = .ok (.aload_n 0, 1) := by decide +kernel
theorem dX4_letPass_18 : decode cX4_letPass 18 = .ok (.aload_n 1, 1) := by decide +kernel
theorem dX4_letPass_19 : decode cX4_letPass 19 = .ok (.invokevirtual 68, 3) := by decide +kernel
theorem dX4_letPass_22 : decode cX4_letPass 22 = .ok (.istore 6, 2) := by decide +kernel
theorem dX4_letPass_24 : decode cX4_letPass 24 = .ok (.iload 6, 2) := by decide +kernel
theorem dX4_letPass_26 : decode cX4_letPass 26 = .ok (.ifCond .lt 16, 3) := by decide +kernel
theorem dX4_letPass_29 : decode cX4_letPass 29 = .ok (.iload 5, 2) := by decide +kernel
theorem dX4_letPass_31 : decode cX4_letPass 31 = .ok (.iconst 1, 1) := by decide +kernel
theorem dX4_letPass_32 : decode cX4_letPass 32 = .ok (.if_icmp .lt 10, 3) := by decide +kernel
theorem dX4_letPass_35 : decode cX4_letPass 35 = .ok (.iload 5, 2) := by decide +kernel
theorem dX4_letPass_37 : decode cX4_letPass 37 = .ok (.iload 4, 2) := by decide +kernel
theorem dX4_letPass_39 : decode cX4_letPass 39 = .ok (.if_icmp .le 16, 3) := by decide +kernel
theorem dX4_letPass_42 : decode cX4_letPass 42 = .ok (.aload_n 0, 1) := by decide +kernel
theorem dX4_letPass_43 : decode cX4_letPass 43 = .ok (.dup, 1) := by decide +kernel
theorem dX4_letPass_44 : decode cX4_letPass 44 = .ok (.getfield 37, 3) := by decide +kernel
theorem dX4_letPass_47 : decode cX4_letPass 47 = .ok (.iload 4, 2) := by decide +kernel
theorem dX4_letPass_49 : decode cX4_letPass 49 = .ok (.iadd, 1) := by decide +kernel
theorem dX4_letPass_50 : decode cX4_letPass 50 = .ok (.putfield 37, 3) := by decide +kernel
theorem dX4_letPass_53 : decode cX4_letPass 53 = .ok (.iload_n 3, 1) := by decide +kernel
theorem dX4_letPass_54 : decode cX4_letPass 54 = .ok (.ireturn, 1) := by decide +kernel
theorem dX4_letPass_55 : decode cX4_letPass 55 = .ok (.aload_n 0, 1) := by decide +kernel
theorem dX4_letPass_56 : decode cX4_letPass 56 = .ok (.dup, 1) := by decide +kernel
theorem dX4_letPass_57 : decode cX4_letPass 57 = .ok (.getfield 37, 3) := by decide +kernel
theorem dX4_letPass_60 : decode cX4_letPass 60 = .ok (.iload 5, 2) := by decide +kernel
theorem dX4_letPass_62 : decode cX4_letPass 62 = .ok (.iadd, 1) := by decide +kernel
theorem dX4_letPass_63 : decode cX4_letPass 63 = .ok (.putfield 37, 3) := by decide +kernel
theorem dX4_letPass_66 : decode cX4_letPass 66 = .ok (.iload 4, 2) := by decide +kernel
theorem dX4_letPass_68 : decode cX4_letPass 68 = .ok (.iload 5, 2) := by decide +kernel
theorem dX4_letPass_70 : decode cX4_letPass 70 = .ok (.isub, 1) := by decide +kernel
theorem dX4_letPass_71 : decode cX4_letPass 71 = .ok (.istore 4, 2) := by decide +kernel
theorem dX4_letPass_73 : decode cX4_letPass 73 = .ok (.aload_n 0, 1) := by decide +kernel
theorem dX4_letPass_74 : decode cX4_letPass 74 = .ok (.aload_n 1, 1) := by decide +kernel
theorem dX4_letPass_75 : decode cX4_letPass 75 = .ok (.iload 6, 2) := by decide +kernel
theorem dX4_letPass_77 : decode cX4_letPass 77 = .ok (.invokevirtual 104, 3) := by decide +kernel
theorem dX4_letPass_80 : decode cX4_letPass 80 = .ok (.pop, 1) := by decide +kernel
theorem dX4_letPass_81 : decode cX4_letPass 81 = .ok (.iinc 3 1, 3) := by decide +kernel
theorem dX4_letPass_84 : decode cX4_letPass 84 = .ok (.goto (-79), 3) := by decide +kernel
theorem dX4_letPass_87 : decode cX4_letPass 87 = .ok (.iload_n 3, 1) := by decide +kernel
theorem dX4_letPass_88 : decode cX4_letPass 88 = .ok (.ireturn, 1) := by decide +kernel
theorem dX5_init_0 : decode cX5_init 0 = .ok (.aload_n 0, 1) := by decide +kernel
theorem dX5_init_1 : decode cX5_init 1 = .ok (.invokespecial 1, 3) := by decide +kernel
theorem dX5_init_4 : decode cX5_init 4 = .ok (.aload_n 0, 1) := by decide +kernel
theorem dX5_init_5 : decode cX5_init 5 = .ok (.new 7, 3) := by decide +kernel
theorem dX5_init_8 : decode cX5_init 8 = .ok (.dup, 1) := by decide +kernel
theorem dX5_init_9 : decode cX5_init 9 = .ok (.invokespecial 9, 3) := by decide +kernel
theorem dX5_init_12 : decode cX5_init 12 = .ok (.putfield 10, 3) := by decide +kernel
theorem dX5_init_15 : decode cX5_init 15 = .ok (.aload_n 0, 1) := by decide +kernel
theorem dX5_init_16 : decode cX5_init 16 = .ok (.new 16, 3) := by decide +kernel
theorem dX5_init_19 : decode cX5_init 19 = .ok (.dup, 1) := by decide +kernel
theorem dX5_init_20 : decode cX5_init 20 = .ok (.invokespecial 18, 3) := by decide +kernel
theorem dX5_init_23 : decode cX5_init 23 = .ok (.putfield 19, 3) := by decide +kernel
theorem dX5_init_26 : decode cX5_init 26 = .ok (.return_, 1) := by decide +kernel
theorem dX5_makeNew_0 : decode cX5_makeNew 0 = .ok (.aload_n 0, 1) := by decide +kernel
theorem dX5_makeNew_1 : decode cX5_makeNew 1 = .ok (.getfield 10, 3) := by decide +kernel
theorem dX5_makeNew_4 : decode cX5_makeNew 4 = .ok (.invokevirtual 23, 3) := by decide +kernel
theorem dX5_makeNew_7 : decode cX5_makeNew 7 = .ok (.aload_n 0, 1) := by decide +kernel
theorem dX5_makeNew_8 : decode cX5_makeNew 8 = .ok (.getfield 19, 3) := by decide +kernel
theorem dX5_makeNew_11 : decode cX5_makeNew 11 = .ok (.invokevirtual 26, 3) := by decide +kernel
theorem dX5_makeNew_14 : decode cX5_makeNew 14 = .ok (.return_, 1) := by decide +kernel
theorem dX5_copyFrom_0 : decode cX5_copyFrom 0 = .ok (.aload_n 0, 1) := by decide +kernel
theorem dX5_copyFrom_1 : decode cX5_copyFrom 1 = .ok (.getfield 10, 3) := by decide +kernel
theorem dX5_copyFrom_4 : decode cX5_copyFrom 4 = .ok (.aload_n 1, 1) := by decide +kernel
theorem dX5_copyFrom_5 : decode cX5_copyFrom 5 = .ok (.getfield 10, 3) := by decide +kernel
theorem dX5_copyFrom_8 : decode cX5_copyFrom 8 = .ok (.invokevirtual 27, 3) := by decide +kernel
theorem dX5_copyFrom_11 : decode cX5_copyFrom 11 = .ok (.aload_n 0, 1) := by decide +kernel
theorem dX5_copyFrom_12 : decode cX5_copyFrom 12 = .ok (.getfield 19, 3) := by decide +kernel
theorem dX5_copyFrom_15 : decode cX5_copyFrom 15 = .ok (.aload_n 1, 1) := by decide +kernel
theorem dX5_copyFrom_16 : decode cX5_copyFrom 16 = .ok (.getfield 19, 3) := by decide +kernel
theorem dX5_copyFrom_19 : decode cX5_copyFrom 19 = .ok (.invokevirtual 31, 3) := by decide +kernel
theorem dX5_copyFrom_22 : decode cX5_copyFrom 22 = .ok (.return_, 1) := by decide +kernel
theorem dX6_init_0 : decode cX6_init 0 = .ok (.aload_n 0, 1) := by decide +kernel
theorem dX6_init_1 : decode cX6_init 1 = .ok (.invokespecial 1, 3) := by decide +kernel
theorem dX6_init_4 : decode cX6_init 4 = .ok (.aload_n 0, 1) := by decide +kernel
theorem dX6_init_5 : decode cX6_init 5 = .ok (.new 7, 3) := by decide +kernel
theorem dX6_init_8 : decode cX6_init 8 = .ok (.dup, 1) := by decide +kernel
theorem dX6_init_9 : decode cX6_init 9 = .ok (.invokespecial 9, 3) := by decide +kernel
theorem dX6_init_12 : decode cX6_init 12 = .ok (.putfield 10, 3) := by decide +kernel
theorem dX6_init_15 : decode cX6_init 15 = .ok (.aload_n 0, 1) := by decide +kernel
theorem dX6_init_16 : decode cX6_init 16 = .ok (.new 7, 3) := by decide +kernel
theorem dX6_init_19 : decode cX6_init 19 = .ok (.dup, 1) := by decide +kernel
theorem dX6_init_20 : decode cX6_init 20 = .ok (.invokespecial 9, 3) := by decide +kernel
theorem dX6_init_23 : decode cX6_init 23 = .ok (.putfield 16, 3) := by decide +kernel
theorem dX6_init_26 : decode cX6_init 26 = .ok (.aload_n 0, 1) := by decide +kernel
theorem dX6_init_27 : decode cX6_init 27 = .ok (.new 19, 3) := by decide +kernel
theorem dX6_init_30 : decode cX6_init 30 = .ok (.dup, 1) := by decide +kernel
theorem dX6_init_31 : decode cX6_init 31 = .ok (.invokespecial 21, 3) := by decide +kernel
theorem dX6_init_34 : decode cX6_init 34 = .ok (.putfield 22, 3) := by decide +kernel
theorem dX6_init_37 : decode cX6_init 37 = .ok (.aload_n 0, 1) := by decide +kernel
theorem dX6_init_38 : decode cX6_init 38 = .ok (.new 26, 3) := by decide +kernel
theorem dX6_init_41 : decode cX6_init 41 = .ok (.dup, 1) := by decide +kernel
theorem dX6_init_42 : decode cX6_init 42 = .ok (.invokespecial 28, 3) := by decide +kernel
theorem dX6_init_45 : decode cX6_init 45 = .ok (.putfield 29, 3) := by decide +kernel
theorem dX6_init_48 : decode cX6_init 48 = .ok (.aload_n 0, 1) := by decide +kernel
theorem dX6_init_49 : decode cX6_init 49 = .ok (.iconst 0, 1) := by decide +kernel
theorem dX6_init_50 : decode cX6_init 50 = .ok (.putfield 33, 3) := by decide +kernel
theorem dX6_init_53 : decode cX6_init 53 = .ok (.aload_n 0, 1) := by decide +kernel
theorem dX6_init_54 : decode cX6_init 54 = .ok (.iconst (-1), 1) := by decide +kernel
theorem dX6_init_55 : decode cX6_init 55 = .ok (.putfield 37, 3) := by decide +kernel
theorem dX6_init_58 : decode cX6_init 58 = .ok (.return_, 1) := by decide +kernel
theorem dX6_clear_0 : decode cX6_clear 0 = .ok (.aload_n 0, 1) := by decide +kernel
theorem dX6_clear_1 : decode cX6_clear 1 = .ok (.getfield 10, 3) := by decide +kernel
theorem dX6_clear_4 : decode cX6_clear 4 = .ok (.getfield 40, 3) := by decide +kernel
theorem dX6_clear_7 : decode cX6_clear 7 = .ok (.getfield 44, 3) := by decide +kernel
theorem dX6_clear_10 : decode cX6_clear 10 = .ok (.istore_n 1, 1) := by decide +kernel
theorem dX6_clear_11 : decode cX6_clear 11 = .ok (.aload_n 0, 1) := by decide +kernel
theorem dX6_clear_12 : decode cX6_clear 12 = .ok (.getfield 10, 3) := by decide +kernel
theorem dX6_clear_15 : decode cX6_clear 15 = .ok (.invokevirtual 49, 3) := by decide +kernel
theorem dX6_clear_18 : decode cX6_clear 18 = .ok (.aload_n 0, 1) := by decide +kernel
theorem dX6_clear_19 : decode cX6_clear 19 = .ok (.getfield 22, 3) := by decide +kernel
theorem dX6_clear_22 : decode cX6_clear 22 = .ok (.invokevirtual 52, 3) := by decide +kernel
theorem dX6_clear_25 : decode cX6_clear 25 = .ok (.iload_n 1, 1) := by decide +kernel
theorem dX6_clear_26 : decode cX6_clear 26 = .ok (.ireturn, 1) := by decide +kernel
theorem dX6_addCue_0 : decode cX6_addCue 0 = .ok (.aload_n 0, 1) := by decide +kernel
theorem dX6_addCue_1 : decode cX6_addCue 1 = .ok (.iload_n 1, 1) := by decide +kernel
theorem dX6_addCue_2 : decode cX6_addCue 2 = .ok (.invokevirtual 55, 3) := by decide +kernel
theorem dX6_addCue_5 : decode cX6_addCue 5 = .ok (.ifCond .ne 13, 3) := by decide +kernel
theorem dX6_addCue_8 : decode cX6_addCue 8 = .ok (.new 59, 3) := by decide +kernel
theorem dX6_addCue_11 : decode cX6_addCue 11 = .ok (.dup, 1) := by decide +kernel
theorem dX6_addCue_12 : decode cX6_addCue 12 = .ok (.ldc 61, 2) := by decide +kernel
theorem dX6_addCue_14 : decode cX6_addCue 14 = .ok (.invokespecial 63, 3) := by decide +kernel
theorem dX6_addCue_17 : decode cX6_addCue 17 = .ok (.athrow, 1) := by decide +kernel
theorem dX6_addCue_18 : decode cX6_addCue 18 = .ok (.aload_n 0, 1) := by decide +kernel
theorem dX6_addCue_19 : decode cX6_addCue 19 = .ok (.getfield 10, 3) := by decide +kernel
theorem dX6_addCue_22 : decode cX6_addCue 22 = .ok (.getfield 40, 3) := by decide +kernel
theorem dX6_addCue_25 : decode cX6_addCue 25 = .ok (.getfield 44, 3) := by decide +kernel
theorem dX6_addCue_28 : decode cX6_addCue 28 = .ok (.bipush 12, 2) := by decide +kernel
theorem dX6_addCue_30 : decode cX6_addCue 30 = .ok (.if_icmp .lt 13, 3) := by decide +kernel
theorem dX6_addCue_33 : decode cX6_addCue 33 = .ok (.new 66, 3) := by decide +kernel
theorem dX6_addCue_36 : decode cX6_addCue 36 = .ok (.dup, 1) := by decide +kernel
theorem dX6_addCue_37 : decode cX6_addCue 37 = .ok (.ldc 68, 2) := by decide +kernel
theorem dX6_addCue_39 : decode cX6_addCue 39 = .ok (.invokespecial 70, 3) := by decide +kernel
theorem dX6_addCue_42 : decode cX6_addCue 42 = .ok (.athrow, 1) := by decide +kernel
theorem dX6_addCue_43 : decode cX6_addCue 43 = .ok (.aload_n 0, 1) := by decide +kernel
theorem dX6_addCue_44 : decode cX6_addCue 44 = .ok (.getfield 22, 3) := by decide +kernel
theorem dX6_addCue_47 : decode cX6_addCue 47 = .ok (.aload_n 0, 1) := by decide +kernel
theorem dX6_addCue_48 : decode cX6_addCue 48 = .ok (.getfield 10, 3) := by decide +kernel
theorem dX6_addCue_51 : decode cX6_addCue 51 = .ok (.invokevirtual 71, 3) := by decide +kernel
theorem dX6_addCue_54 : decode cX6_addCue 54 = .ok (.aload_n 0, 1) := by decide +kernel
theorem dX6_addCue_55 : decode cX6_addCue 55 = .ok (.getfield 10, 3) := by decide +kernel
theorem dX6_addCue_58 : decode cX6_addCue 58 = .ok (.getfield 40, 3) := by decide +kernel
theorem dX6_addCue_61 : decode cX6_addCue 61 = .ok (.iload_n 1, 1) := by decide +kernel
theorem dX6_addCue_62 : decode cX6_addCue 62 = .ok (.invokevirtual 75, 3) := by decide +kernel
theorem dX6_addCue_65 : decode cX6_addCue 65 = .ok (.aload_n 0, 1) := by decide +kernel
theorem dX6_addCue_66 : decode cX6_addCue 66 = .ok (.getfield 10, 3) := by decide +kernel
theorem dX6_addCue_69 : decode cX6_addCue 69 = .ok (.getfield 40, 3) := by decide +kernel
theorem dX6_addCue_72 : decode cX6_addCue 72 = .ok (.getfield 44, 3) := by decide +kernel
theorem dX6_addCue_75 : decode cX6_addCue 75 = .ok (.ireturn, 1) := by decide +kernel
theorem dX6_removeCue_0 : decode cX6_removeCue 0 = .ok (.aload_n 0, 1) := by decide +kernel
theorem dX6_removeCue_1 : decode cX6_removeCue 1 = .ok (.getfield 10, 3) := by decide +kernel
theorem dX6_removeCue_4 : decode cX6_removeCue 4 = .ok (.getfield 40, 3) := by decide +kernel
theorem dX6_removeCue_7 : decode cX6_removeCue 7 = .ok (.iload_n 1, 1) := by decide +kernel
theorem dX6_removeCue_8 : decode cX6_removeCue 8 = .ok (.invokevirtual 79, 3) := by decide +kernel
theorem dX6_removeCue_11 : decode cX6_removeCue 11 = .ok (.istore_n 3, 1) := by decide +kernel
theorem dX6_removeCue_12 : decode cX6_removeCue 12 = .ok (.iload_n 3, 1) := by decide +kernel
theorem dX6_removeCue_13 : decode cX6_removeCue 13 = .ok (.ifCond .ge 13, 3) := by decide +kernel
theorem dX6_removeCue_16 : decode cX6_removeCue 16 = .ok (.new 83, 3) := by decide +kernel
theorem dX6_removeCue_19 : decode cX6_removeCue 19 = .ok (.dup, 1) := by decide +kernel
theorem dX6_removeCue_20 : decode cX6_removeCue 20 = .ok (.ldc 85, 2) := by decide +kernel
theorem dX6_removeCue_22 : decode cX6_removeCue 22 = .ok (.invokespecial 87, 3) := by decide +kernel
theorem dX6_removeCue_25 : decode cX6_removeCue 25 = .ok (.athrow, 1) := by decide +kernel
theorem dX6_removeCue_26 : decode cX6_removeCue 26 = .ok (.aload_n 0, 1) := by decide +kernel
theorem dX6_removeCue_27 : decode cX6_removeCue 27 = .ok (.aload_n 0, 1) := by decide +kernel
theorem dX6_removeCue_28 : decode cX6_removeCue 28 = .ok (.getfield 10, 3) := by decide +kernel
theorem dX6_removeCue_31 : decode cX6_removeCue 31 = .ok (.getfield 40, 3) := by decide +kernel
theorem dX6_removeCue_34 : decode cX6_removeCue 34 = .ok (.iload_n 3, 1) := by decide +kernel
theorem dX6_removeCue_35 : decode cX6_removeCue 35 = .ok (.iload_n 2, 1) := by decide +kernel
theorem dX6_removeCue_36 : decode cX6_removeCue 36 = .ok (.invokevirtual 88, 3) := by decide +kernel
theorem dX6_removeCue_39 : decode cX6_removeCue 39 = .ok (.invokevirtual 92, 3) := by decide +kernel
theorem dX6_removeCue_42 : decode cX6_removeCue 42 = .ok (.ifCond .eq 13, 3) := by decide +kernel
theorem dX6_removeCue_45 : decode cX6_removeCue 45 = .ok (.new 95, 3) := by decide +kernel
theorem dX6_removeCue_48 : decode cX6_removeCue 48 = .ok (.dup, 1) := by decide +kernel
theorem dX6_removeCue_49 : decode cX6_removeCue 49 = .ok (.ldc 97, 2) := by decide +kernel
theorem dX6_removeCue_51 : decode cX6_removeCue 51 = .ok (.invokespecial 99, 3) := by decide +kernel
theorem dX6_removeCue_54 : decode cX6_removeCue 54 = .ok (.athrow, 1) := by decide +kernel
theorem dX6_removeCue_55 : decode cX6_removeCue 55 = .ok (.aload_n 0, 1) := by decide +kernel
theorem dX6_removeCue_56 : decode cX6_removeCue 56 = .ok (.getfield 22, 3) := by decide +kernel
theorem dX6_removeCue_59 : decode cX6_removeCue 59 = .ok (.aload_n 0, 1) := by decide +kernel
theorem dX6_removeCue_60 : decode cX6_removeCue 60 = .ok (.getfield 10, 3) := by decide +kernel
theorem dX6_removeCue_63 : decode cX6_removeCue 63 = .ok (.invokevirtual 71, 3) := by decide +kernel
theorem dX6_removeCue_66 : decode cX6_removeCue 66 = .ok (.aload_n 0, 1) := by decide +kernel
theorem dX6_removeCue_67 : decode cX6_removeCue 67 = .ok (.getfield 10, 3) := by decide +kernel
theorem dX6_removeCue_70 : decode cX6_removeCue 70 = .ok (.getfield 40, 3) := by decide +kernel
theorem dX6_removeCue_73 : decode cX6_removeCue 73 = .ok (.iload_n 3, 1) := by decide +kernel
theorem dX6_removeCue_74 : decode cX6_removeCue 74 = .ok (.iload_n 2, 1) := by decide +kernel
theorem dX6_removeCue_75 : decode cX6_removeCue 75 = .ok (.invokevirtual 100, 3) := by decide +kernel
theorem dX6_removeCue_78 : decode cX6_removeCue 78 = .ok (.ireturn, 1) := by decide +kernel
theorem dX6_cueAt_0 : decode cX6_cueAt 0 = .ok (.iload_n 1, 1) := by decide +kernel
theorem dX6_cueAt_1 : decode cX6_cueAt 1 = .ok (.ifCond .lt 17, 3) := by decide +kernel
theorem dX6_cueAt_4 : decode cX6_cueAt 4 = .ok (.iload_n 1, 1) := by decide +kernel
theorem dX6_cueAt_5 : decode cX6_cueAt 5 = .ok (.aload_n 0, 1) := by decide +kernel
theorem dX6_cueAt_6 : decode cX6_cueAt 6 = .ok (.getfield 10, 3) := by decide +kernel
theorem dX6_cueAt_9 : decode cX6_cueAt 9 = .ok (.getfield 40, 3) := by decide +kernel
theorem dX6_cueAt_12 : decode cX6_cueAt 12 = .ok (.getfield 44, 3) := by decide +kernel
theorem dX6_cueAt_15 : decode cX6_cueAt 15 = .ok (.if_icmp .lt 13, 3) := by decide +kernel
theorem dX6_cueAt_18 : decode cX6_cueAt 18 = .ok (.new 103, 3) := by decide +kernel
theorem dX6_cueAt_21 : decode cX6_cueAt 21 = .ok (.dup, 1) := by decide +kernel
theorem dX6_cueAt_22 : decode cX6_cueAt 22 = .ok (.ldc 105, 2) := by decide +kernel
theorem dX6_cueAt_24 : decode cX6_cueAt 24 = .ok (.invokespecial 107, 3) := by decide +kernel
theorem dX6_cueAt_27 : decode cX6_cueAt 27 = .ok (.athrow, 1) := by decide +kernel
theorem dX6_cueAt_28 : decode cX6_cueAt 28 = .ok (.aload_n 0, 1) := by decide +kernel
theorem dX6_cueAt_29 : decode cX6_cueAt 29 = .ok (.getfield 10, 3) := by decide +kernel
theorem dX6_cueAt_32 : decode cX6_cueAt 32 = .ok (.getfield 40, 3) := by decide +kernel
theorem dX6_cueAt_35 : decode cX6_cueAt 35 = .ok (.getfield 108, 3) := by decide +kernel
theorem dX6_cueAt_38 : decode cX6_cueAt 38 = .ok (.iload_n 1, 1) := by decide +kernel
theorem dX6_cueAt_39 : decode cX6_cueAt 39 = .ok (.aaload, 1) := by decide +kernel
theorem dX6_cueAt_40 : decode cX6_cueAt 40 = .ok (.getfield 112, 3) := by decide +kernel
theorem dX6_cueAt_43 : decode cX6_cueAt 43 = .ok (.ireturn, 1) := by decide +kernel
theorem dX6_setFollow_0 : decode cX6_setFollow 0 = .ok (.aload_n 0, 1) := by decide +kernel
theorem dX6_setFollow_1 : decode cX6_setFollow 1 = .ok (.getfield 10, 3) := by decide +kernel
theorem dX6_setFollow_4 : decode cX6_setFollow 4 = .ok (.getfield 40, 3) := by decide +kernel
theorem dX6_setFollow_7 : decode cX6_setFollow 7 = .ok (.iload_n 1, 1) := by decide +kernel
theorem dX6_setFollow_8 : decode cX6_setFollow 8 = .ok (.invokevirtual 79, 3) := by decide +kernel
theorem dX6_setFollow_11 : decode cX6_setFollow 11 = .ok (.istore_n 3, 1) := by decide +kernel
theorem dX6_setFollow_12 : decode cX6_setFollow 12 = .ok (.iload_n 3, 1) := by decide +kernel
theorem dX6_setFollow_13 : decode cX6_setFollow 13 = .ok (.ifCond .ge 13, 3) := by decide +kernel
theorem dX6_setFollow_16 : decode cX6_setFollow 16 = .ok (.new 83, 3) := by decide +kernel
theorem dX6_setFollow_19 : decode cX6_setFollow 19 = .ok (.dup, 1) := by decide +kernel
theorem dX6_setFollow_20 : decode cX6_setFollow 20 = .ok (.ldc 85, 2) := by decide +kernel
theorem dX6_setFollow_22 : decode cX6_setFollow 22 = .ok (.invokespecial 87, 3) := by decide +kernel
theorem dX6_setFollow_25 : decode cX6_setFollow 25 = .ok (.athrow, 1) := by decide +kernel
theorem dX6_setFollow_26 : decode cX6_setFollow 26 = .ok (.iload_n 2, 1) := by decide +kernel
theorem dX6_setFollow_27 : decode cX6_setFollow 27 = .ok (.iconst (-1), 1) := by decide +kernel
theorem dX6_setFollow_28 : decode cX6_setFollow 28 = .ok (.if_icmp .eq 24, 3) := by decide +kernel
theorem dX6_setFollow_31 : decode cX6_setFollow 31 = .ok (.iload_n 2, 1) := by decide +kernel
theorem dX6_setFollow_32 : decode cX6_setFollow 32 = .ok (.iconst 1, 1) := by decide +kernel
theorem dX6_setFollow_33 : decode cX6_setFollow 33 = .ok (.sipush 6000, 3) := by decide +kernel
theorem dX6_setFollow_36 : decode cX6_setFollow 36 = .ok (.invokestatic 117, 3) := by decide +kernel
theorem dX6_setFollow_39 : decode cX6_setFollow 39 = .ok (.ifCond .ne 13, 3) := by decide +kernel
theorem dX6_setFollow_42 : decode cX6_setFollow 42 = .ok (.new 59, 3) := by decide +kernel
theorem dX6_setFollow_45 : decode cX6_setFollow 45 = .ok (.dup, 1) := by decide +kernel
theorem dX6_setFollow_46 : decode cX6_setFollow 46 = .ok (.ldc 121, 2) := by decide +kernel
theorem dX6_setFollow_48 : decode cX6_setFollow 48 = .ok (.invokespecial 63, 3) := by decide +kernel
theorem dX6_setFollow_51 : decode cX6_setFollow 51 = .ok (.athrow, 1) := by decide +kernel
theorem dX6_setFollow_52 : decode cX6_setFollow 52 = .ok (.aload_n 0, 1) := by decide +kernel
theorem dX6_setFollow_53 : decode cX6_setFollow 53 = .ok (.getfield 22, 3) := by decide +kernel
theorem dX6_setFollow_56 : decode cX6_setFollow 56 = .ok (.aload_n 0, 1) := by decide +kernel
theorem dX6_setFollow_57 : decode cX6_setFollow 57 = .ok (.getfield 10, 3) := by decide +kernel
theorem dX6_setFollow_60 : decode cX6_setFollow 60 = .ok (.invokevirtual 71, 3) := by decide +kernel
theorem dX6_setFollow_63 : decode cX6_setFollow 63 = .ok (.aload_n 0, 1) := by decide +kernel
theorem dX6_setFollow_64 : decode cX6_setFollow 64 = .ok (.getfield 10, 3) := by decide +kernel
theorem dX6_setFollow_67 : decode cX6_setFollow 67 = .ok (.getfield 40, 3) := by decide +kernel
theorem dX6_setFollow_70 : decode cX6_setFollow 70 = .ok (.getfield 108, 3) := by decide +kernel
theorem dX6_setFollow_73 : decode cX6_setFollow 73 = .ok (.iload_n 3, 1) := by decide +kernel
theorem dX6_setFollow_74 : decode cX6_setFollow 74 = .ok (.aaload, 1) := by decide +kernel
theorem dX6_setFollow_75 : decode cX6_setFollow 75 = .ok (.astore 4, 2) := by decide +kernel
theorem dX6_setFollow_77 : decode cX6_setFollow 77 = .ok (.aload 4, 2) := by decide +kernel
theorem dX6_setFollow_79 : decode cX6_setFollow 79 = .ok (.getfield 123, 3) := by decide +kernel
theorem dX6_setFollow_82 : decode cX6_setFollow 82 = .ok (.istore 5, 2) := by decide +kernel
theorem dX6_setFollow_84 : decode cX6_setFollow 84 = .ok (.aload 4, 2) := by decide +kernel
theorem dX6_setFollow_86 : decode cX6_setFollow 86 = .ok (.iload_n 2, 1) := by decide +kernel
theorem dX6_setFollow_87 : decode cX6_setFollow 87 = .ok (.putfield 123, 3) := by decide +kernel
theorem dX6_setFollow_90 : decode cX6_setFollow 90 = .ok (.iload 5, 2) := by decide +kernel
theorem dX6_setFollow_92 : decode cX6_setFollow 92 = .ok (.ireturn, 1) := by decide +kernel
theorem dX6_setBlock_0 : decode cX6_setBlock 0 = .ok (.aload_n 0, 1) := by decide +kernel
theorem dX6_setBlock_1 : decode cX6_setBlock 1 = .ok (.getfield 10, 3) := by decide +kernel
theorem dX6_setBlock_4 : decode cX6_setBlock 4 = .ok (.getfield 40, 3) := by decide +kernel
theorem dX6_setBlock_7 : decode cX6_setBlock 7 = .ok (.iload_n 1, 1) := by decide +kernel
theorem dX6_setBlock_8 : decode cX6_setBlock 8 = .ok (.invokevirtual 79, 3) := by decide +kernel
theorem dX6_setBlock_11 : decode cX6_setBlock 11 = .ok (.istore_n 3, 1) := by decide +kernel
theorem dX6_setBlock_12 : decode cX6_setBlock 12 = .ok (.iload_n 3, 1) := by decide +kernel
theorem dX6_setBlock_13 : decode cX6_setBlock 13 = .ok (.ifCond .ge 13, 3) := by decide +kernel
theorem dX6_setBlock_16 : decode cX6_setBlock 16 = .ok (.new 83, 3) := by decide +kernel
theorem dX6_setBlock_19 : decode cX6_setBlock 19 = .ok (.dup, 1) := by decide +kernel
theorem dX6_setBlock_20 : decode cX6_setBlock 20 = .ok (.ldc 85, 2) := by decide +kernel
theorem dX6_setBlock_22 : decode cX6_setBlock 22 = .ok (.invokespecial 87, 3) := by decide +kernel
theorem dX6_setBlock_25 : decode cX6_setBlock 25 = .ok (.athrow, 1) := by decide +kernel
theorem dX6_setBlock_26 : decode cX6_setBlock 26 = .ok (.aload_n 0, 1) := by decide +kernel
theorem dX6_setBlock_27 : decode cX6_setBlock 27 = .ok (.getfield 22, 3) := by decide +kernel
theorem dX6_setBlock_30 : decode cX6_setBlock 30 = .ok (.aload_n 0, 1) := by decide +kernel
theorem dX6_setBlock_31 : decode cX6_setBlock 31 = .ok (.getfield 10, 3) := by decide +kernel
theorem dX6_setBlock_34 : decode cX6_setBlock 34 = .ok (.invokevirtual 71, 3) := by decide +kernel
theorem dX6_setBlock_37 : decode cX6_setBlock 37 = .ok (.aload_n 0, 1) := by decide +kernel
theorem dX6_setBlock_38 : decode cX6_setBlock 38 = .ok (.getfield 10, 3) := by decide +kernel
theorem dX6_setBlock_41 : decode cX6_setBlock 41 = .ok (.getfield 40, 3) := by decide +kernel
theorem dX6_setBlock_44 : decode cX6_setBlock 44 = .ok (.iload_n 3, 1) := by decide +kernel
theorem dX6_setBlock_45 : decode cX6_setBlock 45 = .ok (.iload_n 2, 1) := by decide +kernel
theorem dX6_setBlock_46 : decode cX6_setBlock 46 = .ok (.invokevirtual 126, 3) := by decide +kernel
theorem dX6_setBlock_49 : decode cX6_setBlock 49 = .ok (.ireturn, 1) := by decide +kernel
theorem dX6_setProtected_0 : decode cX6_setProtected 0 = .ok (.aload_n 0, 1) := by decide +kernel
theorem dX6_setProtected_1 : decode cX6_setProtected 1 = .ok (.getfield 10, 3) := by decide +kernel
theorem dX6_setProtected_4 : decode cX6_setProtected 4 = .ok (.getfield 40, 3) := by decide +kernel
theorem dX6_setProtected_7 : decode cX6_setProtected 7 = .ok (.iload_n 1, 1) := by decide +kernel
theorem dX6_setProtected_8 : decode cX6_setProtected 8 = .ok (.invokevirtual 79, 3) := by decide +kernel
theorem dX6_setProtected_11 : decode cX6_setProtected 11 = .ok (.istore_n 3, 1) := by decide +kernel
theorem dX6_setProtected_12 : decode cX6_setProtected 12 = .ok (.iload_n 3, 1) := by decide +kernel
theorem dX6_setProtected_13 : decode cX6_setProtected 13 = .ok (.ifCond .ge 13, 3) := by decide +kernel
theorem dX6_setProtected_16 : decode cX6_setProtected 16 = .ok (.new 83, 3) := by decide +kernel
theorem dX6_setProtected_19 : decode cX6_setProtected 19 = .ok (.dup, 1) := by decide +kernel
theorem dX6_setProtected_20 : decode cX6_setProtected 20 = .ok (.ldc 85, 2) := by decide +kernel
theorem dX6_setProtected_22 : decode cX6_setProtected 22 = .ok (.invokespecial 87, 3) := by decide +kernel
theorem dX6_setProtected_25 : decode cX6_setProtected 25 = .ok (.athrow, 1) := by decide +kernel
theorem dX6_setProtected_26 : decode cX6_setProtected 26 = .ok (.aload_n 0, 1) := by decide +kernel
theorem dX6_setProtected_27 : decode cX6_setProtected 27 = .ok (.getfield 22, 3) := by decide +kernel
theorem dX6_setProtected_30 : decode cX6_setProtected 30 = .ok (.aload_n 0, 1) := by decide +kernel
theorem dX6_setProtected_31 : decode cX6_setProtected 31 = .ok (.getfield 10, 3) := by decide +kernel
theorem dX6_setProtected_34 : decode cX6_setProtected 34 = .ok (.invokevirtual 71, 3) := by decide +kernel
theorem dX6_setProtected_37 : decode cX6_setProtected 37 = .ok (.aload_n 0, 1) := by decide +kernel
theorem dX6_setProtected_38 : decode cX6_setProtected 38 = .ok (.getfield 10, 3) := by decide +kernel
theorem dX6_setProtected_41 : decode cX6_setProtected 41 = .ok (.getfield 40, 3) := by decide +kernel
theorem dX6_setProtected_44 : decode cX6_setProtected 44 = .ok (.getfield 108, 3) := by decide +kernel
theorem dX6_setProtected_47 : decode cX6_setProtected 47 = .ok (.iload_n 3, 1) := by decide +kernel
theorem dX6_setProtected_48 : decode cX6_setProtected 48 = .ok (.aaload, 1) := by decide +kernel
theorem dX6_setProtected_49 : decode cX6_setProtected 49 = .ok (.astore 4, 2) := by decide +kernel
theorem dX6_setProtected_51 : decode cX6_setProtected 51 = .ok (.aload 4, 2) := by decide +kernel
theorem dX6_setProtected_53 : decode cX6_setProtected 53 = .ok (.getfield 129, 3) := by decide +kernel
theorem dX6_setProtected_56 : decode cX6_setProtected 56 = .ok (.istore 5, 2) := by decide +kernel
theorem dX6_setProtected_58 : decode cX6_setProtected 58 = .ok (.aload 4, 2) := by decide +kernel
theorem dX6_setProtected_60 : decode cX6_setProtected 60 = .ok (.iload_n 2, 1) := by decide +kernel
theorem dX6_setProtected_61 : decode cX6_setProtected 61 = .ok (.putfield 129, 3) := by decide +kernel
theorem dX6_setProtected_64 : decode cX6_setProtected 64 = .ok (.iload 5, 2) := by decide +kernel
theorem dX6_setProtected_66 : decode cX6_setProtected 66 = .ok (.ireturn, 1) := by decide +kernel
theorem dX6_setPart_0 : decode cX6_setPart 0 = .ok (.aload_n 0, 1) := by decide +kernel
theorem dX6_setPart_1 : decode cX6_setPart 1 = .ok (.getfield 10, 3) := by decide +kernel
theorem dX6_setPart_4 : decode cX6_setPart 4 = .ok (.getfield 40, 3) := by decide +kernel
theorem dX6_setPart_7 : decode cX6_setPart 7 = .ok (.iload_n 1, 1) := by decide +kernel
theorem dX6_setPart_8 : decode cX6_setPart 8 = .ok (.invokevirtual 79, 3) := by decide +kernel
theorem dX6_setPart_11 : decode cX6_setPart 11 = .ok (.istore 5, 2) := by decide +kernel
theorem dX6_setPart_13 : decode cX6_setPart 13 = .ok (.iload 5, 2) := by decide +kernel
theorem dX6_setPart_15 : decode cX6_setPart 15 = .ok (.ifCond .lt 10, 3) := by decide +kernel
theorem dX6_setPart_18 : decode cX6_setPart 18 = .ok (.iload_n 2, 1) := by decide +kernel
theorem dX6_setPart_19 : decode cX6_setPart 19 = .ok (.invokestatic 133, 3) := by decide +kernel
theorem dX6_setPart_22 : decode cX6_setPart 22 = .ok (.ifCond .ne 13, 3) := by decide +kernel
theorem dX6_setPart_25 : decode cX6_setPart 25 = .ok (.new 83, 3) := by decide +kernel
theorem dX6_setPart_28 : decode cX6_setPart 28 = .ok (.dup, 1) := by decide +kernel
theorem dX6_setPart_29 : decode cX6_setPart 29 = .ok (.ldc 136, 2) := by decide +kernel
theorem dX6_setPart_31 : decode cX6_setPart 31 = .ok (.invokespecial 87, 3) := by decide +kernel
theorem dX6_setPart_34 : decode cX6_setPart 34 = .ok (.athrow, 1) := by decide +kernel
theorem dX6_setPart_35 : decode cX6_setPart 35 = .ok (.iload 4, 2) := by decide +kernel
theorem dX6_setPart_37 : decode cX6_setPart 37 = .ok (.iconst 0, 1) := by decide +kernel
theorem dX6_setPart_38 : decode cX6_setPart 38 = .ok (.sipush 600, 3) := by decide +kernel
theorem dX6_setPart_41 : decode cX6_setPart 41 = .ok (.invokestatic 117, 3) := by decide +kernel
theorem dX6_setPart_44 : decode cX6_setPart 44 = .ok (.ifCond .ne 13, 3) := by decide +kernel
theorem dX6_setPart_47 : decode cX6_setPart 47 = .ok (.new 59, 3) := by decide +kernel
theorem dX6_setPart_50 : decode cX6_setPart 50 = .ok (.dup, 1) := by decide +kernel
theorem dX6_setPart_51 : decode cX6_setPart 51 = .ok (.ldc 138, 2) := by decide +kernel
theorem dX6_setPart_53 : decode cX6_setPart 53 = .ok (.invokespecial 63, 3) := by decide +kernel
theorem dX6_setPart_56 : decode cX6_setPart 56 = .ok (.athrow, 1) := by decide +kernel
theorem dX6_setPart_57 : decode cX6_setPart 57 = .ok (.aload_n 0, 1) := by decide +kernel
theorem dX6_setPart_58 : decode cX6_setPart 58 = .ok (.getfield 22, 3) := by decide +kernel
theorem dX6_setPart_61 : decode cX6_setPart 61 = .ok (.aload_n 0, 1) := by decide +kernel
theorem dX6_setPart_62 : decode cX6_setPart 62 = .ok (.getfield 10, 3) := by decide +kernel
theorem dX6_setPart_65 : decode cX6_setPart 65 = .ok (.invokevirtual 71, 3) := by decide +kernel
theorem dX6_setPart_68 : decode cX6_setPart 68 = .ok (.aload_n 0, 1) := by decide +kernel
theorem dX6_setPart_69 : decode cX6_setPart 69 = .ok (.getfield 10, 3) := by decide +kernel
theorem dX6_setPart_72 : decode cX6_setPart 72 = .ok (.getfield 40, 3) := by decide +kernel
theorem dX6_setPart_75 : decode cX6_setPart 75 = .ok (.getfield 108, 3) := by decide +kernel
theorem dX6_setPart_78 : decode cX6_setPart 78 = .ok (.iload 5, 2) := by decide +kernel
theorem dX6_setPart_80 : decode cX6_setPart 80 = .ok (.aaload, 1) := by decide +kernel
theorem dX6_setPart_81 : decode cX6_setPart 81 = .ok (.iload_n 3, 1) := by decide +kernel
theorem dX6_setPart_82 : decode cX6_setPart 82 = .ok (.invokevirtual 140, 3) := by decide +kernel
theorem dX6_setPart_85 : decode cX6_setPart 85 = .ok (.astore 6, 2) := by decide +kernel
theorem dX6_setPart_87 : decode cX6_setPart 87 = .ok (.aload 6, 2) := by decide +kernel
theorem dX6_setPart_89 : decode cX6_setPart 89 = .ok (.iload_n 2, 1) := by decide +kernel
theorem dX6_setPart_90 : decode cX6_setPart 90 = .ok (.iaload, 1) := by decide +kernel
theorem dX6_setPart_91 : decode cX6_setPart 91 = .ok (.istore 7, 2) := by decide +kernel
theorem dX6_setPart_93 : decode cX6_setPart 93 = .ok (.aload 6, 2) := by decide +kernel
theorem dX6_setPart_95 : decode cX6_setPart 95 = .ok (.iload_n 2, 1) := by decide +kernel
theorem dX6_setPart_96 : decode cX6_setPart 96 = .ok (.iload 4, 2) := by decide +kernel
theorem dX6_setPart_98 : decode cX6_setPart 98 = .ok (.iastore, 1) := by decide +kernel
theorem dX6_setPart_99 : decode cX6_setPart 99 = .ok (.iload 7, 2) := by decide +kernel
theorem dX6_setPart_101 : decode cX6_setPart 101 = .ok (.ireturn, 1) := by decide +kernel
theorem dX6_cue_0 : decode cX6_cue 0 = .ok (.aload_n 0, 1) := by decide +kernel
theorem dX6_cue_1 : decode cX6_cue 1 = .ok (.getfield 10, 3) := by decide +kernel
theorem dX6_cue_4 : decode cX6_cue 4 = .ok (.getfield 40, 3) := by decide +kernel
theorem dX6_cue_7 : decode cX6_cue 7 = .ok (.iload_n 1, 1) := by decide +kernel
theorem dX6_cue_8 : decode cX6_cue 8 = .ok (.invokevirtual 79, 3) := by decide +kernel
theorem dX6_cue_11 : decode cX6_cue 11 = .ok (.istore_n 3, 1) := by decide +kernel
theorem dX6_cue_12 : decode cX6_cue 12 = .ok (.iload_n 3, 1) := by decide +kernel
theorem dX6_cue_13 : decode cX6_cue 13 = .ok (.ifCond .ge 13, 3) := by decide +kernel
theorem dX6_cue_16 : decode cX6_cue 16 = .ok (.new 83, 3) := by decide +kernel
theorem dX6_cue_19 : decode cX6_cue 19 = .ok (.dup, 1) := by decide +kernel
theorem dX6_cue_20 : decode cX6_cue 20 = .ok (.ldc 85, 2) := by decide +kernel
theorem dX6_cue_22 : decode cX6_cue 22 = .ok (.invokespecial 87, 3) := by decide +kernel
theorem dX6_cue_25 : decode cX6_cue 25 = .ok (.athrow, 1) := by decide +kernel
theorem dX6_cue_26 : decode cX6_cue 26 = .ok (.aload_n 0, 1) := by decide +kernel
theorem dX6_cue_27 : decode cX6_cue 27 = .ok (.getfield 10, 3) := by decide +kernel
theorem dX6_cue_30 : decode cX6_cue 30 = .ok (.getfield 40, 3) := by decide +kernel
theorem dX6_cue_33 : decode cX6_cue 33 = .ok (.getfield 108, 3) := by decide +kernel
theorem dX6_cue_36 : decode cX6_cue 36 = .ok (.iload_n 3, 1) := by decide +kernel
theorem dX6_cue_37 : decode cX6_cue 37 = .ok (.aaload, 1) := by decide +kernel
theorem dX6_cue_38 : decode cX6_cue 38 = .ok (.astore 4, 2) := by decide +kernel
theorem dX6_cue_40 : decode cX6_cue 40 = .ok (.iload_n 2, 1) := by decide +kernel
theorem dX6_cue_41 : decode cX6_cue 41 = .ok (.tableswitch 109 0 6 #[43, 45, 51, 65, 79, 85, 97], 43) := by decide +kernel
theorem dX6_cue_84 : decode cX6_cue 84 = .ok (.iload_n 3, 1) := by decide +kernel
theorem dX6_cue_85 : decode cX6_cue 85 = .ok (.ireturn, 1) := by decide +kernel
theorem dX6_cue_86 : decode cX6_cue 86 = .ok (.aload 4, 2) := by decide +kernel
theorem dX6_cue_88 : decode cX6_cue 88 = .ok (.getfield 123, 3) := by decide +kernel
theorem dX6_cue_91 : decode cX6_cue 91 = .ok (.ireturn, 1) := by decide +kernel
theorem dX6_cue_92 : decode cX6_cue 92 = .ok (.aload 4, 2) := by decide +kernel
theorem dX6_cue_94 : decode cX6_cue 94 = .ok (.getfield 144, 3) := by decide +kernel
theorem dX6_cue_97 : decode cX6_cue 97 = .ok (.ifCond .eq 7, 3) := by decide +kernel
theorem dX6_cue_100 : decode cX6_cue 100 = .ok (.iconst 1, 1) := by decide +kernel
theorem dX6_cue_101 : decode cX6_cue 101 = .ok (.goto 4, 3) := by decide +kernel
theorem dX6_cue_104 : decode cX6_cue 104 = .ok (.iconst 0, 1) := by decide +kernel
theorem dX6_cue_105 : decode cX6_cue 105 = .ok (.ireturn, 1) := by decide +kernel
theorem dX6_cue_106 : decode cX6_cue 106 = .ok (.aload 4, 2) := by decide +kernel
theorem dX6_cue_108 : decode cX6_cue 108 = .ok (.getfield 129, 3) := by decide +kernel
theorem dX6_cue_111 : decode cX6_cue 111 = .ok (.ifCond .eq 7, 3) := by decide +kernel
theorem dX6_cue_114 : decode cX6_cue 114 = .ok (.iconst 1, 1) := by decide +kernel
theorem dX6_cue_115 : decode cX6_cue 115 = .ok (.goto 4, 3) := by decide +kernel
theorem dX6_cue_118 : decode cX6_cue 118 = .ok (.iconst 0, 1) := by decide +kernel
theorem dX6_cue_119 : decode cX6_cue 119 = .ok (.ireturn, 1) := by decide +kernel
theorem dX6_cue_120 : decode cX6_cue 120 = .ok (.aload 4, 2) := by decide +kernel
theorem dX6_cue_122 : decode cX6_cue 122 = .ok (.invokevirtual 147, 3) := by decide +kernel
theorem dX6_cue_125 : decode cX6_cue 125 = .ok (.ireturn, 1) := by decide +kernel
theorem dX6_cue_126 : decode cX6_cue 126 = .ok (.aload_n 0, 1) := by decide +kernel
theorem dX6_cue_127 : decode cX6_cue 127 = .ok (.getfield 10, 3) := by decide +kernel
theorem dX6_cue_130 : decode cX6_cue 130 = .ok (.getfield 40, 3) := by decide +kernel
theorem dX6_cue_133 : decode cX6_cue 133 = .ok (.iload_n 3, 1) := by decide +kernel
theorem dX6_cue_134 : decode cX6_cue 134 = .ok (.invokevirtual 151, 3) := by decide +kernel
theorem dX6_cue_137 : decode cX6_cue 137 = .ok (.ireturn, 1) := by decide +kernel
theorem dX6_cue_138 : decode cX6_cue 138 = .ok (.aload_n 0, 1) := by decide +kernel
theorem dX6_cue_139 : decode cX6_cue 139 = .ok (.getfield 10, 3) := by decide +kernel
theorem dX6_cue_142 : decode cX6_cue 142 = .ok (.getfield 40, 3) := by decide +kernel
theorem dX6_cue_145 : decode cX6_cue 145 = .ok (.iload_n 3, 1) := by decide +kernel
theorem dX6_cue_146 : decode cX6_cue 146 = .ok (.invokevirtual 154, 3) := by decide +kernel
theorem dX6_cue_149 : decode cX6_cue 149 = .ok (.ireturn, 1) := by decide +kernel
theorem dX6_cue_150 : decode cX6_cue 150 = .ok (.new 59, 3) := by decide +kernel
theorem dX6_cue_153 : decode cX6_cue 153 = .ok (.dup, 1) := by decide +kernel
theorem dX6_cue_154 : decode cX6_cue 154 = .ok (.ldc 157, 2) := by decide +kernel
theorem dX6_cue_156 : decode cX6_cue 156 = .ok (.invokespecial 63, 3) := by decide +kernel
theorem dX6_cue_159 : decode cX6_cue 159 = .ok (.athrow, 1) := by decide +kernel
theorem dX6_part_0 : decode cX6_part 0 = .ok (.aload_n 0, 1) := by decide +kernel
theorem dX6_part_1 : decode cX6_part 1 = .ok (.getfield 10, 3) := by decide +kernel
theorem dX6_part_4 : decode cX6_part 4 = .ok (.getfield 40, 3) := by decide +kernel
theorem dX6_part_7 : decode cX6_part 7 = .ok (.iload_n 1, 1) := by decide +kernel
theorem dX6_part_8 : decode cX6_part 8 = .ok (.invokevirtual 79, 3) := by decide +kernel
theorem dX6_part_11 : decode cX6_part 11 = .ok (.istore 4, 2) := by decide +kernel
theorem dX6_part_13 : decode cX6_part 13 = .ok (.iload 4, 2) := by decide +kernel
theorem dX6_part_15 : decode cX6_part 15 = .ok (.ifCond .lt 10, 3) := by decide +kernel
theorem dX6_part_18 : decode cX6_part 18 = .ok (.iload_n 2, 1) := by decide +kernel
theorem dX6_part_19 : decode cX6_part 19 = .ok (.invokestatic 133, 3) := by decide +kernel
theorem dX6_part_22 : decode cX6_part 22 = .ok (.ifCond .ne 13, 3) := by decide +kernel
theorem dX6_part_25 : decode cX6_part 25 = .ok (.new 83, 3) := by decide +kernel
theorem dX6_part_28 : decode cX6_part 28 = .ok (.dup, 1) := by decide +kernel
theorem dX6_part_29 : decode cX6_part 29 = .ok (.ldc 136, 2) := by decide +kernel
theorem dX6_part_31 : decode cX6_part 31 = .ok (.invokespecial 87, 3) := by decide +kernel
theorem dX6_part_34 : decode cX6_part 34 = .ok (.athrow, 1) := by decide +kernel
theorem dX6_part_35 : decode cX6_part 35 = .ok (.aload_n 0, 1) := by decide +kernel
theorem dX6_part_36 : decode cX6_part 36 = .ok (.getfield 10, 3) := by decide +kernel
theorem dX6_part_39 : decode cX6_part 39 = .ok (.getfield 40, 3) := by decide +kernel
theorem dX6_part_42 : decode cX6_part 42 = .ok (.getfield 108, 3) := by decide +kernel
theorem dX6_part_45 : decode cX6_part 45 = .ok (.iload 4, 2) := by decide +kernel
theorem dX6_part_47 : decode cX6_part 47 = .ok (.aaload, 1) := by decide +kernel
theorem dX6_part_48 : decode cX6_part 48 = .ok (.iload_n 3, 1) := by decide +kernel
theorem dX6_part_49 : decode cX6_part 49 = .ok (.invokevirtual 140, 3) := by decide +kernel
theorem dX6_part_52 : decode cX6_part 52 = .ok (.iload_n 2, 1) := by decide +kernel
theorem dX6_part_53 : decode cX6_part 53 = .ok (.iaload, 1) := by decide +kernel
theorem dX6_part_54 : decode cX6_part 54 = .ok (.ireturn, 1) := by decide +kernel
theorem dX6_setHome_0 : decode cX6_setHome 0 = .ok (.iload_n 1, 1) := by decide +kernel
theorem dX6_setHome_1 : decode cX6_setHome 1 = .ok (.invokestatic 159, 3) := by decide +kernel
theorem dX6_setHome_4 : decode cX6_setHome 4 = .ok (.ifCond .ne 13, 3) := by decide +kernel
theorem dX6_setHome_7 : decode cX6_setHome 7 = .ok (.new 83, 3) := by decide +kernel
theorem dX6_setHome_10 : decode cX6_setHome 10 = .ok (.dup, 1) := by decide +kernel
theorem dX6_setHome_11 : decode cX6_setHome 11 = .ok (.ldc 162, 2) := by decide +kernel
theorem dX6_setHome_13 : decode cX6_setHome 13 = .ok (.invokespecial 87, 3) := by decide +kernel
theorem dX6_setHome_16 : decode cX6_setHome 16 = .ok (.athrow, 1) := by decide +kernel
theorem dX6_setHome_17 : decode cX6_setHome 17 = .ok (.iload_n 2, 1) := by decide +kernel
theorem dX6_setHome_18 : decode cX6_setHome 18 = .ok (.invokestatic 164, 3) := by decide +kernel
theorem dX6_setHome_21 : decode cX6_setHome 21 = .ok (.ifCond .ne 13, 3) := by decide +kernel
theorem dX6_setHome_24 : decode cX6_setHome 24 = .ok (.new 59, 3) := by decide +kernel
theorem dX6_setHome_27 : decode cX6_setHome 27 = .ok (.dup, 1) := by decide +kernel
theorem dX6_setHome_28 : decode cX6_setHome 28 = .ok (.ldc 167, 2) := by decide +kernel
theorem dX6_setHome_30 : decode cX6_setHome 30 = .ok (.invokespecial 63, 3) := by decide +kernel
theorem dX6_setHome_33 : decode cX6_setHome 33 = .ok (.athrow, 1) := by decide +kernel
theorem dX6_setHome_34 : decode cX6_setHome 34 = .ok (.aload_n 0, 1) := by decide +kernel
theorem dX6_setHome_35 : decode cX6_setHome 35 = .ok (.getfield 22, 3) := by decide +kernel
theorem dX6_setHome_38 : decode cX6_setHome 38 = .ok (.aload_n 0, 1) := by decide +kernel
theorem dX6_setHome_39 : decode cX6_setHome 39 = .ok (.getfield 10, 3) := by decide +kernel
theorem dX6_setHome_42 : decode cX6_setHome 42 = .ok (.invokevirtual 71, 3) := by decide +kernel
theorem dX6_setHome_45 : decode cX6_setHome 45 = .ok (.aload_n 0, 1) := by decide +kernel
theorem dX6_setHome_46 : decode cX6_setHome 46 = .ok (.getfield 10, 3) := by decide +kernel
theorem dX6_setHome_49 : decode cX6_setHome 49 = .ok (.getfield 40, 3) := by decide +kernel
theorem dX6_setHome_52 : decode cX6_setHome 52 = .ok (.getfield 169, 3) := by decide +kernel
theorem dX6_setHome_55 : decode cX6_setHome 55 = .ok (.iload_n 1, 1) := by decide +kernel
theorem dX6_setHome_56 : decode cX6_setHome 56 = .ok (.iaload, 1) := by decide +kernel
theorem dX6_setHome_57 : decode cX6_setHome 57 = .ok (.istore_n 3, 1) := by decide +kernel
theorem dX6_setHome_58 : decode cX6_setHome 58 = .ok (.aload_n 0, 1) := by decide +kernel
theorem dX6_setHome_59 : decode cX6_setHome 59 = .ok (.getfield 10, 3) := by decide +kernel
theorem dX6_setHome_62 : decode cX6_setHome 62 = .ok (.getfield 40, 3) := by decide +kernel
theorem dX6_setHome_65 : decode cX6_setHome 65 = .ok (.getfield 169, 3) := by decide +kernel
theorem dX6_setHome_68 : decode cX6_setHome 68 = .ok (.iload_n 1, 1) := by decide +kernel
theorem dX6_setHome_69 : decode cX6_setHome 69 = .ok (.iload_n 2, 1) := by decide +kernel
theorem dX6_setHome_70 : decode cX6_setHome 70 = .ok (.iastore, 1) := by decide +kernel
theorem dX6_setHome_71 : decode cX6_setHome 71 = .ok (.iload_n 3, 1) := by decide +kernel
theorem dX6_setHome_72 : decode cX6_setHome 72 = .ok (.ireturn, 1) := by decide +kernel
theorem dX6_set_0 : decode cX6_set 0 = .ok (.aload_n 0, 1) := by decide +kernel
theorem dX6_set_1 : decode cX6_set 1 = .ok (.getfield 10, 3) := by decide +kernel
theorem dX6_set_4 : decode cX6_set 4 = .ok (.getfield 40, 3) := by decide +kernel
theorem dX6_set_7 : decode cX6_set 7 = .ok (.iload_n 1, 1) := by decide +kernel
theorem dX6_set_8 : decode cX6_set 8 = .ok (.invokevirtual 79, 3) := by decide +kernel
theorem dX6_set_11 : decode cX6_set 11 = .ok (.istore 6, 2) := by decide +kernel
theorem dX6_set_13 : decode cX6_set 13 = .ok (.iload 6, 2) := by decide +kernel
theorem dX6_set_15 : decode cX6_set 15 = .ok (.ifCond .lt 18, 3) := by decide +kernel
theorem dX6_set_18 : decode cX6_set 18 = .ok (.iload_n 2, 1) := by decide +kernel
theorem dX6_set_19 : decode cX6_set 19 = .ok (.invokestatic 159, 3) := by decide +kernel
theorem dX6_set_22 : decode cX6_set 22 = .ok (.ifCond .eq 11, 3) := by decide +kernel
theorem dX6_set_25 : decode cX6_set 25 = .ok (.iload 4, 2) := by decide +kernel
theorem dX6_set_27 : decode cX6_set 27 = .ok (.invokestatic 133, 3) := by decide +kernel
theorem dX6_set_30 : decode cX6_set 30 = .ok (.ifCond .ne 13, 3) := by decide +kernel
theorem dX6_set_33 : decode cX6_set 33 = .ok (.new 83, 3) := by decide +kernel
theorem dX6_set_36 : decode cX6_set 36 = .ok (.dup, 1) := by decide +kernel
theorem dX6_set_37 : decode cX6_set 37 = .ok (.ldc 173, 2) := by decide +kernel
theorem dX6_set_39 : decode cX6_set 39 = .ok (.invokespecial 87, 3) := by decide +kernel
theorem dX6_set_42 : decode cX6_set 42 = .ok (.athrow, 1) := by decide +kernel
theorem dX6_set_43 : decode cX6_set 43 = .ok (.iload_n 3, 1) := by decide +kernel
theorem dX6_set_44 : decode cX6_set 44 = .ok (.invokestatic 164, 3) := by decide +kernel
theorem dX6_set_47 : decode cX6_set 47 = .ok (.ifCond .ne 13, 3) := by decide +kernel
theorem dX6_set_50 : decode cX6_set 50 = .ok (.new 59, 3) := by decide +kernel
theorem dX6_set_53 : decode cX6_set 53 = .ok (.dup, 1) := by decide +kernel
theorem dX6_set_54 : decode cX6_set 54 = .ok (.ldc 167, 2) := by decide +kernel
theorem dX6_set_56 : decode cX6_set 56 = .ok (.invokespecial 63, 3) := by decide +kernel
theorem dX6_set_59 : decode cX6_set 59 = .ok (.athrow, 1) := by decide +kernel
theorem dX6_set_60 : decode cX6_set 60 = .ok (.aload_n 0, 1) := by decide +kernel
theorem dX6_set_61 : decode cX6_set 61 = .ok (.aload_n 0, 1) := by decide +kernel
theorem dX6_set_62 : decode cX6_set 62 = .ok (.getfield 10, 3) := by decide +kernel
theorem dX6_set_65 : decode cX6_set 65 = .ok (.getfield 40, 3) := by decide +kernel
theorem dX6_set_68 : decode cX6_set 68 = .ok (.iload 6, 2) := by decide +kernel
theorem dX6_set_70 : decode cX6_set 70 = .ok (.iload_n 2, 1) := by decide +kernel
theorem dX6_set_71 : decode cX6_set 71 = .ok (.iload_n 3, 1) := by decide +kernel
theorem dX6_set_72 : decode cX6_set 72 = .ok (.iload 5, 2) := by decide +kernel
theorem dX6_set_74 : decode cX6_set 74 = .ok (.invokevirtual 175, 3) := by decide +kernel
theorem dX6_set_77 : decode cX6_set 77 = .ok (.invokevirtual 92, 3) := by decide +kernel
theorem dX6_set_80 : decode cX6_set 80 = .ok (.ifCond .eq 13, 3) := by decide +kernel
theorem dX6_set_83 : decode cX6_set 83 = .ok (.new 95, 3) := by decide +kernel
theorem dX6_set_86 : decode cX6_set 86 = .ok (.dup, 1) := by decide +kernel
theorem dX6_set_87 : decode cX6_set 87 = .ok (.ldc 97, 2) := by decide +kernel
theorem dX6_set_89 : decode cX6_set 89 = .ok (.invokespecial 99, 3) := by decide +kernel
theorem dX6_set_92 : decode cX6_set 92 = .ok (.athrow, 1) := by decide +kernel
theorem dX6_set_93 : decode cX6_set 93 = .ok (.aload_n 0, 1) := by decide +kernel
theorem dX6_set_94 : decode cX6_set 94 = .ok (.getfield 22, 3) := by decide +kernel
theorem dX6_set_97 : decode cX6_set 97 = .ok (.aload_n 0, 1) := by decide +kernel
theorem dX6_set_98 : decode cX6_set 98 = .ok (.getfield 10, 3) := by decide +kernel
theorem dX6_set_101 : decode cX6_set 101 = .ok (.invokevirtual 71, 3) := by decide +kernel
theorem dX6_set_104 : decode cX6_set 104 = .ok (.aload_n 0, 1) := by decide +kernel
theorem dX6_set_105 : decode cX6_set 105 = .ok (.getfield 10, 3) := by decide +kernel
theorem dX6_set_108 : decode cX6_set 108 = .ok (.getfield 40, 3) := by decide +kernel
theorem dX6_set_111 : decode cX6_set 111 = .ok (.iload 6, 2) := by decide +kernel
theorem dX6_set_113 : decode cX6_set 113 = .ok (.iload_n 2, 1) := by decide +kernel
theorem dX6_set_114 : decode cX6_set 114 = .ok (.iload_n 3, 1) := by decide +kernel
theorem dX6_set_115 : decode cX6_set 115 = .ok (.iload 4, 2) := by decide +kernel
theorem dX6_set_117 : decode cX6_set 117 = .ok (.iload 5, 2) := by decide +kernel
theorem dX6_set_119 : decode cX6_set 119 = .ok (.invokevirtual 179, 3) := by decide +kernel
theorem dX6_set_122 : decode cX6_set 122 = .ok (.ireturn, 1) := by decide +kernel
theorem dX6_release_0 : decode cX6_release 0 = .ok (.aload_n 0, 1) := by decide +kernel
theorem dX6_release_1 : decode cX6_release 1 = .ok (.getfield 10, 3) := by decide +kernel
theorem dX6_release_4 : decode cX6_release 4 = .ok (.getfield 40, 3) := by decide +kernel
theorem dX6_release_7 : decode cX6_release 7 = .ok (.iload_n 1, 1) := by decide +kernel
theorem dX6_release_8 : decode cX6_release 8 = .ok (.invokevirtual 79, 3) := by decide +kernel
theorem dX6_release_11 : decode cX6_release 11 = .ok (.istore 5, 2) := by decide +kernel
theorem dX6_release_13 : decode cX6_release 13 = .ok (.iload 5, 2) := by decide +kernel
theorem dX6_release_15 : decode cX6_release 15 = .ok (.ifCond .lt 17, 3) := by decide +kernel
theorem dX6_release_18 : decode cX6_release 18 = .ok (.iload_n 2, 1) := by decide +kernel
theorem dX6_release_19 : decode cX6_release 19 = .ok (.invokestatic 159, 3) := by decide +kernel
theorem dX6_release_22 : decode cX6_release 22 = .ok (.ifCond .eq 10, 3) := by decide +kernel
theorem dX6_release_25 : decode cX6_release 25 = .ok (.iload_n 3, 1) := by decide +kernel
theorem dX6_release_26 : decode cX6_release 26 = .ok (.invokestatic 133, 3) := by decide +kernel
theorem dX6_release_29 : decode cX6_release 29 = .ok (.ifCond .ne 13, 3) := by decide +kernel
theorem dX6_release_32 : decode cX6_release 32 = .ok (.new 83, 3) := by decide +kernel
theorem dX6_release_35 : decode cX6_release 35 = .ok (.dup, 1) := by decide +kernel
theorem dX6_release_36 : decode cX6_release 36 = .ok (.ldc 173, 2) := by decide +kernel
theorem dX6_release_38 : decode cX6_release 38 = .ok (.invokespecial 87, 3) := by decide +kernel
theorem dX6_release_41 : decode cX6_release 41 = .ok (.athrow, 1) := by decide +kernel
theorem dX6_release_42 : decode cX6_release 42 = .ok (.aload_n 0, 1) := by decide +kernel
theorem dX6_release_43 : decode cX6_release 43 = .ok (.aload_n 0, 1) := by decide +kernel
theorem dX6_release_44 : decode cX6_release 44 = .ok (.getfield 10, 3) := by decide +kernel
theorem dX6_release_47 : decode cX6_release 47 = .ok (.getfield 40, 3) := by decide +kernel
theorem dX6_release_50 : decode cX6_release 50 = .ok (.iload 5, 2) := by decide +kernel
theorem dX6_release_52 : decode cX6_release 52 = .ok (.iload_n 2, 1) := by decide +kernel
theorem dX6_release_53 : decode cX6_release 53 = .ok (.iconst (-1), 1) := by decide +kernel
theorem dX6_release_54 : decode cX6_release 54 = .ok (.iload 4, 2) := by decide +kernel
theorem dX6_release_56 : decode cX6_release 56 = .ok (.invokevirtual 175, 3) := by decide +kernel
theorem dX6_release_59 : decode cX6_release 59 = .ok (.invokevirtual 92, 3) := by decide +kernel
theorem dX6_release_62 : decode cX6_release 62 = .ok (.ifCond .eq 13, 3) := by decide +kernel
theorem dX6_release_65 : decode cX6_release 65 = .ok (.new 95, 3) := by decide +kernel
theorem dX6_release_68 : decode cX6_release 68 = .ok (.dup, 1) := by decide +kernel
theorem dX6_release_69 : decode cX6_release 69 = .ok (.ldc 97, 2) := by decide +kernel
theorem dX6_release_71 : decode cX6_release 71 = .ok (.invokespecial 99, 3) := by decide +kernel
theorem dX6_release_74 : decode cX6_release 74 = .ok (.athrow, 1) := by decide +kernel
theorem dX6_release_75 : decode cX6_release 75 = .ok (.aload_n 0, 1) := by decide +kernel
theorem dX6_release_76 : decode cX6_release 76 = .ok (.getfield 22, 3) := by decide +kernel
theorem dX6_release_79 : decode cX6_release 79 = .ok (.aload_n 0, 1) := by decide +kernel
theorem dX6_release_80 : decode cX6_release 80 = .ok (.getfield 10, 3) := by decide +kernel
theorem dX6_release_83 : decode cX6_release 83 = .ok (.invokevirtual 71, 3) := by decide +kernel
theorem dX6_release_86 : decode cX6_release 86 = .ok (.aload_n 0, 1) := by decide +kernel
theorem dX6_release_87 : decode cX6_release 87 = .ok (.getfield 10, 3) := by decide +kernel
theorem dX6_release_90 : decode cX6_release 90 = .ok (.getfield 40, 3) := by decide +kernel
theorem dX6_release_93 : decode cX6_release 93 = .ok (.iload 5, 2) := by decide +kernel
theorem dX6_release_95 : decode cX6_release 95 = .ok (.iload_n 2, 1) := by decide +kernel
theorem dX6_release_96 : decode cX6_release 96 = .ok (.iconst (-1), 1) := by decide +kernel
theorem dX6_release_97 : decode cX6_release 97 = .ok (.iload_n 3, 1) := by decide +kernel
theorem dX6_release_98 : decode cX6_release 98 = .ok (.iload 4, 2) := by decide +kernel
theorem dX6_release_100 : decode cX6_release 100 = .ok (.invokevirtual 179, 3) := by decide +kernel
theorem dX6_release_103 : decode cX6_release 103 = .ok (.ireturn, 1) := by decide +kernel
theorem dX6_unset_0 : decode cX6_unset 0 = .ok (.aload_n 0, 1) := by decide +kernel
theorem dX6_unset_1 : decode cX6_unset 1 = .ok (.getfield 10, 3) := by decide +kernel
theorem dX6_unset_4 : decode cX6_unset 4 = .ok (.getfield 40, 3) := by decide +kernel
theorem dX6_unset_7 : decode cX6_unset 7 = .ok (.iload_n 1, 1) := by decide +kernel
theorem dX6_unset_8 : decode cX6_unset 8 = .ok (.invokevirtual 79, 3) := by decide +kernel
theorem dX6_unset_11 : decode cX6_unset 11 = .ok (.istore 4, 2) := by decide +kernel
theorem dX6_unset_13 : decode cX6_unset 13 = .ok (.iload 4, 2) := by decide +kernel
theorem dX6_unset_15 : decode cX6_unset 15 = .ok (.ifCond .lt 10, 3) := by decide +kernel
theorem dX6_unset_18 : decode cX6_unset 18 = .ok (.iload_n 2, 1) := by decide +kernel
theorem dX6_unset_19 : decode cX6_unset 19 = .ok (.invokestatic 159, 3) := by decide +kernel
theorem dX6_unset_22 : decode cX6_unset 22 = .ok (.ifCond .ne 13, 3) := by decide +kernel
theorem dX6_unset_25 : decode cX6_unset 25 = .ok (.new 83, 3) := by decide +kernel
theorem dX6_unset_28 : decode cX6_unset 28 = .ok (.dup, 1) := by decide +kernel
theorem dX6_unset_29 : decode cX6_unset 29 = .ok (.ldc 183, 2) := by decide +kernel
theorem dX6_unset_31 : decode cX6_unset 31 = .ok (.invokespecial 87, 3) := by decide +kernel
theorem dX6_unset_34 : decode cX6_unset 34 = .ok (.athrow, 1) := by decide +kernel
theorem dX6_unset_35 : decode cX6_unset 35 = .ok (.aload_n 0, 1) := by decide +kernel
theorem dX6_unset_36 : decode cX6_unset 36 = .ok (.aload_n 0, 1) := by decide +kernel
theorem dX6_unset_37 : decode cX6_unset 37 = .ok (.getfield 10, 3) := by decide +kernel
theorem dX6_unset_40 : decode cX6_unset 40 = .ok (.getfield 40, 3) := by decide +kernel
theorem dX6_unset_43 : decode cX6_unset 43 = .ok (.iload 4, 2) := by decide +kernel
theorem dX6_unset_45 : decode cX6_unset 45 = .ok (.iload_n 2, 1) := by decide +kernel
theorem dX6_unset_46 : decode cX6_unset 46 = .ok (.iload_n 3, 1) := by decide +kernel
theorem dX6_unset_47 : decode cX6_unset 47 = .ok (.invokevirtual 185, 3) := by decide +kernel
theorem dX6_unset_50 : decode cX6_unset 50 = .ok (.invokevirtual 92, 3) := by decide +kernel
theorem dX6_unset_53 : decode cX6_unset 53 = .ok (.ifCond .eq 13, 3) := by decide +kernel
theorem dX6_unset_56 : decode cX6_unset 56 = .ok (.new 95, 3) := by decide +kernel
theorem dX6_unset_59 : decode cX6_unset 59 = .ok (.dup, 1) := by decide +kernel
theorem dX6_unset_60 : decode cX6_unset 60 = .ok (.ldc 97, 2) := by decide +kernel
theorem dX6_unset_62 : decode cX6_unset 62 = .ok (.invokespecial 99, 3) := by decide +kernel
theorem dX6_unset_65 : decode cX6_unset 65 = .ok (.athrow, 1) := by decide +kernel
theorem dX6_unset_66 : decode cX6_unset 66 = .ok (.aload_n 0, 1) := by decide +kernel
theorem dX6_unset_67 : decode cX6_unset 67 = .ok (.getfield 22, 3) := by decide +kernel
theorem dX6_unset_70 : decode cX6_unset 70 = .ok (.aload_n 0, 1) := by decide +kernel
theorem dX6_unset_71 : decode cX6_unset 71 = .ok (.getfield 10, 3) := by decide +kernel
theorem dX6_unset_74 : decode cX6_unset 74 = .ok (.invokevirtual 71, 3) := by decide +kernel
theorem dX6_unset_77 : decode cX6_unset 77 = .ok (.aload_n 0, 1) := by decide +kernel
theorem dX6_unset_78 : decode cX6_unset 78 = .ok (.getfield 10, 3) := by decide +kernel
theorem dX6_unset_81 : decode cX6_unset 81 = .ok (.getfield 40, 3) := by decide +kernel
theorem dX6_unset_84 : decode cX6_unset 84 = .ok (.iload 4, 2) := by decide +kernel
theorem dX6_unset_86 : decode cX6_unset 86 = .ok (.iload_n 2, 1) := by decide +kernel
theorem dX6_unset_87 : decode cX6_unset 87 = .ok (.iload_n 3, 1) := by decide +kernel
theorem dX6_unset_88 : decode cX6_unset 88 = .ok (.invokevirtual 189, 3) := by decide +kernel
theorem dX6_unset_91 : decode cX6_unset 91 = .ok (.ireturn, 1) := by decide +kernel
theorem dX6_instruction_0 : decode cX6_instruction 0 = .ok (.iload_n 1, 1) := by decide +kernel
theorem dX6_instruction_1 : decode cX6_instruction 1 = .ok (.ifCond .lt 17, 3) := by decide +kernel
theorem dX6_instruction_4 : decode cX6_instruction 4 = .ok (.iload_n 1, 1) := by decide +kernel
theorem dX6_instruction_5 : decode cX6_instruction 5 = .ok (.aload_n 0, 1) := by decide +kernel
theorem dX6_instruction_6 : decode cX6_instruction 6 = .ok (.getfield 10, 3) := by decide +kernel
theorem dX6_instruction_9 : decode cX6_instruction 9 = .ok (.getfield 40, 3) := by decide +kernel
theorem dX6_instruction_12 : decode cX6_instruction 12 = .ok (.getfield 192, 3) := by decide +kernel
theorem dX6_instruction_15 : decode cX6_instruction 15 = .ok (.if_icmp .lt 13, 3) := by decide +kernel
theorem dX6_instruction_18 : decode cX6_instruction 18 = .ok (.new 103, 3) := by decide +kernel
theorem dX6_instruction_21 : decode cX6_instruction 21 = .ok (.dup, 1) := by decide +kernel
theorem dX6_instruction_22 : decode cX6_instruction 22 = .ok (.ldc 105, 2) := by decide +kernel
theorem dX6_instruction_24 : decode cX6_instruction 24 = .ok (.invokespecial 107, 3) := by decide +kernel
theorem dX6_instruction_27 : decode cX6_instruction 27 = .ok (.athrow, 1) := by decide +kernel
theorem dX6_instruction_28 : decode cX6_instruction 28 = .ok (.iload_n 2, 1) := by decide +kernel
theorem dX6_instruction_29 : decode cX6_instruction 29 = .ok (.tableswitch 81 0 3 #[31, 44, 57, 69], 31) := by decide +kernel
theorem dX6_instruction_60 : decode cX6_instruction 60 = .ok (.aload_n 0, 1) := by decide +kernel
theorem dX6_instruction_61 : decode cX6_instruction 61 = .ok (.getfield 10, 3) := by decide +kernel
theorem dX6_instruction_64 : decode cX6_instruction 64 = .ok (.getfield 40, 3) := by decide +kernel
theorem dX6_instruction_67 : decode cX6_instruction 67 = .ok (.getfield 195, 3) := by decide +kernel
theorem dX6_instruction_70 : decode cX6_instruction 70 = .ok (.iload_n 1, 1) := by decide +kernel
theorem dX6_instruction_71 : decode cX6_instruction 71 = .ok (.iaload, 1) := by decide +kernel
theorem dX6_instruction_72 : decode cX6_instruction 72 = .ok (.ireturn, 1) := by decide +kernel
theorem dX6_instruction_73 : decode cX6_instruction 73 = .ok (.aload_n 0, 1) := by decide +kernel
theorem dX6_instruction_74 : decode cX6_instruction 74 = .ok (.getfield 10, 3) := by decide +kernel
theorem dX6_instruction_77 : decode cX6_instruction 77 = .ok (.getfield 40, 3) := by decide +kernel
theorem dX6_instruction_80 : decode cX6_instruction 80 = .ok (.getfield 198, 3) := by decide +kernel
theorem dX6_instruction_83 : decode cX6_instruction 83 = .ok (.iload_n 1, 1) := by decide +kernel
theorem dX6_instruction_84 : decode cX6_instruction 84 = .ok (.iaload, 1) := by decide +kernel
theorem dX6_instruction_85 : decode cX6_instruction 85 = .ok (.ireturn, 1) := by decide +kernel
theorem dX6_instruction_86 : decode cX6_instruction 86 = .ok (.aload_n 0, 1) := by decide +kernel
theorem dX6_instruction_87 : decode cX6_instruction 87 = .ok (.getfield 10, 3) := by decide +kernel
theorem dX6_instruction_90 : decode cX6_instruction 90 = .ok (.getfield 40, 3) := by decide +kernel
theorem dX6_instruction_93 : decode cX6_instruction 93 = .ok (.iload_n 1, 1) := by decide +kernel
theorem dX6_instruction_94 : decode cX6_instruction 94 = .ok (.invokevirtual 201, 3) := by decide +kernel
theorem dX6_instruction_97 : decode cX6_instruction 97 = .ok (.ireturn, 1) := by decide +kernel
theorem dX6_instruction_98 : decode cX6_instruction 98 = .ok (.aload_n 0, 1) := by decide +kernel
theorem dX6_instruction_99 : decode cX6_instruction 99 = .ok (.getfield 10, 3) := by decide +kernel
theorem dX6_instruction_102 : decode cX6_instruction 102 = .ok (.getfield 40, 3) := by decide +kernel
theorem dX6_instruction_105 : decode cX6_instruction 105 = .ok (.iload_n 1, 1) := by decide +kernel
theorem dX6_instruction_106 : decode cX6_instruction 106 = .ok (.invokevirtual 204, 3) := by decide +kernel
theorem dX6_instruction_109 : decode cX6_instruction 109 = .ok (.ireturn, 1) := by decide +kernel
theorem dX6_instruction_110 : decode cX6_instruction 110 = .ok (.new 59, 3) := by decide +kernel
theorem dX6_instruction_113 : decode cX6_instruction 113 = .ok (.dup, 1) := by decide +kernel
theorem dX6_instruction_114 : decode cX6_instruction 114 = .ok (.ldc 207, 2) := by decide +kernel
theorem dX6_instruction_116 : decode cX6_instruction 116 = .ok (.invokespecial 63, 3) := by decide +kernel
theorem dX6_instruction_119 : decode cX6_instruction 119 = .ok (.athrow, 1) := by decide +kernel
theorem dX6_level_0 : decode cX6_level 0 = .ok (.aload_n 0, 1) := by decide +kernel
theorem dX6_level_1 : decode cX6_level 1 = .ok (.getfield 10, 3) := by decide +kernel
theorem dX6_level_4 : decode cX6_level 4 = .ok (.getfield 40, 3) := by decide +kernel
theorem dX6_level_7 : decode cX6_level 7 = .ok (.iload_n 1, 1) := by decide +kernel
theorem dX6_level_8 : decode cX6_level 8 = .ok (.invokevirtual 79, 3) := by decide +kernel
theorem dX6_level_11 : decode cX6_level 11 = .ok (.istore_n 3, 1) := by decide +kernel
theorem dX6_level_12 : decode cX6_level 12 = .ok (.iload_n 3, 1) := by decide +kernel
theorem dX6_level_13 : decode cX6_level 13 = .ok (.ifCond .lt 10, 3) := by decide +kernel
theorem dX6_level_16 : decode cX6_level 16 = .ok (.iload_n 2, 1) := by decide +kernel
theorem dX6_level_17 : decode cX6_level 17 = .ok (.invokestatic 159, 3) := by decide +kernel
theorem dX6_level_20 : decode cX6_level 20 = .ok (.ifCond .ne 13, 3) := by decide +kernel
theorem dX6_level_23 : decode cX6_level 23 = .ok (.new 83, 3) := by decide +kernel
theorem dX6_level_26 : decode cX6_level 26 = .ok (.dup, 1) := by decide +kernel
theorem dX6_level_27 : decode cX6_level 27 = .ok (.ldc 183, 2) := by decide +kernel
theorem dX6_level_29 : decode cX6_level 29 = .ok (.invokespecial 87, 3) := by decide +kernel
theorem dX6_level_32 : decode cX6_level 32 = .ok (.athrow, 1) := by decide +kernel
theorem dX6_level_33 : decode cX6_level 33 = .ok (.aload_n 0, 1) := by decide +kernel
theorem dX6_level_34 : decode cX6_level 34 = .ok (.getfield 10, 3) := by decide +kernel
theorem dX6_level_37 : decode cX6_level 37 = .ok (.getfield 40, 3) := by decide +kernel
theorem dX6_level_40 : decode cX6_level 40 = .ok (.iload_n 3, 1) := by decide +kernel
theorem dX6_level_41 : decode cX6_level 41 = .ok (.iload_n 2, 1) := by decide +kernel
theorem dX6_level_42 : decode cX6_level 42 = .ok (.invokevirtual 209, 3) := by decide +kernel
theorem dX6_level_45 : decode cX6_level 45 = .ok (.ireturn, 1) := by decide +kernel
theorem dX6_levelAgain_0 : decode cX6_levelAgain 0 = .ok (.aload_n 0, 1) := by decide +kernel
theorem dX6_levelAgain_1 : decode cX6_levelAgain 1 = .ok (.getfield 10, 3) := by decide +kernel
theorem dX6_levelAgain_4 : decode cX6_levelAgain 4 = .ok (.getfield 40, 3) := by decide +kernel
theorem dX6_levelAgain_7 : decode cX6_levelAgain 7 = .ok (.iload_n 1, 1) := by decide +kernel
theorem dX6_levelAgain_8 : decode cX6_levelAgain 8 = .ok (.invokevirtual 79, 3) := by decide +kernel
theorem dX6_levelAgain_11 : decode cX6_levelAgain 11 = .ok (.istore_n 3, 1) := by decide +kernel
theorem dX6_levelAgain_12 : decode cX6_levelAgain 12 = .ok (.iload_n 3, 1) := by decide +kernel
theorem dX6_levelAgain_13 : decode cX6_levelAgain 13 = .ok (.ifCond .lt 10, 3) := by decide +kernel
theorem dX6_levelAgain_16 : decode cX6_levelAgain 16 = .ok (.iload_n 2, 1) := by decide +kernel
theorem dX6_levelAgain_17 : decode cX6_levelAgain 17 = .ok (.invokestatic 159, 3) := by decide +kernel
theorem dX6_levelAgain_20 : decode cX6_levelAgain 20 = .ok (.ifCond .ne 13, 3) := by decide +kernel
theorem dX6_levelAgain_23 : decode cX6_levelAgain 23 = .ok (.new 83, 3) := by decide +kernel
theorem dX6_levelAgain_26 : decode cX6_levelAgain 26 = .ok (.dup, 1) := by decide +kernel
theorem dX6_levelAgain_27 : decode cX6_levelAgain 27 = .ok (.ldc 183, 2) := by decide +kernel
theorem dX6_levelAgain_29 : decode cX6_levelAgain 29 = .ok (.invokespecial 87, 3) := by decide +kernel
theorem dX6_levelAgain_32 : decode cX6_levelAgain 32 = .ok (.athrow, 1) := by decide +kernel
theorem dX6_levelAgain_33 : decode cX6_levelAgain 33 = .ok (.aload_n 0, 1) := by decide +kernel
theorem dX6_levelAgain_34 : decode cX6_levelAgain 34 = .ok (.getfield 10, 3) := by decide +kernel
theorem dX6_levelAgain_37 : decode cX6_levelAgain 37 = .ok (.getfield 40, 3) := by decide +kernel
theorem dX6_levelAgain_40 : decode cX6_levelAgain 40 = .ok (.iload_n 3, 1) := by decide +kernel
theorem dX6_levelAgain_41 : decode cX6_levelAgain 41 = .ok (.iload_n 2, 1) := by decide +kernel
theorem dX6_levelAgain_42 : decode cX6_levelAgain 42 = .ok (.invokevirtual 213, 3) := by decide +kernel
theorem dX6_levelAgain_45 : decode cX6_levelAgain 45 = .ok (.ireturn, 1) := by decide +kernel
theorem dX6_source_0 : decode cX6_source 0 = .ok (.aload_n 0, 1) := by decide +kernel
theorem dX6_source_1 : decode cX6_source 1 = .ok (.getfield 10, 3) := by decide +kernel
theorem dX6_source_4 : decode cX6_source 4 = .ok (.getfield 40, 3) := by decide +kernel
theorem dX6_source_7 : decode cX6_source 7 = .ok (.iload_n 1, 1) := by decide +kernel
theorem dX6_source_8 : decode cX6_source 8 = .ok (.invokevirtual 79, 3) := by decide +kernel
theorem dX6_source_11 : decode cX6_source 11 = .ok (.istore_n 3, 1) := by decide +kernel
theorem dX6_source_12 : decode cX6_source 12 = .ok (.iload_n 3, 1) := by decide +kernel
theorem dX6_source_13 : decode cX6_source 13 = .ok (.ifCond .lt 10, 3) := by decide +kernel
theorem dX6_source_16 : decode cX6_source 16 = .ok (.iload_n 2, 1) := by decide +kernel
theorem dX6_source_17 : decode cX6_source 17 = .ok (.invokestatic 159, 3) := by decide +kernel
theorem dX6_source_20 : decode cX6_source 20 = .ok (.ifCond .ne 13, 3) := by decide +kernel
theorem dX6_source_23 : decode cX6_source 23 = .ok (.new 83, 3) := by decide +kernel
theorem dX6_source_26 : decode cX6_source 26 = .ok (.dup, 1) := by decide +kernel
theorem dX6_source_27 : decode cX6_source 27 = .ok (.ldc 183, 2) := by decide +kernel
theorem dX6_source_29 : decode cX6_source 29 = .ok (.invokespecial 87, 3) := by decide +kernel
theorem dX6_source_32 : decode cX6_source 32 = .ok (.athrow, 1) := by decide +kernel
theorem dX6_source_33 : decode cX6_source 33 = .ok (.aload_n 0, 1) := by decide +kernel
theorem dX6_source_34 : decode cX6_source 34 = .ok (.getfield 10, 3) := by decide +kernel
theorem dX6_source_37 : decode cX6_source 37 = .ok (.getfield 40, 3) := by decide +kernel
theorem dX6_source_40 : decode cX6_source 40 = .ok (.getfield 108, 3) := by decide +kernel
theorem dX6_source_43 : decode cX6_source 43 = .ok (.aload_n 0, 1) := by decide +kernel
theorem dX6_source_44 : decode cX6_source 44 = .ok (.getfield 10, 3) := by decide +kernel
theorem dX6_source_47 : decode cX6_source 47 = .ok (.getfield 40, 3) := by decide +kernel
theorem dX6_source_50 : decode cX6_source 50 = .ok (.iload_n 3, 1) := by decide +kernel
theorem dX6_source_51 : decode cX6_source 51 = .ok (.iload_n 2, 1) := by decide +kernel
theorem dX6_source_52 : decode cX6_source 52 = .ok (.invokevirtual 216, 3) := by decide +kernel
theorem dX6_source_55 : decode cX6_source 55 = .ok (.aaload, 1) := by decide +kernel
theorem dX6_source_56 : decode cX6_source 56 = .ok (.getfield 112, 3) := by decide +kernel
theorem dX6_source_59 : decode cX6_source 59 = .ok (.ireturn, 1) := by decide +kernel
theorem dX6_sum_0 : decode cX6_sum 0 = .ok (.aload_n 0, 1) := by decide +kernel
theorem dX6_sum_1 : decode cX6_sum 1 = .ok (.getfield 10, 3) := by decide +kernel
theorem dX6_sum_4 : decode cX6_sum 4 = .ok (.getfield 40, 3) := by decide +kernel
theorem dX6_sum_7 : decode cX6_sum 7 = .ok (.iload_n 1, 1) := by decide +kernel
theorem dX6_sum_8 : decode cX6_sum 8 = .ok (.invokevirtual 79, 3) := by decide +kernel
theorem dX6_sum_11 : decode cX6_sum 11 = .ok (.istore_n 2, 1) := by decide +kernel
theorem dX6_sum_12 : decode cX6_sum 12 = .ok (.iload_n 2, 1) := by decide +kernel
theorem dX6_sum_13 : decode cX6_sum 13 = .ok (.ifCond .ge 13, 3) := by decide +kernel
theorem dX6_sum_16 : decode cX6_sum 16 = .ok (.new 83, 3) := by decide +kernel
theorem dX6_sum_19 : decode cX6_sum 19 = .ok (.dup, 1) := by decide +kernel
theorem dX6_sum_20 : decode cX6_sum 20 = .ok (.ldc 85, 2) := by decide +kernel
theorem dX6_sum_22 : decode cX6_sum 22 = .ok (.invokespecial 87, 3) := by decide +kernel
theorem dX6_sum_25 : decode cX6_sum 25 = .ok (.athrow, 1) := by decide +kernel
theorem dX6_sum_26 : decode cX6_sum 26 = .ok (.iconst 0, 1) := by decide +kernel
theorem dX6_sum_27 : decode cX6_sum 27 = .ok (.istore_n 3, 1) := by decide +kernel
theorem dX6_sum_28 : decode cX6_sum 28 = .ok (.iconst 0, 1) := by decide +kernel
theorem dX6_sum_29 : decode cX6_sum 29 = .ok (.istore 4, 2) := by decide +kernel
theorem dX6_sum_31 : decode cX6_sum 31 = .ok (.iload 4, 2) := by decide +kernel
theorem dX6_sum_33 : decode cX6_sum 33 = .ok (.bipush 12, 2) := by decide +kernel
theorem dX6_sum_35 : decode cX6_sum 35 = .ok (.if_icmp .ge 25, 3) := by decide +kernel
theorem dX6_sum_38 : decode cX6_sum 38 = .ok (.iload_n 3, 1) := by decide +kernel
theorem dX6_sum_39 : decode cX6_sum 39 = .ok (.aload_n 0, 1) := by decide +kernel
theorem dX6_sum_40 : decode cX6_sum 40 = .ok (.getfield 10, 3) := by decide +kernel
theorem dX6_sum_43 : decode cX6_sum 43 = .ok (.getfield 40, 3) := by decide +kernel
theorem dX6_sum_46 : decode cX6_sum 46 = .ok (.iload_n 2, 1) := by decide +kernel
theorem dX6_sum_47 : decode cX6_sum 47 = .ok (.iload 4, 2) := by decide +kernel
theorem dX6_sum_49 : decode cX6_sum 49 = .ok (.invokevirtual 209, 3) := by decide +kernel
theorem dX6_sum_52 : decode cX6_sum 52 = .ok (.iadd, 1) := by decide +kernel
theorem dX6_sum_53 : decode cX6_sum 53 = .ok (.istore_n 3, 1) := by decide +kernel
theorem dX6_sum_54 : decode cX6_sum 54 = .ok (.iinc 4 1, 3) := by decide +kernel
theorem dX6_sum_57 : decode cX6_sum 57 = .ok (.goto (-26), 3) := by decide +kernel
theorem dX6_sum_60 : decode cX6_sum 60 = .ok (.iload_n 3, 1) := by decide +kernel
theorem dX6_sum_61 : decode cX6_sum 61 = .ok (.ireturn, 1) := by decide +kernel
theorem dX6_apart_0 : decode cX6_apart 0 = .ok (.aload_n 0, 1) := by decide +kernel
theorem dX6_apart_1 : decode cX6_apart 1 = .ok (.getfield 10, 3) := by decide +kernel
theorem dX6_apart_4 : decode cX6_apart 4 = .ok (.getfield 40, 3) := by decide +kernel
theorem dX6_apart_7 : decode cX6_apart 7 = .ok (.iload_n 1, 1) := by decide +kernel
theorem dX6_apart_8 : decode cX6_apart 8 = .ok (.invokevirtual 79, 3) := by decide +kernel
theorem dX6_apart_11 : decode cX6_apart 11 = .ok (.istore_n 3, 1) := by decide +kernel
theorem dX6_apart_12 : decode cX6_apart 12 = .ok (.aload_n 0, 1) := by decide +kernel
theorem dX6_apart_13 : decode cX6_apart 13 = .ok (.getfield 10, 3) := by decide +kernel
theorem dX6_apart_16 : decode cX6_apart 16 = .ok (.getfield 40, 3) := by decide +kernel
theorem dX6_apart_19 : decode cX6_apart 19 = .ok (.iload_n 2, 1) := by decide +kernel
theorem dX6_apart_20 : decode cX6_apart 20 = .ok (.invokevirtual 79, 3) := by decide +kernel
theorem dX6_apart_23 : decode cX6_apart 23 = .ok (.istore 4, 2) := by decide +kernel
theorem dX6_apart_25 : decode cX6_apart 25 = .ok (.iload_n 3, 1) := by decide +kernel
theorem dX6_apart_26 : decode cX6_apart 26 = .ok (.ifCond .lt 8, 3) := by decide +kernel
theorem dX6_apart_29 : decode cX6_apart 29 = .ok (.iload 4, 2) := by decide +kernel
theorem dX6_apart_31 : decode cX6_apart 31 = .ok (.ifCond .ge 13, 3) := by decide +kernel
theorem dX6_apart_34 : decode cX6_apart 34 = .ok (.new 83, 3) := by decide +kernel
theorem dX6_apart_37 : decode cX6_apart 37 = .ok (.dup, 1) := by decide +kernel
theorem dX6_apart_38 : decode cX6_apart 38 = .ok (.ldc 219, 2) := by decide +kernel
theorem dX6_apart_40 : decode cX6_apart 40 = .ok (.invokespecial 87, 3) := by decide +kernel
theorem dX6_apart_43 : decode cX6_apart 43 = .ok (.athrow, 1) := by decide +kernel
theorem dX6_apart_44 : decode cX6_apart 44 = .ok (.iconst 0, 1) := by decide +kernel
theorem dX6_apart_45 : decode cX6_apart 45 = .ok (.istore 5, 2) := by decide +kernel
theorem dX6_apart_47 : decode cX6_apart 47 = .ok (.iconst 0, 1) := by decide +kernel
theorem dX6_apart_48 : decode cX6_apart 48 = .ok (.istore 6, 2) := by decide +kernel
theorem dX6_apart_50 : decode cX6_apart 50 = .ok (.iload 6, 2) := by decide +kernel
theorem dX6_apart_52 : decode cX6_apart 52 = .ok (.bipush 12, 2) := by decide +kernel
theorem dX6_apart_54 : decode cX6_apart 54 = .ok (.if_icmp .ge 42, 3) := by decide +kernel
theorem dX6_apart_57 : decode cX6_apart 57 = .ok (.aload_n 0, 1) := by decide +kernel
theorem dX6_apart_58 : decode cX6_apart 58 = .ok (.getfield 10, 3) := by decide +kernel
theorem dX6_apart_61 : decode cX6_apart 61 = .ok (.getfield 40, 3) := by decide +kernel
theorem dX6_apart_64 : decode cX6_apart 64 = .ok (.iload_n 3, 1) := by decide +kernel
theorem dX6_apart_65 : decode cX6_apart 65 = .ok (.iload 6, 2) := by decide +kernel
theorem dX6_apart_67 : decode cX6_apart 67 = .ok (.invokevirtual 209, 3) := by decide +kernel
theorem dX6_apart_70 : decode cX6_apart 70 = .ok (.aload_n 0, 1) := by decide +kernel
theorem dX6_apart_71 : decode cX6_apart 71 = .ok (.getfield 10, 3) := by decide +kernel
theorem dX6_apart_74 : decode cX6_apart 74 = .ok (.getfield 40, 3) := by decide +kernel
theorem dX6_apart_77 : decode cX6_apart 77 = .ok (.iload 4, 2) := by decide +kernel
theorem dX6_apart_79 : decode cX6_apart 79 = .ok (.iload 6, 2) := by decide +kernel
theorem dX6_apart_81 : decode cX6_apart 81 = .ok (.invokevirtual 209, 3) := by decide +kernel
theorem dX6_apart_84 : decode cX6_apart 84 = .ok (.if_icmp .eq 6, 3) := by decide +kernel
theorem dX6_apart_87 : decode cX6_apart 87 = .ok (.iinc 5 1, 3) := by decide +kernel
theorem dX6_apart_90 : decode cX6_apart 90 = .ok (.iinc 6 1, 3) := by decide +kernel
theorem dX6_apart_93 : decode cX6_apart 93 = .ok (.goto (-43), 3) := by decide +kernel
theorem dX6_apart_96 : decode cX6_apart 96 = .ok (.iload 5, 2) := by decide +kernel
theorem dX6_apart_98 : decode cX6_apart 98 = .ok (.ireturn, 1) := by decide +kernel
theorem dX6_reason_0 : decode cX6_reason 0 = .ok (.aload_n 0, 1) := by decide +kernel
theorem dX6_reason_1 : decode cX6_reason 1 = .ok (.getfield 33, 3) := by decide +kernel
theorem dX6_reason_4 : decode cX6_reason 4 = .ok (.ifCond .ne 13, 3) := by decide +kernel
theorem dX6_reason_7 : decode cX6_reason 7 = .ok (.new 103, 3) := by decide +kernel
theorem dX6_reason_10 : decode cX6_reason 10 = .ok (.dup, 1) := by decide +kernel
theorem dX6_reason_11 : decode cX6_reason 11 = .ok (.ldc 221, 2) := by decide +kernel
theorem dX6_reason_13 : decode cX6_reason 13 = .ok (.invokespecial 107, 3) := by decide +kernel
theorem dX6_reason_16 : decode cX6_reason 16 = .ok (.athrow, 1) := by decide +kernel
theorem dX6_reason_17 : decode cX6_reason 17 = .ok (.aload_n 0, 1) := by decide +kernel
theorem dX6_reason_18 : decode cX6_reason 18 = .ok (.getfield 33, 3) := by decide +kernel
theorem dX6_reason_21 : decode cX6_reason 21 = .ok (.ireturn, 1) := by decide +kernel
theorem dX6_go_0 : decode cX6_go 0 = .ok (.aload_n 0, 1) := by decide +kernel
theorem dX6_go_1 : decode cX6_go 1 = .ok (.getfield 10, 3) := by decide +kernel
theorem dX6_go_4 : decode cX6_go 4 = .ok (.getfield 223, 3) := by decide +kernel
theorem dX6_go_7 : decode cX6_go 7 = .ok (.aload_n 0, 1) := by decide +kernel
theorem dX6_go_8 : decode cX6_go 8 = .ok (.getfield 10, 3) := by decide +kernel
theorem dX6_go_11 : decode cX6_go 11 = .ok (.getfield 40, 3) := by decide +kernel
theorem dX6_go_14 : decode cX6_go 14 = .ok (.invokevirtual 227, 3) := by decide +kernel
theorem dX6_go_17 : decode cX6_go 17 = .ok (.istore_n 1, 1) := by decide +kernel
theorem dX6_go_18 : decode cX6_go 18 = .ok (.iload_n 1, 1) := by decide +kernel
theorem dX6_go_19 : decode cX6_go 19 = .ok (.ifCond .ge 18, 3) := by decide +kernel
theorem dX6_go_22 : decode cX6_go 22 = .ok (.aload_n 0, 1) := by decide +kernel
theorem dX6_go_23 : decode cX6_go 23 = .ok (.iconst 4, 1) := by decide +kernel
theorem dX6_go_24 : decode cX6_go 24 = .ok (.putfield 33, 3) := by decide +kernel
theorem dX6_go_27 : decode cX6_go 27 = .ok (.new 95, 3) := by decide +kernel
theorem dX6_go_30 : decode cX6_go 30 = .ok (.dup, 1) := by decide +kernel
theorem dX6_go_31 : decode cX6_go 31 = .ok (.ldc 233, 2) := by decide +kernel
theorem dX6_go_33 : decode cX6_go 33 = .ok (.invokespecial 99, 3) := by decide +kernel
theorem dX6_go_36 : decode cX6_go 36 = .ok (.athrow, 1) := by decide +kernel
theorem dX6_go_37 : decode cX6_go 37 = .ok (.aload_n 0, 1) := by decide +kernel
theorem dX6_go_38 : decode cX6_go 38 = .ok (.getfield 22, 3) := by decide +kernel
theorem dX6_go_41 : decode cX6_go 41 = .ok (.aload_n 0, 1) := by decide +kernel
theorem dX6_go_42 : decode cX6_go 42 = .ok (.getfield 10, 3) := by decide +kernel
theorem dX6_go_45 : decode cX6_go 45 = .ok (.invokevirtual 71, 3) := by decide +kernel
theorem dX6_go_48 : decode cX6_go 48 = .ok (.aload_n 0, 1) := by decide +kernel
theorem dX6_go_49 : decode cX6_go 49 = .ok (.getfield 10, 3) := by decide +kernel
theorem dX6_go_52 : decode cX6_go 52 = .ok (.getfield 223, 3) := by decide +kernel
theorem dX6_go_55 : decode cX6_go 55 = .ok (.aload_n 0, 1) := by decide +kernel
theorem dX6_go_56 : decode cX6_go 56 = .ok (.getfield 10, 3) := by decide +kernel
theorem dX6_go_59 : decode cX6_go 59 = .ok (.getfield 40, 3) := by decide +kernel
theorem dX6_go_62 : decode cX6_go 62 = .ok (.iload_n 1, 1) := by decide +kernel
theorem dX6_go_63 : decode cX6_go 63 = .ok (.invokevirtual 235, 3) := by decide +kernel
theorem dX6_go_66 : decode cX6_go 66 = .ok (.pop, 1) := by decide +kernel
theorem dX6_go_67 : decode cX6_go 67 = .ok (.aload_n 0, 1) := by decide +kernel
theorem dX6_go_68 : decode cX6_go 68 = .ok (.getfield 10, 3) := by decide +kernel
theorem dX6_go_71 : decode cX6_go 71 = .ok (.getfield 40, 3) := by decide +kernel
theorem dX6_go_74 : decode cX6_go 74 = .ok (.getfield 108, 3) := by decide +kernel
theorem dX6_go_77 : decode cX6_go 77 = .ok (.iload_n 1, 1) := by decide +kernel
theorem dX6_go_78 : decode cX6_go 78 = .ok (.aaload, 1) := by decide +kernel
theorem dX6_go_79 : decode cX6_go 79 = .ok (.getfield 112, 3) := by decide +kernel
theorem dX6_go_82 : decode cX6_go 82 = .ok (.ireturn, 1) := by decide +kernel
theorem dX6_back_0 : decode cX6_back 0 = .ok (.aload_n 0, 1) := by decide +kernel
theorem dX6_back_1 : decode cX6_back 1 = .ok (.getfield 10, 3) := by decide +kernel
theorem dX6_back_4 : decode cX6_back 4 = .ok (.getfield 223, 3) := by decide +kernel
theorem dX6_back_7 : decode cX6_back 7 = .ok (.aload_n 0, 1) := by decide +kernel
theorem dX6_back_8 : decode cX6_back 8 = .ok (.getfield 10, 3) := by decide +kernel
theorem dX6_back_11 : decode cX6_back 11 = .ok (.getfield 40, 3) := by decide +kernel
theorem dX6_back_14 : decode cX6_back 14 = .ok (.invokevirtual 239, 3) := by decide +kernel
theorem dX6_back_17 : decode cX6_back 17 = .ok (.istore_n 1, 1) := by decide +kernel
theorem dX6_back_18 : decode cX6_back 18 = .ok (.iload_n 1, 1) := by decide +kernel
theorem dX6_back_19 : decode cX6_back 19 = .ok (.ifCond .ge 18, 3) := by decide +kernel
theorem dX6_back_22 : decode cX6_back 22 = .ok (.aload_n 0, 1) := by decide +kernel
theorem dX6_back_23 : decode cX6_back 23 = .ok (.iconst 5, 1) := by decide +kernel
theorem dX6_back_24 : decode cX6_back 24 = .ok (.putfield 33, 3) := by decide +kernel
theorem dX6_back_27 : decode cX6_back 27 = .ok (.new 95, 3) := by decide +kernel
theorem dX6_back_30 : decode cX6_back 30 = .ok (.dup, 1) := by decide +kernel
theorem dX6_back_31 : decode cX6_back 31 = .ok (.ldc 242, 2) := by decide +kernel
theorem dX6_back_33 : decode cX6_back 33 = .ok (.invokespecial 99, 3) := by decide +kernel
theorem dX6_back_36 : decode cX6_back 36 = .ok (.athrow, 1) := by decide +kernel
theorem dX6_back_37 : decode cX6_back 37 = .ok (.aload_n 0, 1) := by decide +kernel
theorem dX6_back_38 : decode cX6_back 38 = .ok (.getfield 22, 3) := by decide +kernel
theorem dX6_back_41 : decode cX6_back 41 = .ok (.aload_n 0, 1) := by decide +kernel
theorem dX6_back_42 : decode cX6_back 42 = .ok (.getfield 10, 3) := by decide +kernel
theorem dX6_back_45 : decode cX6_back 45 = .ok (.invokevirtual 71, 3) := by decide +kernel
theorem dX6_back_48 : decode cX6_back 48 = .ok (.aload_n 0, 1) := by decide +kernel
theorem dX6_back_49 : decode cX6_back 49 = .ok (.getfield 10, 3) := by decide +kernel
theorem dX6_back_52 : decode cX6_back 52 = .ok (.getfield 223, 3) := by decide +kernel
theorem dX6_back_55 : decode cX6_back 55 = .ok (.aload_n 0, 1) := by decide +kernel
theorem dX6_back_56 : decode cX6_back 56 = .ok (.getfield 10, 3) := by decide +kernel
theorem dX6_back_59 : decode cX6_back 59 = .ok (.getfield 40, 3) := by decide +kernel
theorem dX6_back_62 : decode cX6_back 62 = .ok (.iload_n 1, 1) := by decide +kernel
theorem dX6_back_63 : decode cX6_back 63 = .ok (.invokevirtual 235, 3) := by decide +kernel
theorem dX6_back_66 : decode cX6_back 66 = .ok (.pop, 1) := by decide +kernel
theorem dX6_back_67 : decode cX6_back 67 = .ok (.aload_n 0, 1) := by decide +kernel
theorem dX6_back_68 : decode cX6_back 68 = .ok (.getfield 10, 3) := by decide +kernel
theorem dX6_back_71 : decode cX6_back 71 = .ok (.getfield 40, 3) := by decide +kernel
theorem dX6_back_74 : decode cX6_back 74 = .ok (.getfield 108, 3) := by decide +kernel
theorem dX6_back_77 : decode cX6_back 77 = .ok (.iload_n 1, 1) := by decide +kernel
theorem dX6_back_78 : decode cX6_back 78 = .ok (.aaload, 1) := by decide +kernel
theorem dX6_back_79 : decode cX6_back 79 = .ok (.getfield 112, 3) := by decide +kernel
theorem dX6_back_82 : decode cX6_back 82 = .ok (.ireturn, 1) := by decide +kernel
theorem dX6_jump_0 : decode cX6_jump 0 = .ok (.aload_n 0, 1) := by decide +kernel
theorem dX6_jump_1 : decode cX6_jump 1 = .ok (.getfield 10, 3) := by decide +kernel
theorem dX6_jump_4 : decode cX6_jump 4 = .ok (.getfield 40, 3) := by decide +kernel
theorem dX6_jump_7 : decode cX6_jump 7 = .ok (.iload_n 1, 1) := by decide +kernel
theorem dX6_jump_8 : decode cX6_jump 8 = .ok (.invokevirtual 79, 3) := by decide +kernel
theorem dX6_jump_11 : decode cX6_jump 11 = .ok (.istore_n 2, 1) := by decide +kernel
theorem dX6_jump_12 : decode cX6_jump 12 = .ok (.iload_n 2, 1) := by decide +kernel
theorem dX6_jump_13 : decode cX6_jump 13 = .ok (.ifCond .ge 13, 3) := by decide +kernel
theorem dX6_jump_16 : decode cX6_jump 16 = .ok (.new 83, 3) := by decide +kernel
theorem dX6_jump_19 : decode cX6_jump 19 = .ok (.dup, 1) := by decide +kernel
theorem dX6_jump_20 : decode cX6_jump 20 = .ok (.ldc 85, 2) := by decide +kernel
theorem dX6_jump_22 : decode cX6_jump 22 = .ok (.invokespecial 87, 3) := by decide +kernel
theorem dX6_jump_25 : decode cX6_jump 25 = .ok (.athrow, 1) := by decide +kernel
theorem dX6_jump_26 : decode cX6_jump 26 = .ok (.aload_n 0, 1) := by decide +kernel
theorem dX6_jump_27 : decode cX6_jump 27 = .ok (.getfield 22, 3) := by decide +kernel
theorem dX6_jump_30 : decode cX6_jump 30 = .ok (.aload_n 0, 1) := by decide +kernel
theorem dX6_jump_31 : decode cX6_jump 31 = .ok (.getfield 10, 3) := by decide +kernel
theorem dX6_jump_34 : decode cX6_jump 34 = .ok (.invokevirtual 71, 3) := by decide +kernel
theorem dX6_jump_37 : decode cX6_jump 37 = .ok (.aload_n 0, 1) := by decide +kernel
theorem dX6_jump_38 : decode cX6_jump 38 = .ok (.getfield 10, 3) := by decide +kernel
theorem dX6_jump_41 : decode cX6_jump 41 = .ok (.getfield 223, 3) := by decide +kernel
theorem dX6_jump_44 : decode cX6_jump 44 = .ok (.aload_n 0, 1) := by decide +kernel
theorem dX6_jump_45 : decode cX6_jump 45 = .ok (.getfield 10, 3) := by decide +kernel
theorem dX6_jump_48 : decode cX6_jump 48 = .ok (.getfield 40, 3) := by decide +kernel
theorem dX6_jump_51 : decode cX6_jump 51 = .ok (.iload_n 2, 1) := by decide +kernel
theorem dX6_jump_52 : decode cX6_jump 52 = .ok (.invokevirtual 235, 3) := by decide +kernel
theorem dX6_jump_55 : decode cX6_jump 55 = .ok (.ireturn, 1) := by decide +kernel
theorem dX6_pass_0 : decode cX6_pass 0 = .ok (.iload_n 1, 1) := by decide +kernel
theorem dX6_pass_1 : decode cX6_pass 1 = .ok (.iconst 0, 1) := by decide +kernel
theorem dX6_pass_2 : decode cX6_pass 2 = .ok (.sipush 6000, 3) := by decide +kernel
theorem dX6_pass_5 : decode cX6_pass 5 = .ok (.invokestatic 117, 3) := by decide +kernel
theorem dX6_pass_8 : decode cX6_pass 8 = .ok (.ifCond .ne 13, 3) := by decide +kernel
theorem dX6_pass_11 : decode cX6_pass 11 = .ok (.new 59, 3) := by decide +kernel
theorem dX6_pass_14 : decode cX6_pass 14 = .ok (.dup, 1) := by decide +kernel
theorem dX6_pass_15 : decode cX6_pass 15 = .ok (.ldc 138, 2) := by decide +kernel
theorem dX6_pass_17 : decode cX6_pass 17 = .ok (.invokespecial 63, 3) := by decide +kernel
theorem dX6_pass_20 : decode cX6_pass 20 = .ok (.athrow, 1) := by decide +kernel
theorem dX6_pass_21 : decode cX6_pass 21 = .ok (.aload_n 0, 1) := by decide +kernel
theorem dX6_pass_22 : decode cX6_pass 22 = .ok (.getfield 10, 3) := by decide +kernel
theorem dX6_pass_25 : decode cX6_pass 25 = .ok (.getfield 223, 3) := by decide +kernel
theorem dX6_pass_28 : decode cX6_pass 28 = .ok (.iload_n 1, 1) := by decide +kernel
theorem dX6_pass_29 : decode cX6_pass 29 = .ok (.invokevirtual 244, 3) := by decide +kernel
theorem dX6_pass_32 : decode cX6_pass 32 = .ok (.ifCond .ne 13, 3) := by decide +kernel
theorem dX6_pass_35 : decode cX6_pass 35 = .ok (.new 66, 3) := by decide +kernel
theorem dX6_pass_38 : decode cX6_pass 38 = .ok (.dup, 1) := by decide +kernel
theorem dX6_pass_39 : decode cX6_pass 39 = .ok (.ldc 247, 2) := by decide +kernel
theorem dX6_pass_41 : decode cX6_pass 41 = .ok (.invokespecial 70, 3) := by decide +kernel
theorem dX6_pass_44 : decode cX6_pass 44 = .ok (.athrow, 1) := by decide +kernel
theorem dX6_pass_45 : decode cX6_pass 45 = .ok (.aload_n 0, 1) := by decide +kernel
theorem dX6_pass_46 : decode cX6_pass 46 = .ok (.getfield 22, 3) := by decide +kernel
theorem dX6_pass_49 : decode cX6_pass 49 = .ok (.aload_n 0, 1) := by decide +kernel
theorem dX6_pass_50 : decode cX6_pass 50 = .ok (.getfield 10, 3) := by decide +kernel
theorem dX6_pass_53 : decode cX6_pass 53 = .ok (.invokevirtual 71, 3) := by decide +kernel
theorem dX6_pass_56 : decode cX6_pass 56 = .ok (.aload_n 0, 1) := by decide +kernel
theorem dX6_pass_57 : decode cX6_pass 57 = .ok (.getfield 10, 3) := by decide +kernel
theorem dX6_pass_60 : decode cX6_pass 60 = .ok (.getfield 223, 3) := by decide +kernel
theorem dX6_pass_63 : decode cX6_pass 63 = .ok (.aload_n 0, 1) := by decide +kernel
theorem dX6_pass_64 : decode cX6_pass 64 = .ok (.getfield 10, 3) := by decide +kernel
theorem dX6_pass_67 : decode cX6_pass 67 = .ok (.getfield 40, 3) := by decide +kernel
theorem dX6_pass_70 : decode cX6_pass 70 = .ok (.iload_n 1, 1) := by decide +kernel
theorem dX6_pass_71 : decode cX6_pass 71 = .ok (.invokevirtual 249, 3) := by decide +kernel
theorem dX6_pass_74 : decode cX6_pass 74 = .ok (.ireturn, 1) := by decide +kernel
theorem dX6_now_0 : decode cX6_now 0 = .ok (.iload_n 1, 1) := by decide +kernel
theorem dX6_now_1 : decode cX6_now 1 = .ok (.invokestatic 159, 3) := by decide +kernel
theorem dX6_now_4 : decode cX6_now 4 = .ok (.ifCond .ne 13, 3) := by decide +kernel
theorem dX6_now_7 : decode cX6_now 7 = .ok (.new 83, 3) := by decide +kernel
theorem dX6_now_10 : decode cX6_now 10 = .ok (.dup, 1) := by decide +kernel
theorem dX6_now_11 : decode cX6_now 11 = .ok (.ldc 162, 2) := by decide +kernel
theorem dX6_now_13 : decode cX6_now 13 = .ok (.invokespecial 87, 3) := by decide +kernel
theorem dX6_now_16 : decode cX6_now 16 = .ok (.athrow, 1) := by decide +kernel
theorem dX6_now_17 : decode cX6_now 17 = .ok (.aload_n 0, 1) := by decide +kernel
theorem dX6_now_18 : decode cX6_now 18 = .ok (.getfield 10, 3) := by decide +kernel
theorem dX6_now_21 : decode cX6_now 21 = .ok (.getfield 223, 3) := by decide +kernel
theorem dX6_now_24 : decode cX6_now 24 = .ok (.iload_n 1, 1) := by decide +kernel
theorem dX6_now_25 : decode cX6_now 25 = .ok (.invokevirtual 252, 3) := by decide +kernel
theorem dX6_now_28 : decode cX6_now 28 = .ok (.ireturn, 1) := by decide +kernel
theorem dX6_target_0 : decode cX6_target 0 = .ok (.iload_n 1, 1) := by decide +kernel
theorem dX6_target_1 : decode cX6_target 1 = .ok (.invokestatic 159, 3) := by decide +kernel
theorem dX6_target_4 : decode cX6_target 4 = .ok (.ifCond .ne 13, 3) := by decide +kernel
theorem dX6_target_7 : decode cX6_target 7 = .ok (.new 83, 3) := by decide +kernel
theorem dX6_target_10 : decode cX6_target 10 = .ok (.dup, 1) := by decide +kernel
theorem dX6_target_11 : decode cX6_target 11 = .ok (.ldc 162, 2) := by decide +kernel
theorem dX6_target_13 : decode cX6_target 13 = .ok (.invokespecial 87, 3) := by decide +kernel
theorem dX6_target_16 : decode cX6_target 16 = .ok (.athrow, 1) := by decide +kernel
theorem dX6_target_17 : decode cX6_target 17 = .ok (.aload_n 0, 1) := by decide +kernel
theorem dX6_target_18 : decode cX6_target 18 = .ok (.getfield 10, 3) := by decide +kernel
theorem dX6_target_21 : decode cX6_target 21 = .ok (.getfield 223, 3) := by decide +kernel
theorem dX6_target_24 : decode cX6_target 24 = .ok (.getfield 255, 3) := by decide +kernel
theorem dX6_target_27 : decode cX6_target 27 = .ok (.iload_n 1, 1) := by decide +kernel
theorem dX6_target_28 : decode cX6_target 28 = .ok (.iaload, 1) := by decide +kernel
theorem dX6_target_29 : decode cX6_target 29 = .ok (.ireturn, 1) := by decide +kernel
theorem dX6_playing_0 : decode cX6_playing 0 = .ok (.iload_n 1, 1) := by decide +kernel
theorem dX6_playing_1 : decode cX6_playing 1 = .ok (.tableswitch 104 0 4 #[35, 46, 57, 75, 86], 35) := by decide +kernel
theorem dX6_playing_36 : decode cX6_playing 36 = .ok (.aload_n 0, 1) := by decide +kernel
theorem dX6_playing_37 : decode cX6_playing 37 = .ok (.getfield 10, 3) := by decide +kernel
theorem dX6_playing_40 : decode cX6_playing 40 = .ok (.getfield 223, 3) := by decide +kernel
theorem dX6_playing_43 : decode cX6_playing 43 = .ok (.getfield 258, 3) := by decide +kernel
theorem dX6_playing_46 : decode cX6_playing 46 = .ok (.ireturn, 1) := by decide +kernel
theorem dX6_playing_47 : decode cX6_playing 47 = .ok (.aload_n 0, 1) := by decide +kernel
theorem dX6_playing_48 : decode cX6_playing 48 = .ok (.getfield 10, 3) := by decide +kernel
theorem dX6_playing_51 : decode cX6_playing 51 = .ok (.getfield 223, 3) := by decide +kernel
theorem dX6_playing_54 : decode cX6_playing 54 = .ok (.invokevirtual 261, 3) := by decide +kernel
theorem dX6_playing_57 : decode cX6_playing 57 = .ok (.ireturn, 1) := by decide +kernel
theorem dX6_playing_58 : decode cX6_playing 58 = .ok (.aload_n 0, 1) := by decide +kernel
theorem dX6_playing_59 : decode cX6_playing 59 = .ok (.getfield 10, 3) := by decide +kernel
theorem dX6_playing_62 : decode cX6_playing 62 = .ok (.getfield 223, 3) := by decide +kernel
theorem dX6_playing_65 : decode cX6_playing 65 = .ok (.aload_n 0, 1) := by decide +kernel
theorem dX6_playing_66 : decode cX6_playing 66 = .ok (.getfield 10, 3) := by decide +kernel
theorem dX6_playing_69 : decode cX6_playing 69 = .ok (.getfield 40, 3) := by decide +kernel
theorem dX6_playing_72 : decode cX6_playing 72 = .ok (.invokevirtual 264, 3) := by decide +kernel
theorem dX6_playing_75 : decode cX6_playing 75 = .ok (.ireturn, 1) := by decide +kernel
theorem dX6_playing_76 : decode cX6_playing 76 = .ok (.aload_n 0, 1) := by decide +kernel
theorem dX6_playing_77 : decode cX6_playing 77 = .ok (.getfield 10, 3) := by decide +kernel
theorem dX6_playing_80 : decode cX6_playing 80 = .ok (.getfield 223, 3) := by decide +kernel
theorem dX6_playing_83 : decode cX6_playing 83 = .ok (.invokevirtual 267, 3) := by decide +kernel
theorem dX6_playing_86 : decode cX6_playing 86 = .ok (.ireturn, 1) := by decide +kernel
theorem dX6_playing_87 : decode cX6_playing 87 = .ok (.aload_n 0, 1) := by decide +kernel
theorem dX6_playing_88 : decode cX6_playing 88 = .ok (.getfield 10, 3) := by decide +kernel
theorem dX6_playing_91 : decode cX6_playing 91 = .ok (.getfield 223, 3) := by decide +kernel
theorem dX6_playing_94 : decode cX6_playing 94 = .ok (.aload_n 0, 1) := by decide +kernel
theorem dX6_playing_95 : decode cX6_playing 95 = .ok (.getfield 10, 3) := by decide +kernel
theorem dX6_playing_98 : decode cX6_playing 98 = .ok (.getfield 40, 3) := by decide +kernel
theorem dX6_playing_101 : decode cX6_playing 101 = .ok (.invokevirtual 270, 3) := by decide +kernel
theorem dX6_playing_104 : decode cX6_playing 104 = .ok (.ireturn, 1) := by decide +kernel
theorem dX6_playing_105 : decode cX6_playing 105 = .ok (.new 59, 3) := by decide +kernel
theorem dX6_playing_108 : decode cX6_playing 108 = .ok (.dup, 1) := by decide +kernel
theorem dX6_playing_109 : decode cX6_playing 109 = .ok (.ldc_w 273, 3) := by decide +kernel
theorem dX6_playing_112 : decode cX6_playing 112 = .ok (.invokespecial 63, 3) := by decide +kernel
theorem dX6_playing_115 : decode cX6_playing 115 = .ok (.athrow, 1) := by decide +kernel
theorem dX6_chain_0 : decode cX6_chain 0 = .ok (.aload_n 0, 1) := by decide +kernel
theorem dX6_chain_1 : decode cX6_chain 1 = .ok (.getfield 10, 3) := by decide +kernel
theorem dX6_chain_4 : decode cX6_chain 4 = .ok (.getfield 40, 3) := by decide +kernel
theorem dX6_chain_7 : decode cX6_chain 7 = .ok (.iload_n 1, 1) := by decide +kernel
theorem dX6_chain_8 : decode cX6_chain 8 = .ok (.invokevirtual 79, 3) := by decide +kernel
theorem dX6_chain_11 : decode cX6_chain 11 = .ok (.istore_n 2, 1) := by decide +kernel
theorem dX6_chain_12 : decode cX6_chain 12 = .ok (.iload_n 2, 1) := by decide +kernel
theorem dX6_chain_13 : decode cX6_chain 13 = .ok (.ifCond .ge 13, 3) := by decide +kernel
theorem dX6_chain_16 : decode cX6_chain 16 = .ok (.new 83, 3) := by decide +kernel
theorem dX6_chain_19 : decode cX6_chain 19 = .ok (.dup, 1) := by decide +kernel
theorem dX6_chain_20 : decode cX6_chain 20 = .ok (.ldc 85, 2) := by decide +kernel
theorem dX6_chain_22 : decode cX6_chain 22 = .ok (.invokespecial 87, 3) := by decide +kernel
theorem dX6_chain_25 : decode cX6_chain 25 = .ok (.athrow, 1) := by decide +kernel
theorem dX6_chain_26 : decode cX6_chain 26 = .ok (.aload_n 0, 1) := by decide +kernel
theorem dX6_chain_27 : decode cX6_chain 27 = .ok (.getfield 10, 3) := by decide +kernel
theorem dX6_chain_30 : decode cX6_chain 30 = .ok (.getfield 40, 3) := by decide +kernel
theorem dX6_chain_33 : decode cX6_chain 33 = .ok (.iload_n 2, 1) := by decide +kernel
theorem dX6_chain_34 : decode cX6_chain 34 = .ok (.invokevirtual 275, 3) := by decide +kernel
theorem dX6_chain_37 : decode cX6_chain 37 = .ok (.ireturn, 1) := by decide +kernel
theorem dX6_account_0 : decode cX6_account 0 = .ok (.iload_n 1, 1) := by decide +kernel
theorem dX6_account_1 : decode cX6_account 1 = .ok (.tableswitch 183 0 10 #[59, 70, 81, 92, 103, 117, 128, 139, 150, 161, 172], 59) := by decide +kernel
theorem dX6_account_60 : decode cX6_account 60 = .ok (.aload_n 0, 1) := by decide +kernel
theorem dX6_account_61 : decode cX6_account 61 = .ok (.getfield 10, 3) := by decide +kernel
theorem dX6_account_64 : decode cX6_account 64 = .ok (.getfield 40, 3) := by decide +kernel
theorem dX6_account_67 : decode cX6_account 67 = .ok (.getfield 44, 3) := by decide +kernel
theorem dX6_account_70 : decode cX6_account 70 = .ok (.ireturn, 1) := by decide +kernel
theorem dX6_account_71 : decode cX6_account 71 = .ok (.aload_n 0, 1) := by decide +kernel
theorem dX6_account_72 : decode cX6_account 72 = .ok (.getfield 10, 3) := by decide +kernel
theorem dX6_account_75 : decode cX6_account 75 = .ok (.getfield 40, 3) := by decide +kernel
theorem dX6_account_78 : decode cX6_account 78 = .ok (.getfield 192, 3) := by decide +kernel
theorem dX6_account_81 : decode cX6_account 81 = .ok (.ireturn, 1) := by decide +kernel
theorem dX6_account_82 : decode cX6_account 82 = .ok (.aload_n 0, 1) := by decide +kernel
theorem dX6_account_83 : decode cX6_account 83 = .ok (.getfield 10, 3) := by decide +kernel
theorem dX6_account_86 : decode cX6_account 86 = .ok (.getfield 223, 3) := by decide +kernel
theorem dX6_account_89 : decode cX6_account 89 = .ok (.invokevirtual 278, 3) := by decide +kernel
theorem dX6_account_92 : decode cX6_account 92 = .ok (.ireturn, 1) := by decide +kernel
theorem dX6_account_93 : decode cX6_account 93 = .ok (.aload_n 0, 1) := by decide +kernel
theorem dX6_account_94 : decode cX6_account 94 = .ok (.getfield 10, 3) := by decide +kernel
theorem dX6_account_97 : decode cX6_account 97 = .ok (.getfield 223, 3) := by decide +kernel
theorem dX6_account_100 : decode cX6_account 100 = .ok (.invokevirtual 281, 3) := by decide +kernel
theorem dX6_account_103 : decode cX6_account 103 = .ok (.ireturn, 1) := by decide +kernel
theorem dX6_account_104 : decode cX6_account 104 = .ok (.aload_n 0, 1) := by decide +kernel
theorem dX6_account_105 : decode cX6_account 105 = .ok (.getfield 10, 3) := by decide +kernel
theorem dX6_account_108 : decode cX6_account 108 = .ok (.getfield 223, 3) := by decide +kernel
theorem dX6_account_111 : decode cX6_account 111 = .ok (.invokevirtual 267, 3) := by decide +kernel
theorem dX6_account_114 : decode cX6_account 114 = .ok (.invokestatic 284, 3) := by decide +kernel
theorem dX6_account_117 : decode cX6_account 117 = .ok (.ireturn, 1) := by decide +kernel
theorem dX6_account_118 : decode cX6_account 118 = .ok (.aload_n 0, 1) := by decide +kernel
theorem dX6_account_119 : decode cX6_account 119 = .ok (.getfield 10, 3) := by decide +kernel
theorem dX6_account_122 : decode cX6_account 122 = .ok (.getfield 223, 3) := by decide +kernel
theorem dX6_account_125 : decode cX6_account 125 = .ok (.getfield 289, 3) := by decide +kernel
theorem dX6_account_128 : decode cX6_account 128 = .ok (.ireturn, 1) := by decide +kernel
theorem dX6_account_129 : decode cX6_account 129 = .ok (.aload_n 0, 1) := by decide +kernel
theorem dX6_account_130 : decode cX6_account 130 = .ok (.getfield 10, 3) := by decide +kernel
theorem dX6_account_133 : decode cX6_account 133 = .ok (.getfield 223, 3) := by decide +kernel
theorem dX6_account_136 : decode cX6_account 136 = .ok (.getfield 292, 3) := by decide +kernel
theorem dX6_account_139 : decode cX6_account 139 = .ok (.ireturn, 1) := by decide +kernel
theorem dX6_account_140 : decode cX6_account 140 = .ok (.aload_n 0, 1) := by decide +kernel
theorem dX6_account_141 : decode cX6_account 141 = .ok (.getfield 10, 3) := by decide +kernel
theorem dX6_account_144 : decode cX6_account 144 = .ok (.getfield 40, 3) := by decide +kernel
theorem dX6_account_147 : decode cX6_account 147 = .ok (.invokevirtual 295, 3) := by decide +kernel
theorem dX6_account_150 : decode cX6_account 150 = .ok (.ireturn, 1) := by decide +kernel
theorem dX6_account_151 : decode cX6_account 151 = .ok (.aload_n 0, 1) := by decide +kernel
theorem dX6_account_152 : decode cX6_account 152 = .ok (.getfield 10, 3) := by decide +kernel
theorem dX6_account_155 : decode cX6_account 155 = .ok (.getfield 40, 3) := by decide +kernel
theorem dX6_account_158 : decode cX6_account 158 = .ok (.invokevirtual 298, 3) := by decide +kernel
theorem dX6_account_161 : decode cX6_account 161 = .ok (.ireturn, 1) := by decide +kernel
theorem dX6_account_162 : decode cX6_account 162 = .ok (.aload_n 0, 1) := by decide +kernel
theorem dX6_account_163 : decode cX6_account 163 = .ok (.getfield 10, 3) := by decide +kernel
theorem dX6_account_166 : decode cX6_account 166 = .ok (.getfield 40, 3) := by decide +kernel
theorem dX6_account_169 : decode cX6_account 169 = .ok (.invokevirtual 301, 3) := by decide +kernel
theorem dX6_account_172 : decode cX6_account 172 = .ok (.ireturn, 1) := by decide +kernel
theorem dX6_account_173 : decode cX6_account 173 = .ok (.aload_n 0, 1) := by decide +kernel
theorem dX6_account_174 : decode cX6_account 174 = .ok (.getfield 10, 3) := by decide +kernel
theorem dX6_account_177 : decode cX6_account 177 = .ok (.getfield 40, 3) := by decide +kernel
theorem dX6_account_180 : decode cX6_account 180 = .ok (.invokevirtual 304, 3) := by decide +kernel
theorem dX6_account_183 : decode cX6_account 183 = .ok (.ireturn, 1) := by decide +kernel
theorem dX6_account_184 : decode cX6_account 184 = .ok (.new 59, 3) := by decide +kernel
theorem dX6_account_187 : decode cX6_account 187 = .ok (.dup, 1) := by decide +kernel
theorem dX6_account_188 : decode cX6_account 188 = .ok (.ldc_w 307, 3) := by decide +kernel
theorem dX6_account_191 : decode cX6_account 191 = .ok (.invokespecial 63, 3) := by decide +kernel
theorem dX6_account_194 : decode cX6_account 194 = .ok (.athrow, 1) := by decide +kernel
theorem dX6_meanLevel_0 : decode cX6_meanLevel 0 = .ok (.aload_n 0, 1) := by decide +kernel
theorem dX6_meanLevel_1 : decode cX6_meanLevel 1 = .ok (.getfield 10, 3) := by decide +kernel
theorem dX6_meanLevel_4 : decode cX6_meanLevel 4 = .ok (.getfield 223, 3) := by decide +kernel
theorem dX6_meanLevel_7 : decode cX6_meanLevel 7 = .ok (.invokevirtual 278, 3) := by decide +kernel
theorem dX6_meanLevel_10 : decode cX6_meanLevel 10 = .ok (.i2d, 1) := by decide +kernel
theorem dX6_meanLevel_11 : decode cX6_meanLevel 11 = .ok (.ldc2_w 309, 3) := by decide +kernel
theorem dX6_meanLevel_14 : decode cX6_meanLevel 14 = .ok (.ddiv, 1) := by decide +kernel
theorem dX6_meanLevel_15 : decode cX6_meanLevel 15 = .ok (.dreturn, 1) := by decide +kernel
theorem dX6_append_0 : decode cX6_append 0 = .ok (.iload_n 1, 1) := by decide +kernel
theorem dX6_append_1 : decode cX6_append 1 = .ok (.bipush 32, 2) := by decide +kernel
theorem dX6_append_3 : decode cX6_append 3 = .ok (.if_icmp .lt 9, 3) := by decide +kernel
theorem dX6_append_6 : decode cX6_append 6 = .ok (.iload_n 1, 1) := by decide +kernel
theorem dX6_append_7 : decode cX6_append 7 = .ok (.bipush 126, 2) := by decide +kernel
theorem dX6_append_9 : decode cX6_append 9 = .ok (.if_icmp .le 14, 3) := by decide +kernel
theorem dX6_append_12 : decode cX6_append 12 = .ok (.new 59, 3) := by decide +kernel
theorem dX6_append_15 : decode cX6_append 15 = .ok (.dup, 1) := by decide +kernel
theorem dX6_append_16 : decode cX6_append 16 = .ok (.ldc_w 311, 3) := by decide +kernel
theorem dX6_append_19 : decode cX6_append 19 = .ok (.invokespecial 63, 3) := by decide +kernel
theorem dX6_append_22 : decode cX6_append 22 = .ok (.athrow, 1) := by decide +kernel
theorem dX6_append_23 : decode cX6_append 23 = .ok (.aload_n 0, 1) := by decide +kernel
theorem dX6_append_24 : decode cX6_append 24 = .ok (.getfield 29, 3) := by decide +kernel
theorem dX6_append_27 : decode cX6_append 27 = .ok (.getfield 313, 3) := by decide +kernel
theorem dX6_append_30 : decode cX6_append 30 = .ok (.bipush 60, 2) := by decide +kernel
theorem dX6_append_32 : decode cX6_append 32 = .ok (.if_icmp .lt 14, 3) := by decide +kernel
theorem dX6_append_35 : decode cX6_append 35 = .ok (.new 66, 3) := by decide +kernel
theorem dX6_append_38 : decode cX6_append 38 = .ok (.dup, 1) := by decide +kernel
theorem dX6_append_39 : decode cX6_append 39 = .ok (.ldc_w 316, 3) := by decide +kernel
theorem dX6_append_42 : decode cX6_append 42 = .ok (.invokespecial 70, 3) := by decide +kernel
theorem dX6_append_45 : decode cX6_append 45 = .ok (.athrow, 1) := by decide +kernel
theorem dX6_append_46 : decode cX6_append 46 = .ok (.aload_n 0, 1) := by decide +kernel
theorem dX6_append_47 : decode cX6_append 47 = .ok (.getfield 29, 3) := by decide +kernel
theorem dX6_append_50 : decode cX6_append 50 = .ok (.getfield 318, 3) := by decide +kernel
theorem dX6_append_53 : decode cX6_append 53 = .ok (.aload_n 0, 1) := by decide +kernel
theorem dX6_append_54 : decode cX6_append 54 = .ok (.getfield 29, 3) := by decide +kernel
theorem dX6_append_57 : decode cX6_append 57 = .ok (.getfield 313, 3) := by decide +kernel
theorem dX6_append_60 : decode cX6_append 60 = .ok (.iload_n 1, 1) := by decide +kernel
theorem dX6_append_61 : decode cX6_append 61 = .ok (.castore, 1) := by decide +kernel
theorem dX6_append_62 : decode cX6_append 62 = .ok (.aload_n 0, 1) := by decide +kernel
theorem dX6_append_63 : decode cX6_append 63 = .ok (.getfield 29, 3) := by decide +kernel
theorem dX6_append_66 : decode cX6_append 66 = .ok (.dup, 1) := by decide +kernel
theorem dX6_append_67 : decode cX6_append 67 = .ok (.getfield 313, 3) := by decide +kernel
theorem dX6_append_70 : decode cX6_append 70 = .ok (.iconst 1, 1) := by decide +kernel
theorem dX6_append_71 : decode cX6_append 71 = .ok (.iadd, 1) := by decide +kernel
theorem dX6_append_72 : decode cX6_append 72 = .ok (.putfield 313, 3) := by decide +kernel
theorem dX6_append_75 : decode cX6_append 75 = .ok (.aload_n 0, 1) := by decide +kernel
theorem dX6_append_76 : decode cX6_append 76 = .ok (.getfield 29, 3) := by decide +kernel
theorem dX6_append_79 : decode cX6_append 79 = .ok (.getfield 313, 3) := by decide +kernel
theorem dX6_append_82 : decode cX6_append 82 = .ok (.ireturn, 1) := by decide +kernel
theorem dX6_read_0 : decode cX6_read 0 = .ok (.aload_n 0, 1) := by decide +kernel
theorem dX6_read_1 : decode cX6_read 1 = .ok (.getfield 29, 3) := by decide +kernel
theorem dX6_read_4 : decode cX6_read 4 = .ok (.invokevirtual 322, 3) := by decide +kernel
theorem dX6_read_7 : decode cX6_read 7 = .ok (.istore_n 1, 1) := by decide +kernel
theorem dX6_read_8 : decode cX6_read 8 = .ok (.iload_n 1, 1) := by decide +kernel
theorem dX6_read_9 : decode cX6_read 9 = .ok (.ifCond .ge 33, 3) := by decide +kernel
theorem dX6_read_12 : decode cX6_read 12 = .ok (.aload_n 0, 1) := by decide +kernel
theorem dX6_read_13 : decode cX6_read 13 = .ok (.aload_n 0, 1) := by decide +kernel
theorem dX6_read_14 : decode cX6_read 14 = .ok (.getfield 29, 3) := by decide +kernel
theorem dX6_read_17 : decode cX6_read 17 = .ok (.getfield 325, 3) := by decide +kernel
theorem dX6_read_20 : decode cX6_read 20 = .ok (.putfield 37, 3) := by decide +kernel
theorem dX6_read_23 : decode cX6_read 23 = .ok (.aload_n 0, 1) := by decide +kernel
theorem dX6_read_24 : decode cX6_read 24 = .ok (.getfield 29, 3) := by decide +kernel
theorem dX6_read_27 : decode cX6_read 27 = .ok (.iconst 0, 1) := by decide +kernel
theorem dX6_read_28 : decode cX6_read 28 = .ok (.putfield 313, 3) := by decide +kernel
theorem dX6_read_31 : decode cX6_read 31 = .ok (.new 59, 3) := by decide +kernel
theorem dX6_read_34 : decode cX6_read 34 = .ok (.dup, 1) := by decide +kernel
theorem dX6_read_35 : decode cX6_read 35 = .ok (.ldc_w 328, 3) := by decide +kernel
theorem dX6_read_38 : decode cX6_read 38 = .ok (.invokespecial 63, 3) := by decide +kernel
theorem dX6_read_41 : decode cX6_read 41 = .ok (.athrow, 1) := by decide +kernel
theorem dX6_read_42 : decode cX6_read 42 = .ok (.aload_n 0, 1) := by decide +kernel
theorem dX6_read_43 : decode cX6_read 43 = .ok (.getfield 22, 3) := by decide +kernel
theorem dX6_read_46 : decode cX6_read 46 = .ok (.aload_n 0, 1) := by decide +kernel
theorem dX6_read_47 : decode cX6_read 47 = .ok (.getfield 10, 3) := by decide +kernel
theorem dX6_read_50 : decode cX6_read 50 = .ok (.invokevirtual 330, 3) := by decide +kernel
theorem dX6_read_53 : decode cX6_read 53 = .ok (.aload_n 0, 1) := by decide +kernel
theorem dX6_read_54 : decode cX6_read 54 = .ok (.getfield 29, 3) := by decide +kernel
theorem dX6_read_57 : decode cX6_read 57 = .ok (.iconst 0, 1) := by decide +kernel
theorem dX6_read_58 : decode cX6_read 58 = .ok (.putfield 325, 3) := by decide +kernel
theorem dX6_read_61 : decode cX6_read 61 = .ok (.iconst 1, 1) := by decide +kernel
theorem dX6_read_62 : decode cX6_read 62 = .ok (.istore_n 2, 1) := by decide +kernel
theorem dX6_read_63 : decode cX6_read 63 = .ok (.iconst 0, 1) := by decide +kernel
theorem dX6_read_64 : decode cX6_read 64 = .ok (.istore_n 3, 1) := by decide +kernel
theorem dX6_read_65 : decode cX6_read 65 = .ok (.iload_n 2, 1) := by decide +kernel
theorem dX6_read_66 : decode cX6_read 66 = .ok (.ifCond .eq 37, 3) := by decide +kernel
theorem dX6_read_69 : decode cX6_read 69 = .ok (.iload_n 3, 1) := by decide +kernel
theorem dX6_read_70 : decode cX6_read 70 = .ok (.iload_n 1, 1) := by decide +kernel
theorem dX6_read_71 : decode cX6_read 71 = .ok (.if_icmp .ge 32, 3) := by decide +kernel
theorem dX6_read_74 : decode cX6_read 74 = .ok (.aload_n 0, 1) := by decide +kernel
theorem dX6_read_75 : decode cX6_read 75 = .ok (.getfield 29, 3) := by decide +kernel
theorem dX6_read_78 : decode cX6_read 78 = .ok (.invokevirtual 333, 3) := by decide +kernel
theorem dX6_read_81 : decode cX6_read 81 = .ok (.ifCond .eq 14, 3) := by decide +kernel
theorem dX6_read_84 : decode cX6_read 84 = .ok (.aload_n 0, 1) := by decide +kernel
theorem dX6_read_85 : decode cX6_read 85 = .ok (.invokevirtual 337, 3) := by decide +kernel
theorem dX6_read_88 : decode cX6_read 88 = .ok (.ifCond .eq 7, 3) := by decide +kernel
theorem dX6_read_91 : decode cX6_read 91 = .ok (.iconst 1, 1) := by decide +kernel
theorem dX6_read_92 : decode cX6_read 92 = .ok (.goto 4, 3) := by decide +kernel
theorem dX6_read_95 : decode cX6_read 95 = .ok (.iconst 0, 1) := by decide +kernel
theorem dX6_read_96 : decode cX6_read 96 = .ok (.istore_n 2, 1) := by decide +kernel
theorem dX6_read_97 : decode cX6_read 97 = .ok (.iinc 3 1, 3) := by decide +kernel
theorem dX6_read_100 : decode cX6_read 100 = .ok (.goto (-35), 3) := by decide +kernel
theorem dX6_read_103 : decode cX6_read 103 = .ok (.aload_n 0, 1) := by decide +kernel
theorem dX6_read_104 : decode cX6_read 104 = .ok (.getfield 29, 3) := by decide +kernel
theorem dX6_read_107 : decode cX6_read 107 = .ok (.iconst 0, 1) := by decide +kernel
theorem dX6_read_108 : decode cX6_read 108 = .ok (.putfield 313, 3) := by decide +kernel
theorem dX6_read_111 : decode cX6_read 111 = .ok (.iload_n 2, 1) := by decide +kernel
theorem dX6_read_112 : decode cX6_read 112 = .ok (.ifCond .ne 25, 3) := by decide +kernel
theorem dX6_read_115 : decode cX6_read 115 = .ok (.aload_n 0, 1) := by decide +kernel
theorem dX6_read_116 : decode cX6_read 116 = .ok (.getfield 22, 3) := by decide +kernel
theorem dX6_read_119 : decode cX6_read 119 = .ok (.aload_n 0, 1) := by decide +kernel
theorem dX6_read_120 : decode cX6_read 120 = .ok (.getfield 10, 3) := by decide +kernel
theorem dX6_read_123 : decode cX6_read 123 = .ok (.invokevirtual 340, 3) := by decide +kernel
theorem dX6_read_126 : decode cX6_read 126 = .ok (.new 66, 3) := by decide +kernel
theorem dX6_read_129 : decode cX6_read 129 = .ok (.dup, 1) := by decide +kernel
theorem dX6_read_130 : decode cX6_read 130 = .ok (.ldc_w 343, 3) := by decide +kernel
theorem dX6_read_133 : decode cX6_read 133 = .ok (.invokespecial 70, 3) := by decide +kernel
theorem dX6_read_136 : decode cX6_read 136 = .ok (.athrow, 1) := by decide +kernel
theorem dX6_read_137 : decode cX6_read 137 = .ok (.aload_n 0, 1) := by decide +kernel
theorem dX6_read_138 : decode cX6_read 138 = .ok (.getfield 22, 3) := by decide +kernel
theorem dX6_read_141 : decode cX6_read 141 = .ok (.invokevirtual 345, 3) := by decide +kernel
theorem dX6_read_144 : decode cX6_read 144 = .ok (.iload_n 1, 1) := by decide +kernel
theorem dX6_read_145 : decode cX6_read 145 = .ok (.ireturn, 1) := by decide +kernel
theorem dX6_errorPosition_0 : decode cX6_errorPosition 0 = .ok (.aload_n 0, 1) := by decide +kernel
theorem dX6_errorPosition_1 : decode cX6_errorPosition 1 = .ok (.getfield 37, 3) := by decide +kernel
theorem dX6_errorPosition_4 : decode cX6_errorPosition 4 = .ok (.iconst (-1), 1) := by decide +kernel
theorem dX6_errorPosition_5 : decode cX6_errorPosition 5 = .ok (.if_icmp .ne 14, 3) := by decide +kernel
theorem dX6_errorPosition_8 : decode cX6_errorPosition 8 = .ok (.new 103, 3) := by decide +kernel
theorem dX6_errorPosition_11 : decode cX6_errorPosition 11 = .ok (.dup, 1) := by decide +kernel
theorem dX6_errorPosition_12 : decode cX6_errorPosition 12 = .ok (.ldc_w 348, 3) := by decide +kernel
theorem dX6_errorPosition_15 : decode cX6_errorPosition 15 = .ok (.invokespecial 107, 3) := by decide +kernel
theorem dX6_errorPosition_18 : decode cX6_errorPosition 18 = .ok (.athrow, 1) := by decide +kernel
theorem dX6_errorPosition_19 : decode cX6_errorPosition 19 = .ok (.aload_n 0, 1) := by decide +kernel
theorem dX6_errorPosition_20 : decode cX6_errorPosition 20 = .ok (.getfield 37, 3) := by decide +kernel
theorem dX6_errorPosition_23 : decode cX6_errorPosition 23 = .ok (.ireturn, 1) := by decide +kernel
theorem dX6_undo_0 : decode cX6_undo 0 = .ok (.aload_n 0, 1) := by decide +kernel
theorem dX6_undo_1 : decode cX6_undo 1 = .ok (.getfield 22, 3) := by decide +kernel
theorem dX6_undo_4 : decode cX6_undo 4 = .ok (.getfield 350, 3) := by decide +kernel
theorem dX6_undo_7 : decode cX6_undo 7 = .ok (.ifCond .ne 14, 3) := by decide +kernel
theorem dX6_undo_10 : decode cX6_undo 10 = .ok (.new 103, 3) := by decide +kernel
theorem dX6_undo_13 : decode cX6_undo 13 = .ok (.dup, 1) := by decide +kernel
theorem dX6_undo_14 : decode cX6_undo 14 = .ok (.ldc_w 353, 3) := by decide +kernel
theorem dX6_undo_17 : decode cX6_undo 17 = .ok (.invokespecial 107, 3) := by decide +kernel
theorem dX6_undo_20 : decode cX6_undo 20 = .ok (.athrow, 1) := by decide +kernel
theorem dX6_undo_21 : decode cX6_undo 21 = .ok (.aload_n 0, 1) := by decide +kernel
theorem dX6_undo_22 : decode cX6_undo 22 = .ok (.getfield 22, 3) := by decide +kernel
theorem dX6_undo_25 : decode cX6_undo 25 = .ok (.aload_n 0, 1) := by decide +kernel
theorem dX6_undo_26 : decode cX6_undo 26 = .ok (.getfield 10, 3) := by decide +kernel
theorem dX6_undo_29 : decode cX6_undo 29 = .ok (.invokevirtual 355, 3) := by decide +kernel
theorem dX6_undo_32 : decode cX6_undo 32 = .ok (.aload_n 0, 1) := by decide +kernel
theorem dX6_undo_33 : decode cX6_undo 33 = .ok (.getfield 22, 3) := by decide +kernel
theorem dX6_undo_36 : decode cX6_undo 36 = .ok (.getfield 350, 3) := by decide +kernel
theorem dX6_undo_39 : decode cX6_undo 39 = .ok (.ireturn, 1) := by decide +kernel
theorem dX6_save_0 : decode cX6_save 0 = .ok (.aload_n 0, 1) := by decide +kernel
theorem dX6_save_1 : decode cX6_save 1 = .ok (.getfield 16, 3) := by decide +kernel
theorem dX6_save_4 : decode cX6_save 4 = .ok (.aload_n 0, 1) := by decide +kernel
theorem dX6_save_5 : decode cX6_save 5 = .ok (.getfield 10, 3) := by decide +kernel
theorem dX6_save_8 : decode cX6_save 8 = .ok (.invokevirtual 358, 3) := by decide +kernel
theorem dX6_save_11 : decode cX6_save 11 = .ok (.aload_n 0, 1) := by decide +kernel
theorem dX6_save_12 : decode cX6_save 12 = .ok (.iconst 1, 1) := by decide +kernel
theorem dX6_save_13 : decode cX6_save 13 = .ok (.putfield 361, 3) := by decide +kernel
theorem dX6_save_16 : decode cX6_save 16 = .ok (.aload_n 0, 1) := by decide +kernel
theorem dX6_save_17 : decode cX6_save 17 = .ok (.getfield 10, 3) := by decide +kernel
theorem dX6_save_20 : decode cX6_save 20 = .ok (.getfield 40, 3) := by decide +kernel
theorem dX6_save_23 : decode cX6_save 23 = .ok (.getfield 44, 3) := by decide +kernel
theorem dX6_save_26 : decode cX6_save 26 = .ok (.ireturn, 1) := by decide +kernel
theorem dX6_restore_0 : decode cX6_restore 0 = .ok (.aload_n 0, 1) := by decide +kernel
theorem dX6_restore_1 : decode cX6_restore 1 = .ok (.getfield 361, 3) := by decide +kernel
theorem dX6_restore_4 : decode cX6_restore 4 = .ok (.ifCond .ne 14, 3) := by decide +kernel
theorem dX6_restore_7 : decode cX6_restore 7 = .ok (.new 66, 3) := by decide +kernel
theorem dX6_restore_10 : decode cX6_restore 10 = .ok (.dup, 1) := by decide +kernel
theorem dX6_restore_11 : decode cX6_restore 11 = .ok (.ldc_w 364, 3) := by decide +kernel
theorem dX6_restore_14 : decode cX6_restore 14 = .ok (.invokespecial 70, 3) := by decide +kernel
theorem dX6_restore_17 : decode cX6_restore 17 = .ok (.athrow, 1) := by decide +kernel
theorem dX6_restore_18 : decode cX6_restore 18 = .ok (.aload_n 0, 1) := by decide +kernel
theorem dX6_restore_19 : decode cX6_restore 19 = .ok (.getfield 10, 3) := by decide +kernel
theorem dX6_restore_22 : decode cX6_restore 22 = .ok (.aload_n 0, 1) := by decide +kernel
theorem dX6_restore_23 : decode cX6_restore 23 = .ok (.getfield 16, 3) := by decide +kernel
theorem dX6_restore_26 : decode cX6_restore 26 = .ok (.invokevirtual 358, 3) := by decide +kernel
theorem dX6_restore_29 : decode cX6_restore 29 = .ok (.aload_n 0, 1) := by decide +kernel
theorem dX6_restore_30 : decode cX6_restore 30 = .ok (.getfield 22, 3) := by decide +kernel
theorem dX6_restore_33 : decode cX6_restore 33 = .ok (.invokevirtual 52, 3) := by decide +kernel
theorem dX6_restore_36 : decode cX6_restore 36 = .ok (.aload_n 0, 1) := by decide +kernel
theorem dX6_restore_37 : decode cX6_restore 37 = .ok (.getfield 10, 3) := by decide +kernel
theorem dX6_restore_40 : decode cX6_restore 40 = .ok (.getfield 40, 3) := by decide +kernel
theorem dX6_restore_43 : decode cX6_restore 43 = .ok (.getfield 44, 3) := by decide +kernel
theorem dX6_restore_46 : decode cX6_restore 46 = .ok (.ireturn, 1) := by decide +kernel
theorem dX6_isWithin_0 : decode cX6_isWithin 0 = .ok (.iload_n 0, 1) := by decide +kernel
theorem dX6_isWithin_1 : decode cX6_isWithin 1 = .ok (.iload_n 1, 1) := by decide +kernel
theorem dX6_isWithin_2 : decode cX6_isWithin 2 = .ok (.if_icmp .lt 12, 3) := by decide +kernel
theorem dX6_isWithin_5 : decode cX6_isWithin 5 = .ok (.iload_n 0, 1) := by decide +kernel
theorem dX6_isWithin_6 : decode cX6_isWithin 6 = .ok (.iload_n 2, 1) := by decide +kernel
theorem dX6_isWithin_7 : decode cX6_isWithin 7 = .ok (.if_icmp .gt 7, 3) := by decide +kernel
theorem dX6_isWithin_10 : decode cX6_isWithin 10 = .ok (.iconst 1, 1) := by decide +kernel
theorem dX6_isWithin_11 : decode cX6_isWithin 11 = .ok (.goto 4, 3) := by decide +kernel
theorem dX6_isWithin_14 : decode cX6_isWithin 14 = .ok (.iconst 0, 1) := by decide +kernel
theorem dX6_isWithin_15 : decode cX6_isWithin 15 = .ok (.ireturn, 1) := by decide +kernel
theorem dX6_isChannel_0 : decode cX6_isChannel 0 = .ok (.iload_n 0, 1) := by decide +kernel
theorem dX6_isChannel_1 : decode cX6_isChannel 1 = .ok (.iconst 0, 1) := by decide +kernel
theorem dX6_isChannel_2 : decode cX6_isChannel 2 = .ok (.bipush 11, 2) := by decide +kernel
theorem dX6_isChannel_4 : decode cX6_isChannel 4 = .ok (.invokestatic 117, 3) := by decide +kernel
theorem dX6_isChannel_7 : decode cX6_isChannel 7 = .ok (.ireturn, 1) := by decide +kernel
theorem dX6_isLevel_0 : decode cX6_isLevel 0 = .ok (.iload_n 0, 1) := by decide +kernel
theorem dX6_isLevel_1 : decode cX6_isLevel 1 = .ok (.iconst 0, 1) := by decide +kernel
theorem dX6_isLevel_2 : decode cX6_isLevel 2 = .ok (.bipush 100, 2) := by decide +kernel
theorem dX6_isLevel_4 : decode cX6_isLevel 4 = .ok (.invokestatic 117, 3) := by decide +kernel
theorem dX6_isLevel_7 : decode cX6_isLevel 7 = .ok (.ireturn, 1) := by decide +kernel
theorem dX6_isPart_0 : decode cX6_isPart 0 = .ok (.iload_n 0, 1) := by decide +kernel
theorem dX6_isPart_1 : decode cX6_isPart 1 = .ok (.iconst 0, 1) := by decide +kernel
theorem dX6_isPart_2 : decode cX6_isPart 2 = .ok (.iconst 3, 1) := by decide +kernel
theorem dX6_isPart_3 : decode cX6_isPart 3 = .ok (.invokestatic 117, 3) := by decide +kernel
theorem dX6_isPart_6 : decode cX6_isPart 6 = .ok (.ireturn, 1) := by decide +kernel
theorem dX6_isFreeNumber_0 : decode cX6_isFreeNumber 0 = .ok (.iload_n 1, 1) := by decide +kernel
theorem dX6_isFreeNumber_1 : decode cX6_isFreeNumber 1 = .ok (.iconst 1, 1) := by decide +kernel
theorem dX6_isFreeNumber_2 : decode cX6_isFreeNumber 2 = .ok (.bipush 99, 2) := by decide +kernel
theorem dX6_isFreeNumber_4 : decode cX6_isFreeNumber 4 = .ok (.invokestatic 117, 3) := by decide +kernel
theorem dX6_isFreeNumber_7 : decode cX6_isFreeNumber 7 = .ok (.ifCond .eq 21, 3) := by decide +kernel
theorem dX6_isFreeNumber_10 : decode cX6_isFreeNumber 10 = .ok (.aload_n 0, 1) := by decide +kernel
theorem dX6_isFreeNumber_11 : decode cX6_isFreeNumber 11 = .ok (.getfield 10, 3) := by decide +kernel
theorem dX6_isFreeNumber_14 : decode cX6_isFreeNumber 14 = .ok (.getfield 40, 3) := by decide +kernel
theorem dX6_isFreeNumber_17 : decode cX6_isFreeNumber 17 = .ok (.iload_n 1, 1) := by decide +kernel
theorem dX6_isFreeNumber_18 : decode cX6_isFreeNumber 18 = .ok (.invokevirtual 79, 3) := by decide +kernel
theorem dX6_isFreeNumber_21 : decode cX6_isFreeNumber 21 = .ok (.ifCond .ge 7, 3) := by decide +kernel
theorem dX6_isFreeNumber_24 : decode cX6_isFreeNumber 24 = .ok (.iconst 1, 1) := by decide +kernel
theorem dX6_isFreeNumber_25 : decode cX6_isFreeNumber 25 = .ok (.goto 4, 3) := by decide +kernel
theorem dX6_isFreeNumber_28 : decode cX6_isFreeNumber 28 = .ok (.iconst 0, 1) := by decide +kernel
theorem dX6_isFreeNumber_29 : decode cX6_isFreeNumber 29 = .ok (.ireturn, 1) := by decide +kernel
theorem dX6_keepIfRefused_0 : decode cX6_keepIfRefused 0 = .ok (.iload_n 1, 1) := by decide +kernel
theorem dX6_keepIfRefused_1 : decode cX6_keepIfRefused 1 = .ok (.ifCond .ne 5, 3) := by decide +kernel
theorem dX6_keepIfRefused_4 : decode cX6_keepIfRefused 4 = .ok (.iconst 0, 1) := by decide +kernel
theorem dX6_keepIfRefused_5 : decode cX6_keepIfRefused 5 = .ok (.ireturn, 1) := by decide +kernel
theorem dX6_keepIfRefused_6 : decode cX6_keepIfRefused 6 = .ok (.aload_n 0, 1) := by decide +kernel
theorem dX6_keepIfRefused_7 : decode cX6_keepIfRefused 7 = .ok (.iload_n 1, 1) := by decide +kernel
theorem dX6_keepIfRefused_8 : decode cX6_keepIfRefused 8 = .ok (.putfield 33, 3) := by decide +kernel
theorem dX6_keepIfRefused_11 : decode cX6_keepIfRefused 11 = .ok (.iconst 1, 1) := by decide +kernel
theorem dX6_keepIfRefused_12 : decode cX6_keepIfRefused 12 = .ok (.ireturn, 1) := by decide +kernel
theorem dX6_performEntry_0 : decode cX6_performEntry 0 = .ok (.aload_n 0, 1) := by decide +kernel
theorem dX6_performEntry_1 : decode cX6_performEntry 1 = .ok (.getfield 29, 3) := by decide +kernel
theorem dX6_performEntry_4 : decode cX6_performEntry 4 = .ok (.getfield 366, 3) := by decide +kernel
theorem dX6_performEntry_7 : decode cX6_performEntry 7 = .ok (.iconst 0, 1) := by decide +kernel
theorem dX6_performEntry_8 : decode cX6_performEntry 8 = .ok (.iaload, 1) := by decide +kernel
theorem dX6_performEntry_9 : decode cX6_performEntry 9 = .ok (.istore_n 1, 1) := by decide +kernel
theorem dX6_performEntry_10 : decode cX6_performEntry 10 = .ok (.aload_n 0, 1) := by decide +kernel
theorem dX6_performEntry_11 : decode cX6_performEntry 11 = .ok (.getfield 10, 3) := by decide +kernel
theorem dX6_performEntry_14 : decode cX6_performEntry 14 = .ok (.getfield 40, 3) := by decide +kernel
theorem dX6_performEntry_17 : decode cX6_performEntry 17 = .ok (.iload_n 1, 1) := by decide +kernel
theorem dX6_performEntry_18 : decode cX6_performEntry 18 = .ok (.invokevirtual 79, 3) := by decide +kernel
theorem dX6_performEntry_21 : decode cX6_performEntry 21 = .ok (.istore_n 2, 1) := by decide +kernel
theorem dX6_performEntry_22 : decode cX6_performEntry 22 = .ok (.aload_n 0, 1) := by decide +kernel
theorem dX6_performEntry_23 : decode cX6_performEntry 23 = .ok (.getfield 29, 3) := by decide +kernel
theorem dX6_performEntry_26 : decode cX6_performEntry 26 = .ok (.getfield 369, 3) := by decide +kernel
theorem dX6_performEntry_29 : decode cX6_performEntry 29 = .ok (.tableswitch 265 99 120 #[103, 265, 265, 265, 236, 265, 265, 241, 265, 265, 265, 265, 265, 265, 265, 193, 127, 259, 265, 265, 265, 109], 103) := by decide +kernel
theorem dX6_performEntry_132 : decode cX6_performEntry 132 = .ok (.aload_n 0, 1) := by decide +kernel
theorem dX6_performEntry_133 : decode cX6_performEntry 133 = .ok (.iload_n 1, 1) := by decide +kernel
theorem dX6_performEntry_134 : decode cX6_performEntry 134 = .ok (.invokevirtual 373, 3) := by decide +kernel
theorem dX6_performEntry_137 : decode cX6_performEntry 137 = .ok (.ireturn, 1) := by decide +kernel
theorem dX6_performEntry_138 : decode cX6_performEntry 138 = .ok (.iload_n 2, 1) := by decide +kernel
theorem dX6_performEntry_139 : decode cX6_performEntry 139 = .ok (.ifCond .lt 15, 3) := by decide +kernel
theorem dX6_performEntry_142 : decode cX6_performEntry 142 = .ok (.aload_n 0, 1) := by decide +kernel
theorem dX6_performEntry_143 : decode cX6_performEntry 143 = .ok (.iload_n 2, 1) := by decide +kernel
theorem dX6_performEntry_144 : decode cX6_performEntry 144 = .ok (.invokevirtual 376, 3) := by decide +kernel
theorem dX6_performEntry_147 : decode cX6_performEntry 147 = .ok (.ifCond .eq 7, 3) := by decide +kernel
theorem dX6_performEntry_150 : decode cX6_performEntry 150 = .ok (.iconst 1, 1) := by decide +kernel
theorem dX6_performEntry_151 : decode cX6_performEntry 151 = .ok (.goto 4, 3) := by decide +kernel
theorem dX6_performEntry_154 : decode cX6_performEntry 154 = .ok (.iconst 0, 1) := by decide +kernel
theorem dX6_performEntry_155 : decode cX6_performEntry 155 = .ok (.ireturn, 1) := by decide +kernel
theorem dX6_performEntry_156 : decode cX6_performEntry 156 = .ok (.iload_n 2, 1) := by decide +kernel
theorem dX6_performEntry_157 : decode cX6_performEntry 157 = .ok (.ifCond .lt 63, 3) := by decide +kernel
theorem dX6_performEntry_160 : decode cX6_performEntry 160 = .ok (.aload_n 0, 1) := by decide +kernel
theorem dX6_performEntry_161 : decode cX6_performEntry 161 = .ok (.getfield 29, 3) := by decide +kernel
theorem dX6_performEntry_164 : decode cX6_performEntry 164 = .ok (.getfield 366, 3) := by decide +kernel
theorem dX6_performEntry_167 : decode cX6_performEntry 167 = .ok (.iconst 1, 1) := by decide +kernel
theorem dX6_performEntry_168 : decode cX6_performEntry 168 = .ok (.iaload, 1) := by decide +kernel
theorem dX6_performEntry_169 : decode cX6_performEntry 169 = .ok (.invokestatic 159, 3) := by decide +kernel
theorem dX6_performEntry_172 : decode cX6_performEntry 172 = .ok (.ifCond .eq 48, 3) := by decide +kernel
theorem dX6_performEntry_175 : decode cX6_performEntry 175 = .ok (.aload_n 0, 1) := by decide +kernel
theorem dX6_performEntry_176 : decode cX6_performEntry 176 = .ok (.getfield 29, 3) := by decide +kernel
theorem dX6_performEntry_179 : decode cX6_performEntry 179 = .ok (.getfield 366, 3) := by decide +kernel
theorem dX6_performEntry_182 : decode cX6_performEntry 182 = .ok (.iconst 2, 1) := by decide +kernel
theorem dX6_performEntry_183 : decode cX6_performEntry 183 = .ok (.iaload, 1) := by decide +kernel
theorem dX6_performEntry_184 : decode cX6_performEntry 184 = .ok (.invokestatic 164, 3) := by decide +kernel
theorem dX6_performEntry_187 : decode cX6_performEntry 187 = .ok (.ifCond .eq 33, 3) := by decide +kernel
theorem dX6_performEntry_190 : decode cX6_performEntry 190 = .ok (.aload_n 0, 1) := by decide +kernel
theorem dX6_performEntry_191 : decode cX6_performEntry 191 = .ok (.iload_n 2, 1) := by decide +kernel
theorem dX6_performEntry_192 : decode cX6_performEntry 192 = .ok (.aload_n 0, 1) := by decide +kernel
theorem dX6_performEntry_193 : decode cX6_performEntry 193 = .ok (.getfield 29, 3) := by decide +kernel
theorem dX6_performEntry_196 : decode cX6_performEntry 196 = .ok (.getfield 366, 3) := by decide +kernel
theorem dX6_performEntry_199 : decode cX6_performEntry 199 = .ok (.iconst 1, 1) := by decide +kernel
theorem dX6_performEntry_200 : decode cX6_performEntry 200 = .ok (.iaload, 1) := by decide +kernel
theorem dX6_performEntry_201 : decode cX6_performEntry 201 = .ok (.aload_n 0, 1) := by decide +kernel
theorem dX6_performEntry_202 : decode cX6_performEntry 202 = .ok (.getfield 29, 3) := by decide +kernel
theorem dX6_performEntry_205 : decode cX6_performEntry 205 = .ok (.getfield 366, 3) := by decide +kernel
theorem dX6_performEntry_208 : decode cX6_performEntry 208 = .ok (.iconst 2, 1) := by decide +kernel
theorem dX6_performEntry_209 : decode cX6_performEntry 209 = .ok (.iaload, 1) := by decide +kernel
theorem dX6_performEntry_210 : decode cX6_performEntry 210 = .ok (.invokevirtual 379, 3) := by decide +kernel
theorem dX6_performEntry_213 : decode cX6_performEntry 213 = .ok (.ifCond .eq 7, 3) := by decide +kernel
theorem dX6_performEntry_216 : decode cX6_performEntry 216 = .ok (.iconst 1, 1) := by decide +kernel
theorem dX6_performEntry_217 : decode cX6_performEntry 217 = .ok (.goto 4, 3) := by decide +kernel
theorem dX6_performEntry_220 : decode cX6_performEntry 220 = .ok (.iconst 0, 1) := by decide +kernel
theorem dX6_performEntry_221 : decode cX6_performEntry 221 = .ok (.ireturn, 1) := by decide +kernel
theorem dX6_performEntry_222 : decode cX6_performEntry 222 = .ok (.iload_n 2, 1) := by decide +kernel
theorem dX6_performEntry_223 : decode cX6_performEntry 223 = .ok (.ifCond .lt 40, 3) := by decide +kernel
theorem dX6_performEntry_226 : decode cX6_performEntry 226 = .ok (.aload_n 0, 1) := by decide +kernel
theorem dX6_performEntry_227 : decode cX6_performEntry 227 = .ok (.getfield 29, 3) := by decide +kernel
theorem dX6_performEntry_230 : decode cX6_performEntry 230 = .ok (.getfield 366, 3) := by decide +kernel
theorem dX6_performEntry_233 : decode cX6_performEntry 233 = .ok (.iconst 1, 1) := by decide +kernel
theorem dX6_performEntry_234 : decode cX6_performEntry 234 = .ok (.iaload, 1) := by decide +kernel
theorem dX6_performEntry_235 : decode cX6_performEntry 235 = .ok (.invokestatic 159, 3) := by decide +kernel
theorem dX6_performEntry_238 : decode cX6_performEntry 238 = .ok (.ifCond .eq 25, 3) := by decide +kernel
theorem dX6_performEntry_241 : decode cX6_performEntry 241 = .ok (.aload_n 0, 1) := by decide +kernel
theorem dX6_performEntry_242 : decode cX6_performEntry 242 = .ok (.iload_n 2, 1) := by decide +kernel
theorem dX6_performEntry_243 : decode cX6_performEntry 243 = .ok (.aload_n 0, 1) := by decide +kernel
theorem dX6_performEntry_244 : decode cX6_performEntry 244 = .ok (.getfield 29, 3) := by decide +kernel
theorem dX6_performEntry_247 : decode cX6_performEntry 247 = .ok (.getfield 366, 3) := by decide +kernel
theorem dX6_performEntry_250 : decode cX6_performEntry 250 = .ok (.iconst 1, 1) := by decide +kernel
theorem dX6_performEntry_251 : decode cX6_performEntry 251 = .ok (.iaload, 1) := by decide +kernel
theorem dX6_performEntry_252 : decode cX6_performEntry 252 = .ok (.iconst (-1), 1) := by decide +kernel
theorem dX6_performEntry_253 : decode cX6_performEntry 253 = .ok (.invokevirtual 379, 3) := by decide +kernel
theorem dX6_performEntry_256 : decode cX6_performEntry 256 = .ok (.ifCond .eq 7, 3) := by decide +kernel
theorem dX6_performEntry_259 : decode cX6_performEntry 259 = .ok (.iconst 1, 1) := by decide +kernel
theorem dX6_performEntry_260 : decode cX6_performEntry 260 = .ok (.goto 4, 3) := by decide +kernel
theorem dX6_performEntry_263 : decode cX6_performEntry 263 = .ok (.iconst 0, 1) := by decide +kernel
theorem dX6_performEntry_264 : decode cX6_performEntry 264 = .ok (.ireturn, 1) := by decide +kernel
theorem dX6_performEntry_265 : decode cX6_performEntry 265 = .ok (.aload_n 0, 1) := by decide +kernel
theorem dX6_performEntry_266 : decode cX6_performEntry 266 = .ok (.invokevirtual 382, 3) := by decide +kernel
theorem dX6_performEntry_269 : decode cX6_performEntry 269 = .ok (.ireturn, 1) := by decide +kernel
theorem dX6_performEntry_270 : decode cX6_performEntry 270 = .ok (.iload_n 2, 1) := by decide +kernel
theorem dX6_performEntry_271 : decode cX6_performEntry 271 = .ok (.ifCond .lt 15, 3) := by decide +kernel
theorem dX6_performEntry_274 : decode cX6_performEntry 274 = .ok (.aload_n 0, 1) := by decide +kernel
theorem dX6_performEntry_275 : decode cX6_performEntry 275 = .ok (.iload_n 2, 1) := by decide +kernel
theorem dX6_performEntry_276 : decode cX6_performEntry 276 = .ok (.invokevirtual 385, 3) := by decide +kernel
theorem dX6_performEntry_279 : decode cX6_performEntry 279 = .ok (.ifCond .eq 7, 3) := by decide +kernel
theorem dX6_performEntry_282 : decode cX6_performEntry 282 = .ok (.iconst 1, 1) := by decide +kernel
theorem dX6_performEntry_283 : decode cX6_performEntry 283 = .ok (.goto 4, 3) := by decide +kernel
theorem dX6_performEntry_286 : decode cX6_performEntry 286 = .ok (.iconst 0, 1) := by decide +kernel
theorem dX6_performEntry_287 : decode cX6_performEntry 287 = .ok (.ireturn, 1) := by decide +kernel
theorem dX6_performEntry_288 : decode cX6_performEntry 288 = .ok (.aload_n 0, 1) := by decide +kernel
theorem dX6_performEntry_289 : decode cX6_performEntry 289 = .ok (.iload_n 1, 1) := by decide +kernel
theorem dX6_performEntry_290 : decode cX6_performEntry 290 = .ok (.invokevirtual 388, 3) := by decide +kernel
theorem dX6_performEntry_293 : decode cX6_performEntry 293 = .ok (.ireturn, 1) := by decide +kernel
theorem dX6_performEntry_294 : decode cX6_performEntry 294 = .ok (.iconst 0, 1) := by decide +kernel
theorem dX6_performEntry_295 : decode cX6_performEntry 295 = .ok (.ireturn, 1) := by decide +kernel
theorem dX6_performAdd_0 : decode cX6_performAdd 0 = .ok (.aload_n 0, 1) := by decide +kernel
theorem dX6_performAdd_1 : decode cX6_performAdd 1 = .ok (.iload_n 1, 1) := by decide +kernel
theorem dX6_performAdd_2 : decode cX6_performAdd 2 = .ok (.invokevirtual 55, 3) := by decide +kernel
theorem dX6_performAdd_5 : decode cX6_performAdd 5 = .ok (.ifCond .eq 18, 3) := by decide +kernel
theorem dX6_performAdd_8 : decode cX6_performAdd 8 = .ok (.aload_n 0, 1) := by decide +kernel
theorem dX6_performAdd_9 : decode cX6_performAdd 9 = .ok (.getfield 10, 3) := by decide +kernel
theorem dX6_performAdd_12 : decode cX6_performAdd 12 = .ok (.getfield 40, 3) := by decide +kernel
theorem dX6_performAdd_15 : decode cX6_performAdd 15 = .ok (.getfield 44, 3) := by decide +kernel
theorem dX6_performAdd_18 : decode cX6_performAdd 18 = .ok (.bipush 12, 2) := by decide +kernel
theorem dX6_performAdd_20 : decode cX6_performAdd 20 = .ok (.if_icmp .lt 5, 3) := by decide +kernel
theorem dX6_performAdd_23 : decode cX6_performAdd 23 = .ok (.iconst 0, 1) := by decide +kernel
theorem dX6_performAdd_24 : decode cX6_performAdd 24 = .ok (.ireturn, 1) := by decide +kernel
theorem dX6_performAdd_25 : decode cX6_performAdd 25 = .ok (.aload_n 0, 1) := by decide +kernel
theorem dX6_performAdd_26 : decode cX6_performAdd 26 = .ok (.getfield 10, 3) := by decide +kernel
theorem dX6_performAdd_29 : decode cX6_performAdd 29 = .ok (.getfield 40, 3) := by decide +kernel
theorem dX6_performAdd_32 : decode cX6_performAdd 32 = .ok (.iload_n 1, 1) := by decide +kernel
theorem dX6_performAdd_33 : decode cX6_performAdd 33 = .ok (.invokevirtual 75, 3) := by decide +kernel
theorem dX6_performAdd_36 : decode cX6_performAdd 36 = .ok (.iconst 1, 1) := by decide +kernel
theorem dX6_performAdd_37 : decode cX6_performAdd 37 = .ok (.ireturn, 1) := by decide +kernel
theorem dX6_performRemove_0 : decode cX6_performRemove 0 = .ok (.aload_n 0, 1) := by decide +kernel
theorem dX6_performRemove_1 : decode cX6_performRemove 1 = .ok (.aload_n 0, 1) := by decide +kernel
theorem dX6_performRemove_2 : decode cX6_performRemove 2 = .ok (.getfield 10, 3) := by decide +kernel
theorem dX6_performRemove_5 : decode cX6_performRemove 5 = .ok (.getfield 40, 3) := by decide +kernel
theorem dX6_performRemove_8 : decode cX6_performRemove 8 = .ok (.iload_n 1, 1) := by decide +kernel
theorem dX6_performRemove_9 : decode cX6_performRemove 9 = .ok (.iconst 0, 1) := by decide +kernel
theorem dX6_performRemove_10 : decode cX6_performRemove 10 = .ok (.invokevirtual 88, 3) := by decide +kernel
theorem dX6_performRemove_13 : decode cX6_performRemove 13 = .ok (.invokevirtual 92, 3) := by decide +kernel
theorem dX6_performRemove_16 : decode cX6_performRemove 16 = .ok (.ifCond .eq 5, 3) := by decide +kernel
theorem dX6_performRemove_19 : decode cX6_performRemove 19 = .ok (.iconst 0, 1) := by decide +kernel
theorem dX6_performRemove_20 : decode cX6_performRemove 20 = .ok (.ireturn, 1) := by decide +kernel
theorem dX6_performRemove_21 : decode cX6_performRemove 21 = .ok (.aload_n 0, 1) := by decide +kernel
theorem dX6_performRemove_22 : decode cX6_performRemove 22 = .ok (.getfield 10, 3) := by decide +kernel
theorem dX6_performRemove_25 : decode cX6_performRemove 25 = .ok (.getfield 40, 3) := by decide +kernel
theorem dX6_performRemove_28 : decode cX6_performRemove 28 = .ok (.iload_n 1, 1) := by decide +kernel
theorem dX6_performRemove_29 : decode cX6_performRemove 29 = .ok (.iconst 0, 1) := by decide +kernel
theorem dX6_performRemove_30 : decode cX6_performRemove 30 = .ok (.invokevirtual 100, 3) := by decide +kernel
theorem dX6_performRemove_33 : decode cX6_performRemove 33 = .ok (.pop, 1) := by decide +kernel
theorem dX6_performRemove_34 : decode cX6_performRemove 34 = .ok (.iconst 1, 1) := by decide +kernel
theorem dX6_performRemove_35 : decode cX6_performRemove 35 = .ok (.ireturn, 1) := by decide +kernel
theorem dX6_performGive_0 : decode cX6_performGive 0 = .ok (.aload_n 0, 1) := by decide +kernel
theorem dX6_performGive_1 : decode cX6_performGive 1 = .ok (.aload_n 0, 1) := by decide +kernel
theorem dX6_performGive_2 : decode cX6_performGive 2 = .ok (.getfield 10, 3) := by decide +kernel
theorem dX6_performGive_5 : decode cX6_performGive 5 = .ok (.getfield 40, 3) := by decide +kernel
theorem dX6_performGive_8 : decode cX6_performGive 8 = .ok (.iload_n 1, 1) := by decide +kernel
theorem dX6_performGive_9 : decode cX6_performGive 9 = .ok (.iload_n 2, 1) := by decide +kernel
theorem dX6_performGive_10 : decode cX6_performGive 10 = .ok (.iload_n 3, 1) := by decide +kernel
theorem dX6_performGive_11 : decode cX6_performGive 11 = .ok (.iconst 0, 1) := by decide +kernel
theorem dX6_performGive_12 : decode cX6_performGive 12 = .ok (.invokevirtual 175, 3) := by decide +kernel
theorem dX6_performGive_15 : decode cX6_performGive 15 = .ok (.invokevirtual 92, 3) := by decide +kernel
theorem dX6_performGive_18 : decode cX6_performGive 18 = .ok (.ifCond .eq 5, 3) := by decide +kernel
theorem dX6_performGive_21 : decode cX6_performGive 21 = .ok (.iconst 0, 1) := by decide +kernel
theorem dX6_performGive_22 : decode cX6_performGive 22 = .ok (.ireturn, 1) := by decide +kernel
theorem dX6_performGive_23 : decode cX6_performGive 23 = .ok (.aload_n 0, 1) := by decide +kernel
theorem dX6_performGive_24 : decode cX6_performGive 24 = .ok (.getfield 10, 3) := by decide +kernel
theorem dX6_performGive_27 : decode cX6_performGive 27 = .ok (.getfield 40, 3) := by decide +kernel
theorem dX6_performGive_30 : decode cX6_performGive 30 = .ok (.iload_n 1, 1) := by decide +kernel
theorem dX6_performGive_31 : decode cX6_performGive 31 = .ok (.iload_n 2, 1) := by decide +kernel
theorem dX6_performGive_32 : decode cX6_performGive 32 = .ok (.iload_n 3, 1) := by decide +kernel
theorem dX6_performGive_33 : decode cX6_performGive 33 = .ok (.iconst 0, 1) := by decide +kernel
theorem dX6_performGive_34 : decode cX6_performGive 34 = .ok (.iconst 0, 1) := by decide +kernel
theorem dX6_performGive_35 : decode cX6_performGive 35 = .ok (.invokevirtual 179, 3) := by decide +kernel
theorem dX6_performGive_38 : decode cX6_performGive 38 = .ok (.pop, 1) := by decide +kernel
theorem dX6_performGive_39 : decode cX6_performGive 39 = .ok (.iconst 1, 1) := by decide +kernel
theorem dX6_performGive_40 : decode cX6_performGive 40 = .ok (.ireturn, 1) := by decide +kernel
theorem dX6_performGo_0 : decode cX6_performGo 0 = .ok (.aload_n 0, 1) := by decide +kernel
theorem dX6_performGo_1 : decode cX6_performGo 1 = .ok (.getfield 10, 3) := by decide +kernel
theorem dX6_performGo_4 : decode cX6_performGo 4 = .ok (.getfield 223, 3) := by decide +kernel
theorem dX6_performGo_7 : decode cX6_performGo 7 = .ok (.aload_n 0, 1) := by decide +kernel
theorem dX6_performGo_8 : decode cX6_performGo 8 = .ok (.getfield 10, 3) := by decide +kernel
theorem dX6_performGo_11 : decode cX6_performGo 11 = .ok (.getfield 40, 3) := by decide +kernel
theorem dX6_performGo_14 : decode cX6_performGo 14 = .ok (.invokevirtual 227, 3) := by decide +kernel
theorem dX6_performGo_17 : decode cX6_performGo 17 = .ok (.istore_n 1, 1) := by decide +kernel
theorem dX6_performGo_18 : decode cX6_performGo 18 = .ok (.iload_n 1, 1) := by decide +kernel
theorem dX6_performGo_19 : decode cX6_performGo 19 = .ok (.ifCond .ge 10, 3) := by decide +kernel
theorem dX6_performGo_22 : decode cX6_performGo 22 = .ok (.aload_n 0, 1) := by decide +kernel
theorem dX6_performGo_23 : decode cX6_performGo 23 = .ok (.iconst 4, 1) := by decide +kernel
theorem dX6_performGo_24 : decode cX6_performGo 24 = .ok (.putfield 33, 3) := by decide +kernel
theorem dX6_performGo_27 : decode cX6_performGo 27 = .ok (.iconst 0, 1) := by decide +kernel
theorem dX6_performGo_28 : decode cX6_performGo 28 = .ok (.ireturn, 1) := by decide +kernel
theorem dX6_performGo_29 : decode cX6_performGo 29 = .ok (.aload_n 0, 1) := by decide +kernel
theorem dX6_performGo_30 : decode cX6_performGo 30 = .ok (.getfield 10, 3) := by decide +kernel
theorem dX6_performGo_33 : decode cX6_performGo 33 = .ok (.getfield 223, 3) := by decide +kernel
theorem dX6_performGo_36 : decode cX6_performGo 36 = .ok (.aload_n 0, 1) := by decide +kernel
theorem dX6_performGo_37 : decode cX6_performGo 37 = .ok (.getfield 10, 3) := by decide +kernel
theorem dX6_performGo_40 : decode cX6_performGo 40 = .ok (.getfield 40, 3) := by decide +kernel
theorem dX6_performGo_43 : decode cX6_performGo 43 = .ok (.iload_n 1, 1) := by decide +kernel
theorem dX6_performGo_44 : decode cX6_performGo 44 = .ok (.invokevirtual 235, 3) := by decide +kernel
theorem dX6_performGo_47 : decode cX6_performGo 47 = .ok (.pop, 1) := by decide +kernel
theorem dX6_performGo_48 : decode cX6_performGo 48 = .ok (.iconst 1, 1) := by decide +kernel
theorem dX6_performGo_49 : decode cX6_performGo 49 = .ok (.ireturn, 1) := by decide +kernel
theorem dX6_performJump_0 : decode cX6_performJump 0 = .ok (.aload_n 0, 1) := by decide +kernel
theorem dX6_performJump_1 : decode cX6_performJump 1 = .ok (.getfield 10, 3) := by decide +kernel
theorem dX6_performJump_4 : decode cX6_performJump 4 = .ok (.getfield 223, 3) := by decide +kernel
theorem dX6_performJump_7 : decode cX6_performJump 7 = .ok (.aload_n 0, 1) := by decide +kernel
theorem dX6_performJump_8 : decode cX6_performJump 8 = .ok (.getfield 10, 3) := by decide +kernel
theorem dX6_performJump_11 : decode cX6_performJump 11 = .ok (.getfield 40, 3) := by decide +kernel
theorem dX6_performJump_14 : decode cX6_performJump 14 = .ok (.iload_n 1, 1) := by decide +kernel
theorem dX6_performJump_15 : decode cX6_performJump 15 = .ok (.invokevirtual 235, 3) := by decide +kernel
theorem dX6_performJump_18 : decode cX6_performJump 18 = .ok (.pop, 1) := by decide +kernel
theorem dX6_performJump_19 : decode cX6_performJump 19 = .ok (.iconst 1, 1) := by decide +kernel
theorem dX6_performJump_20 : decode cX6_performJump 20 = .ok (.ireturn, 1) := by decide +kernel
theorem dX6_performPass_0 : decode cX6_performPass 0 = .ok (.iload_n 1, 1) := by decide +kernel
theorem dX6_performPass_1 : decode cX6_performPass 1 = .ok (.iconst 0, 1) := by decide +kernel
theorem dX6_performPass_2 : decode cX6_performPass 2 = .ok (.sipush 6000, 3) := by decide +kernel
theorem dX6_performPass_5 : decode cX6_performPass 5 = .ok (.invokestatic 117, 3) := by decide +kernel
theorem dX6_performPass_8 : decode cX6_performPass 8 = .ok (.ifCond .eq 17, 3) := by decide +kernel
theorem dX6_performPass_11 : decode cX6_performPass 11 = .ok (.aload_n 0, 1) := by decide +kernel
theorem dX6_performPass_12 : decode cX6_performPass 12 = .ok (.getfield 10, 3) := by decide +kernel
theorem dX6_performPass_15 : decode cX6_performPass 15 = .ok (.getfield 223, 3) := by decide +kernel
theorem dX6_performPass_18 : decode cX6_performPass 18 = .ok (.iload_n 1, 1) := by decide +kernel
theorem dX6_performPass_19 : decode cX6_performPass 19 = .ok (.invokevirtual 244, 3) := by decide +kernel
theorem dX6_performPass_22 : decode cX6_performPass 22 = .ok (.ifCond .ne 5, 3) := by decide +kernel
theorem dX6_performPass_25 : decode cX6_performPass 25 = .ok (.iconst 0, 1) := by decide +kernel
theorem dX6_performPass_26 : decode cX6_performPass 26 = .ok (.ireturn, 1) := by decide +kernel
theorem dX6_performPass_27 : decode cX6_performPass 27 = .ok (.aload_n 0, 1) := by decide +kernel
theorem dX6_performPass_28 : decode cX6_performPass 28 = .ok (.getfield 10, 3) := by decide +kernel
theorem dX6_performPass_31 : decode cX6_performPass 31 = .ok (.getfield 223, 3) := by decide +kernel
theorem dX6_performPass_34 : decode cX6_performPass 34 = .ok (.aload_n 0, 1) := by decide +kernel
theorem dX6_performPass_35 : decode cX6_performPass 35 = .ok (.getfield 10, 3) := by decide +kernel
theorem dX6_performPass_38 : decode cX6_performPass 38 = .ok (.getfield 40, 3) := by decide +kernel
theorem dX6_performPass_41 : decode cX6_performPass 41 = .ok (.iload_n 1, 1) := by decide +kernel
theorem dX6_performPass_42 : decode cX6_performPass 42 = .ok (.invokevirtual 249, 3) := by decide +kernel
theorem dX6_performPass_45 : decode cX6_performPass 45 = .ok (.pop, 1) := by decide +kernel
theorem dX6_performPass_46 : decode cX6_performPass 46 = .ok (.iconst 1, 1) := by decide +kernel
theorem dX6_performPass_47 : decode cX6_performPass 47 = .ok (.ireturn, 1) := by decide +kernel
