theorem dX7_init_0 : decode cX7_init 0 = .ok (.aload_n 0, 1) := by decide +kernel
theorem dX7_init_1 : decode cX7_init 1 = .ok (.invokespecial 3, 3) := by decide +kernel
theorem dX7_init_4 : decode cX7_init 4 = .ok (.aload_n 0, 1) := by decide +kernel
theorem dX7_init_5 : decode cX7_init 5 = .ok (.sipush 462, 3) := by decide +kernel
theorem dX7_init_8 : decode cX7_init 8 = .ok (.newarray .int, 2) := by decide +kernel
theorem dX7_init_10 : decode cX7_init 10 = .ok (.putfield 9, 3) := by decide +kernel
theorem dX7_init_13 : decode cX7_init 13 = .ok (.aload_n 0, 1) := by decide +kernel
theorem dX7_init_14 : decode cX7_init 14 = .ok (.sipush 462, 3) := by decide +kernel
theorem dX7_init_17 : decode cX7_init 17 = .ok (.newarray .int, 2) := by decide +kernel
theorem dX7_init_19 : decode cX7_init 19 = .ok (.putfield 13, 3) := by decide +kernel
theorem dX7_init_22 : decode cX7_init 22 = .ok (.aload_n 0, 1) := by decide +kernel
theorem dX7_init_23 : decode cX7_init 23 = .ok (.sipush 462, 3) := by decide +kernel
theorem dX7_init_26 : decode cX7_init 26 = .ok (.newarray .int, 2) := by decide +kernel
theorem dX7_init_28 : decode cX7_init 28 = .ok (.putfield 16, 3) := by decide +kernel
theorem dX7_init_31 : decode cX7_init 31 = .ok (.aload_n 0, 1) := by decide +kernel
theorem dX7_init_32 : decode cX7_init 32 = .ok (.sipush 2772, 3) := by decide +kernel
theorem dX7_init_35 : decode cX7_init 35 = .ok (.newarray .int, 2) := by decide +kernel
theorem dX7_init_37 : decode cX7_init 37 = .ok (.putfield 19, 3) := by decide +kernel
theorem dX7_init_40 : decode cX7_init 40 = .ok (.aload_n 0, 1) := by decide +kernel
theorem dX7_init_41 : decode cX7_init 41 = .ok (.sipush 144, 3) := by decide +kernel
theorem dX7_init_44 : decode cX7_init 44 = .ok (.newarray .int, 2) := by decide +kernel
theorem dX7_init_46 : decode cX7_init 46 = .ok (.putfield 22, 3) := by decide +kernel
theorem dX7_init_49 : decode cX7_init 49 = .ok (.aload_n 0, 1) := by decide +kernel
theorem dX7_init_50 : decode cX7_init 50 = .ok (.bipush 60, 2) := by decide +kernel
theorem dX7_init_52 : decode cX7_init 52 = .ok (.newarray .char, 2) := by decide +kernel
theorem dX7_init_54 : decode cX7_init 54 = .ok (.putfield 25, 3) := by decide +kernel
theorem dX7_init_57 : decode cX7_init 57 = .ok (.aload_n 0, 1) := by decide +kernel
theorem dX7_init_58 : decode cX7_init 58 = .ok (.iconst (-1), 1) := by decide +kernel
theorem dX7_init_59 : decode cX7_init 59 = .ok (.putfield 29, 3) := by decide +kernel
theorem dX7_init_62 : decode cX7_init 62 = .ok (.aload_n 0, 1) := by decide +kernel
theorem dX7_init_63 : decode cX7_init 63 = .ok (.bipush 60, 2) := by decide +kernel
theorem dX7_init_65 : decode cX7_init 65 = .ok (.newarray .char, 2) := by decide +kernel
theorem dX7_init_67 : decode cX7_init 67 = .ok (.putfield 33, 3) := by decide +kernel
theorem dX7_init_70 : decode cX7_init 70 = .ok (.aload_n 0, 1) := by decide +kernel
theorem dX7_init_71 : decode cX7_init 71 = .ok (.sipush 180, 3) := by decide +kernel
theorem dX7_init_74 : decode cX7_init 74 = .ok (.newarray .int, 2) := by decide +kernel
theorem dX7_init_76 : decode cX7_init 76 = .ok (.putfield 36, 3) := by decide +kernel
theorem dX7_init_79 : decode cX7_init 79 = .ok (.aload_n 0, 1) := by decide +kernel
theorem dX7_init_80 : decode cX7_init 80 = .ok (.invokevirtual 39, 3) := by decide +kernel
theorem dX7_init_83 : decode cX7_init 83 = .ok (.return_, 1) := by decide +kernel
theorem dX7_thrown_0 : decode cX7_thrown 0 = .ok (.aload_n 0, 1) := by decide +kernel
theorem dX7_thrown_1 : decode cX7_thrown 1 = .ok (.getfield 42, 3) := by decide +kernel
theorem dX7_thrown_4 : decode cX7_thrown 4 = .ok (.ireturn, 1) := by decide +kernel
theorem dX7_in_0 : decode cX7_in 0 = .ok (.iload_n 0, 1) := by decide +kernel
theorem dX7_in_1 : decode cX7_in 1 = .ok (.iload_n 1, 1) := by decide +kernel
theorem dX7_in_2 : decode cX7_in 2 = .ok (.if_icmp .lt 12, 3) := by decide +kernel
theorem dX7_in_5 : decode cX7_in 5 = .ok (.iload_n 0, 1) := by decide +kernel
theorem dX7_in_6 : decode cX7_in 6 = .ok (.iload_n 2, 1) := by decide +kernel
theorem dX7_in_7 : decode cX7_in 7 = .ok (.if_icmp .gt 7, 3) := by decide +kernel
theorem dX7_in_10 : decode cX7_in 10 = .ok (.iconst 1, 1) := by decide +kernel
theorem dX7_in_11 : decode cX7_in 11 = .ok (.goto 4, 3) := by decide +kernel
theorem dX7_in_14 : decode cX7_in 14 = .ok (.iconst 0, 1) := by decide +kernel
theorem dX7_in_15 : decode cX7_in 15 = .ok (.ireturn, 1) := by decide +kernel
theorem dX7_begin_0 : decode cX7_begin 0 = .ok (.iconst 0, 1) := by decide +kernel
theorem dX7_begin_1 : decode cX7_begin 1 = .ok (.istore_n 1, 1) := by decide +kernel
theorem dX7_begin_2 : decode cX7_begin 2 = .ok (.iload_n 1, 1) := by decide +kernel
theorem dX7_begin_3 : decode cX7_begin 3 = .ok (.sipush 462, 3) := by decide +kernel
theorem dX7_begin_6 : decode cX7_begin 6 = .ok (.if_icmp .ge 16, 3) := by decide +kernel
theorem dX7_begin_9 : decode cX7_begin 9 = .ok (.aload_n 0, 1) := by decide +kernel
theorem dX7_begin_10 : decode cX7_begin 10 = .ok (.getfield 9, 3) := by decide +kernel
theorem dX7_begin_13 : decode cX7_begin 13 = .ok (.iload_n 1, 1) := by decide +kernel
theorem dX7_begin_14 : decode cX7_begin 14 = .ok (.iconst 0, 1) := by decide +kernel
theorem dX7_begin_15 : decode cX7_begin 15 = .ok (.iastore, 1) := by decide +kernel
theorem dX7_begin_16 : decode cX7_begin 16 = .ok (.iinc 1 1, 3) := by decide +kernel
theorem dX7_begin_19 : decode cX7_begin 19 = .ok (.goto (-17), 3) := by decide +kernel
theorem dX7_begin_22 : decode cX7_begin 22 = .ok (.aload_n 0, 1) := by decide +kernel
theorem dX7_begin_23 : decode cX7_begin 23 = .ok (.iconst 0, 1) := by decide +kernel
theorem dX7_begin_24 : decode cX7_begin 24 = .ok (.putfield 45, 3) := by decide +kernel
theorem dX7_begin_27 : decode cX7_begin 27 = .ok (.return_, 1) := by decide +kernel
theorem dX7_keepState_0 : decode cX7_keepState 0 = .ok (.aload_n 0, 1) := by decide +kernel
theorem dX7_keepState_1 : decode cX7_keepState 1 = .ok (.getfield 9, 3) := by decide +kernel
theorem dX7_keepState_4 : decode cX7_keepState 4 = .ok (.iconst 0, 1) := by decide +kernel
theorem dX7_keepState_5 : decode cX7_keepState 5 = .ok (.aload_n 0, 1) := by decide +kernel
theorem dX7_keepState_6 : decode cX7_keepState 6 = .ok (.getfield 13, 3) := by decide +kernel
theorem dX7_keepState_9 : decode cX7_keepState 9 = .ok (.iconst 0, 1) := by decide +kernel
theorem dX7_keepState_10 : decode cX7_keepState 10 = .ok (.sipush 462, 3) := by decide +kernel
theorem dX7_keepState_13 : decode cX7_keepState 13 = .ok (.invokestatic 48, 3) := by decide +kernel
theorem dX7_keepState_16 : decode cX7_keepState 16 = .ok (.return_, 1) := by decide +kernel
theorem dX7_change_0 : decode cX7_change 0 = .ok (.aload_n 0, 1) := by decide +kernel
theorem dX7_change_1 : decode cX7_change 1 = .ok (.getfield 45, 3) := by decide +kernel
theorem dX7_change_4 : decode cX7_change 4 = .ok (.bipush 6, 2) := by decide +kernel
theorem dX7_change_6 : decode cX7_change 6 = .ok (.if_icmp .ne 31, 3) := by decide +kernel
theorem dX7_change_9 : decode cX7_change 9 = .ok (.aload_n 0, 1) := by decide +kernel
theorem dX7_change_10 : decode cX7_change 10 = .ok (.getfield 19, 3) := by decide +kernel
theorem dX7_change_13 : decode cX7_change 13 = .ok (.sipush 462, 3) := by decide +kernel
theorem dX7_change_16 : decode cX7_change 16 = .ok (.aload_n 0, 1) := by decide +kernel
theorem dX7_change_17 : decode cX7_change 17 = .ok (.getfield 19, 3) := by decide +kernel
theorem dX7_change_20 : decode cX7_change 20 = .ok (.iconst 0, 1) := by decide +kernel
theorem dX7_change_21 : decode cX7_change 21 = .ok (.sipush 2310, 3) := by decide +kernel
theorem dX7_change_24 : decode cX7_change 24 = .ok (.invokestatic 48, 3) := by decide +kernel
theorem dX7_change_27 : decode cX7_change 27 = .ok (.aload_n 0, 1) := by decide +kernel
theorem dX7_change_28 : decode cX7_change 28 = .ok (.dup, 1) := by decide +kernel
theorem dX7_change_29 : decode cX7_change 29 = .ok (.getfield 45, 3) := by decide +kernel
theorem dX7_change_32 : decode cX7_change 32 = .ok (.iconst 1, 1) := by decide +kernel
theorem dX7_change_33 : decode cX7_change 33 = .ok (.isub, 1) := by decide +kernel
theorem dX7_change_34 : decode cX7_change 34 = .ok (.putfield 45, 3) := by decide +kernel
theorem dX7_change_37 : decode cX7_change 37 = .ok (.aload_n 0, 1) := by decide +kernel
theorem dX7_change_38 : decode cX7_change 38 = .ok (.getfield 13, 3) := by decide +kernel
theorem dX7_change_41 : decode cX7_change 41 = .ok (.iconst 0, 1) := by decide +kernel
theorem dX7_change_42 : decode cX7_change 42 = .ok (.aload_n 0, 1) := by decide +kernel
theorem dX7_change_43 : decode cX7_change 43 = .ok (.getfield 19, 3) := by decide +kernel
theorem dX7_change_46 : decode cX7_change 46 = .ok (.sipush 462, 3) := by decide +kernel
theorem dX7_change_49 : decode cX7_change 49 = .ok (.aload_n 0, 1) := by decide +kernel
theorem dX7_change_50 : decode cX7_change 50 = .ok (.getfield 45, 3) := by decide +kernel
theorem dX7_change_53 : decode cX7_change 53 = .ok (.imul, 1) := by decide +kernel
theorem dX7_change_54 : decode cX7_change 54 = .ok (.sipush 462, 3) := by decide +kernel
theorem dX7_change_57 : decode cX7_change 57 = .ok (.invokestatic 48, 3) := by decide +kernel
theorem dX7_change_60 : decode cX7_change 60 = .ok (.aload_n 0, 1) := by decide +kernel
theorem dX7_change_61 : decode cX7_change 61 = .ok (.dup, 1) := by decide +kernel
theorem dX7_change_62 : decode cX7_change 62 = .ok (.getfield 45, 3) := by decide +kernel
theorem dX7_change_65 : decode cX7_change 65 = .ok (.iconst 1, 1) := by decide +kernel
theorem dX7_change_66 : decode cX7_change 66 = .ok (.iadd, 1) := by decide +kernel
theorem dX7_change_67 : decode cX7_change 67 = .ok (.putfield 45, 3) := by decide +kernel
theorem dX7_change_70 : decode cX7_change 70 = .ok (.return_, 1) := by decide +kernel
theorem dX7_changes_0 : decode cX7_changes 0 = .ok (.aload_n 0, 1) := by decide +kernel
theorem dX7_changes_1 : decode cX7_changes 1 = .ok (.invokevirtual 54, 3) := by decide +kernel
theorem dX7_changes_4 : decode cX7_changes 4 = .ok (.aload_n 0, 1) := by decide +kernel
theorem dX7_changes_5 : decode cX7_changes 5 = .ok (.invokevirtual 57, 3) := by decide +kernel
theorem dX7_changes_8 : decode cX7_changes 8 = .ok (.return_, 1) := by decide +kernel
theorem dX7_refuse_0 : decode cX7_refuse 0 = .ok (.aload_n 0, 1) := by decide +kernel
theorem dX7_refuse_1 : decode cX7_refuse 1 = .ok (.iload_n 1, 1) := by decide +kernel
theorem dX7_refuse_2 : decode cX7_refuse 2 = .ok (.putfield 60, 3) := by decide +kernel
theorem dX7_refuse_5 : decode cX7_refuse 5 = .ok (.aload_n 0, 1) := by decide +kernel
theorem dX7_refuse_6 : decode cX7_refuse 6 = .ok (.getfield 13, 3) := by decide +kernel
theorem dX7_refuse_9 : decode cX7_refuse 9 = .ok (.iconst 0, 1) := by decide +kernel
theorem dX7_refuse_10 : decode cX7_refuse 10 = .ok (.aload_n 0, 1) := by decide +kernel
theorem dX7_refuse_11 : decode cX7_refuse 11 = .ok (.getfield 9, 3) := by decide +kernel
theorem dX7_refuse_14 : decode cX7_refuse 14 = .ok (.iconst 0, 1) := by decide +kernel
theorem dX7_refuse_15 : decode cX7_refuse 15 = .ok (.sipush 462, 3) := by decide +kernel
theorem dX7_refuse_18 : decode cX7_refuse 18 = .ok (.invokestatic 48, 3) := by decide +kernel
theorem dX7_refuse_21 : decode cX7_refuse 21 = .ok (.iload_n 1, 1) := by decide +kernel
theorem dX7_refuse_22 : decode cX7_refuse 22 = .ok (.ireturn, 1) := by decide +kernel
theorem dX7_clear_0 : decode cX7_clear 0 = .ok (.aload_n 0, 1) := by decide +kernel
theorem dX7_clear_1 : decode cX7_clear 1 = .ok (.iconst 0, 1) := by decide +kernel
theorem dX7_clear_2 : decode cX7_clear 2 = .ok (.putfield 42, 3) := by decide +kernel
theorem dX7_clear_5 : decode cX7_clear 5 = .ok (.aload_n 0, 1) := by decide +kernel
theorem dX7_clear_6 : decode cX7_clear 6 = .ok (.getfield 9, 3) := by decide +kernel
theorem dX7_clear_9 : decode cX7_clear 9 = .ok (.iconst 0, 1) := by decide +kernel
theorem dX7_clear_10 : decode cX7_clear 10 = .ok (.iaload, 1) := by decide +kernel
theorem dX7_clear_11 : decode cX7_clear 11 = .ok (.istore_n 1, 1) := by decide +kernel
theorem dX7_clear_12 : decode cX7_clear 12 = .ok (.aload_n 0, 1) := by decide +kernel
theorem dX7_clear_13 : decode cX7_clear 13 = .ok (.invokevirtual 39, 3) := by decide +kernel
theorem dX7_clear_16 : decode cX7_clear 16 = .ok (.iload_n 1, 1) := by decide +kernel
theorem dX7_clear_17 : decode cX7_clear 17 = .ok (.ireturn, 1) := by decide +kernel
theorem dX7_at_0 : decode cX7_at 0 = .ok (.bipush 18, 2) := by decide +kernel
theorem dX7_at_2 : decode cX7_at 2 = .ok (.bipush 12, 2) := by decide +kernel
theorem dX7_at_4 : decode cX7_at 4 = .ok (.iload_n 0, 1) := by decide +kernel
theorem dX7_at_5 : decode cX7_at 5 = .ok (.imul, 1) := by decide +kernel
theorem dX7_at_6 : decode cX7_at 6 = .ok (.iadd, 1) := by decide +kernel
theorem dX7_at_7 : decode cX7_at 7 = .ok (.ireturn, 1) := by decide +kernel
theorem dX7_placeOf_0 : decode cX7_placeOf 0 = .ok (.iconst 0, 1) := by decide +kernel
theorem dX7_placeOf_1 : decode cX7_placeOf 1 = .ok (.istore_n 2, 1) := by decide +kernel
theorem dX7_placeOf_2 : decode cX7_placeOf 2 = .ok (.iload_n 2, 1) := by decide +kernel
theorem dX7_placeOf_3 : decode cX7_placeOf 3 = .ok (.aload_n 0, 1) := by decide +kernel
theorem dX7_placeOf_4 : decode cX7_placeOf 4 = .ok (.getfield 9, 3) := by decide +kernel
theorem dX7_placeOf_7 : decode cX7_placeOf 7 = .ok (.iconst 0, 1) := by decide +kernel
theorem dX7_placeOf_8 : decode cX7_placeOf 8 = .ok (.iaload, 1) := by decide +kernel
theorem dX7_placeOf_9 : decode cX7_placeOf 9 = .ok (.if_icmp .ge 24, 3) := by decide +kernel
theorem dX7_placeOf_12 : decode cX7_placeOf 12 = .ok (.aload_n 0, 1) := by decide +kernel
theorem dX7_placeOf_13 : decode cX7_placeOf 13 = .ok (.getfield 9, 3) := by decide +kernel
theorem dX7_placeOf_16 : decode cX7_placeOf 16 = .ok (.iload_n 2, 1) := by decide +kernel
theorem dX7_placeOf_17 : decode cX7_placeOf 17 = .ok (.invokestatic 63, 3) := by decide +kernel
theorem dX7_placeOf_20 : decode cX7_placeOf 20 = .ok (.iaload, 1) := by decide +kernel
theorem dX7_placeOf_21 : decode cX7_placeOf 21 = .ok (.iload_n 1, 1) := by decide +kernel
theorem dX7_placeOf_22 : decode cX7_placeOf 22 = .ok (.if_icmp .ne 5, 3) := by decide +kernel
theorem dX7_placeOf_25 : decode cX7_placeOf 25 = .ok (.iload_n 2, 1) := by decide +kernel
theorem dX7_placeOf_26 : decode cX7_placeOf 26 = .ok (.ireturn, 1) := by decide +kernel
theorem dX7_placeOf_27 : decode cX7_placeOf 27 = .ok (.iinc 2 1, 3) := by decide +kernel
theorem dX7_placeOf_30 : decode cX7_placeOf 30 = .ok (.goto (-28), 3) := by decide +kernel
theorem dX7_placeOf_33 : decode cX7_placeOf 33 = .ok (.iconst (-1), 1) := by decide +kernel
theorem dX7_placeOf_34 : decode cX7_placeOf 34 = .ok (.ireturn, 1) := by decide +kernel
theorem dX7_isCue_0 : decode cX7_isCue 0 = .ok (.aload_n 0, 1) := by decide +kernel
theorem dX7_isCue_1 : decode cX7_isCue 1 = .ok (.iload_n 1, 1) := by decide +kernel
theorem dX7_isCue_2 : decode cX7_isCue 2 = .ok (.invokevirtual 67, 3) := by decide +kernel
theorem dX7_isCue_5 : decode cX7_isCue 5 = .ok (.ifCond .lt 7, 3) := by decide +kernel
theorem dX7_isCue_8 : decode cX7_isCue 8 = .ok (.iconst 1, 1) := by decide +kernel
theorem dX7_isCue_9 : decode cX7_isCue 9 = .ok (.goto 4, 3) := by decide +kernel
theorem dX7_isCue_12 : decode cX7_isCue 12 = .ok (.iconst 0, 1) := by decide +kernel
theorem dX7_isCue_13 : decode cX7_isCue 13 = .ok (.ireturn, 1) := by decide +kernel
theorem dX7_isBlock_0 : decode cX7_isBlock 0 = .ok (.aload_n 0, 1) := by decide +kernel
theorem dX7_isBlock_1 : decode cX7_isBlock 1 = .ok (.getfield 9, 3) := by decide +kernel
theorem dX7_isBlock_4 : decode cX7_isBlock 4 = .ok (.iload_n 1, 1) := by decide +kernel
theorem dX7_isBlock_5 : decode cX7_isBlock 5 = .ok (.invokestatic 63, 3) := by decide +kernel
theorem dX7_isBlock_8 : decode cX7_isBlock 8 = .ok (.iconst 2, 1) := by decide +kernel
theorem dX7_isBlock_9 : decode cX7_isBlock 9 = .ok (.iadd, 1) := by decide +kernel
theorem dX7_isBlock_10 : decode cX7_isBlock 10 = .ok (.iaload, 1) := by decide +kernel
theorem dX7_isBlock_11 : decode cX7_isBlock 11 = .ok (.iconst 1, 1) := by decide +kernel
theorem dX7_isBlock_12 : decode cX7_isBlock 12 = .ok (.if_icmp .ne 7, 3) := by decide +kernel
theorem dX7_isBlock_15 : decode cX7_isBlock 15 = .ok (.iconst 1, 1) := by decide +kernel
theorem dX7_isBlock_16 : decode cX7_isBlock 16 = .ok (.goto 4, 3) := by decide +kernel
theorem dX7_isBlock_19 : decode cX7_isBlock 19 = .ok (.iconst 0, 1) := by decide +kernel
theorem dX7_isBlock_20 : decode cX7_isBlock 20 = .ok (.ireturn, 1) := by decide +kernel
theorem dX7_isChannel_0 : decode cX7_isChannel 0 = .ok (.iload_n 0, 1) := by decide +kernel
theorem dX7_isChannel_1 : decode cX7_isChannel 1 = .ok (.iconst 0, 1) := by decide +kernel
theorem dX7_isChannel_2 : decode cX7_isChannel 2 = .ok (.bipush 11, 2) := by decide +kernel
theorem dX7_isChannel_4 : decode cX7_isChannel 4 = .ok (.invokestatic 70, 3) := by decide +kernel
theorem dX7_isChannel_7 : decode cX7_isChannel 7 = .ok (.ireturn, 1) := by decide +kernel
theorem dX7_isPart_0 : decode cX7_isPart 0 = .ok (.iload_n 0, 1) := by decide +kernel
theorem dX7_isPart_1 : decode cX7_isPart 1 = .ok (.iconst 0, 1) := by decide +kernel
theorem dX7_isPart_2 : decode cX7_isPart 2 = .ok (.iconst 3, 1) := by decide +kernel
theorem dX7_isPart_3 : decode cX7_isPart 3 = .ok (.invokestatic 70, 3) := by decide +kernel
theorem dX7_isPart_6 : decode cX7_isPart 6 = .ok (.ireturn, 1) := by decide +kernel
theorem dX7_doAdd_0 : decode cX7_doAdd 0 = .ok (.iload_n 1, 1) := by decide +kernel
theorem dX7_doAdd_1 : decode cX7_doAdd 1 = .ok (.iconst 1, 1) := by decide +kernel
theorem dX7_doAdd_2 : decode cX7_doAdd 2 = .ok (.bipush 99, 2) := by decide +kernel
theorem dX7_doAdd_4 : decode cX7_doAdd 4 = .ok (.invokestatic 70, 3) := by decide +kernel
theorem dX7_doAdd_7 : decode cX7_doAdd 7 = .ok (.ifCond .eq 11, 3) := by decide +kernel
theorem dX7_doAdd_10 : decode cX7_doAdd 10 = .ok (.aload_n 0, 1) := by decide +kernel
theorem dX7_doAdd_11 : decode cX7_doAdd 11 = .ok (.iload_n 1, 1) := by decide +kernel
theorem dX7_doAdd_12 : decode cX7_doAdd 12 = .ok (.invokevirtual 74, 3) := by decide +kernel
theorem dX7_doAdd_15 : decode cX7_doAdd 15 = .ok (.ifCond .eq 5, 3) := by decide +kernel
theorem dX7_doAdd_18 : decode cX7_doAdd 18 = .ok (.iconst 1, 1) := by decide +kernel
theorem dX7_doAdd_19 : decode cX7_doAdd 19 = .ok (.ireturn, 1) := by decide +kernel
theorem dX7_doAdd_20 : decode cX7_doAdd 20 = .ok (.aload_n 0, 1) := by decide +kernel
theorem dX7_doAdd_21 : decode cX7_doAdd 21 = .ok (.getfield 9, 3) := by decide +kernel
theorem dX7_doAdd_24 : decode cX7_doAdd 24 = .ok (.iconst 0, 1) := by decide +kernel
theorem dX7_doAdd_25 : decode cX7_doAdd 25 = .ok (.iaload, 1) := by decide +kernel
theorem dX7_doAdd_26 : decode cX7_doAdd 26 = .ok (.bipush 12, 2) := by decide +kernel
theorem dX7_doAdd_28 : decode cX7_doAdd 28 = .ok (.if_icmp .ne 5, 3) := by decide +kernel
theorem dX7_doAdd_31 : decode cX7_doAdd 31 = .ok (.iconst 2, 1) := by decide +kernel
theorem dX7_doAdd_32 : decode cX7_doAdd 32 = .ok (.ireturn, 1) := by decide +kernel
theorem dX7_doAdd_33 : decode cX7_doAdd 33 = .ok (.iconst 0, 1) := by decide +kernel
theorem dX7_doAdd_34 : decode cX7_doAdd 34 = .ok (.istore_n 2, 1) := by decide +kernel
theorem dX7_doAdd_35 : decode cX7_doAdd 35 = .ok (.iload_n 2, 1) := by decide +kernel
theorem dX7_doAdd_36 : decode cX7_doAdd 36 = .ok (.aload_n 0, 1) := by decide +kernel
theorem dX7_doAdd_37 : decode cX7_doAdd 37 = .ok (.getfield 9, 3) := by decide +kernel
theorem dX7_doAdd_40 : decode cX7_doAdd 40 = .ok (.iconst 0, 1) := by decide +kernel
theorem dX7_doAdd_41 : decode cX7_doAdd 41 = .ok (.iaload, 1) := by decide +kernel
theorem dX7_doAdd_42 : decode cX7_doAdd 42 = .ok (.if_icmp .ge 22, 3) := by decide +kernel
theorem dX7_doAdd_45 : decode cX7_doAdd 45 = .ok (.aload_n 0, 1) := by decide +kernel
theorem dX7_doAdd_46 : decode cX7_doAdd 46 = .ok (.getfield 9, 3) := by decide +kernel
theorem dX7_doAdd_49 : decode cX7_doAdd 49 = .ok (.iload_n 2, 1) := by decide +kernel
theorem dX7_doAdd_50 : decode cX7_doAdd 50 = .ok (.invokestatic 63, 3) := by decide +kernel
theorem dX7_doAdd_53 : decode cX7_doAdd 53 = .ok (.iaload, 1) := by decide +kernel
theorem dX7_doAdd_54 : decode cX7_doAdd 54 = .ok (.iload_n 1, 1) := by decide +kernel
theorem dX7_doAdd_55 : decode cX7_doAdd 55 = .ok (.if_icmp .ge 9, 3) := by decide +kernel
theorem dX7_doAdd_58 : decode cX7_doAdd 58 = .ok (.iinc 2 1, 3) := by decide +kernel
theorem dX7_doAdd_61 : decode cX7_doAdd 61 = .ok (.goto (-26), 3) := by decide +kernel
theorem dX7_doAdd_64 : decode cX7_doAdd 64 = .ok (.aload_n 0, 1) := by decide +kernel
theorem dX7_doAdd_65 : decode cX7_doAdd 65 = .ok (.getfield 9, 3) := by decide +kernel
theorem dX7_doAdd_68 : decode cX7_doAdd 68 = .ok (.iload_n 2, 1) := by decide +kernel
theorem dX7_doAdd_69 : decode cX7_doAdd 69 = .ok (.invokestatic 63, 3) := by decide +kernel
theorem dX7_doAdd_72 : decode cX7_doAdd 72 = .ok (.aload_n 0, 1) := by decide +kernel
theorem dX7_doAdd_73 : decode cX7_doAdd 73 = .ok (.getfield 9, 3) := by decide +kernel
theorem dX7_doAdd_76 : decode cX7_doAdd 76 = .ok (.iload_n 2, 1) := by decide +kernel
theorem dX7_doAdd_77 : decode cX7_doAdd 77 = .ok (.iconst 1, 1) := by decide +kernel
theorem dX7_doAdd_78 : decode cX7_doAdd 78 = .ok (.iadd, 1) := by decide +kernel
theorem dX7_doAdd_79 : decode cX7_doAdd 79 = .ok (.invokestatic 63, 3) := by decide +kernel
theorem dX7_doAdd_82 : decode cX7_doAdd 82 = .ok (.bipush 12, 2) := by decide +kernel
theorem dX7_doAdd_84 : decode cX7_doAdd 84 = .ok (.aload_n 0, 1) := by decide +kernel
theorem dX7_doAdd_85 : decode cX7_doAdd 85 = .ok (.getfield 9, 3) := by decide +kernel
theorem dX7_doAdd_88 : decode cX7_doAdd 88 = .ok (.iconst 0, 1) := by decide +kernel
theorem dX7_doAdd_89 : decode cX7_doAdd 89 = .ok (.iaload, 1) := by decide +kernel
theorem dX7_doAdd_90 : decode cX7_doAdd 90 = .ok (.iload_n 2, 1) := by decide +kernel
theorem dX7_doAdd_91 : decode cX7_doAdd 91 = .ok (.isub, 1) := by decide +kernel
theorem dX7_doAdd_92 : decode cX7_doAdd 92 = .ok (.imul, 1) := by decide +kernel
theorem dX7_doAdd_93 : decode cX7_doAdd 93 = .ok (.invokestatic 48, 3) := by decide +kernel
theorem dX7_doAdd_96 : decode cX7_doAdd 96 = .ok (.iconst 0, 1) := by decide +kernel
theorem dX7_doAdd_97 : decode cX7_doAdd 97 = .ok (.istore_n 3, 1) := by decide +kernel
theorem dX7_doAdd_98 : decode cX7_doAdd 98 = .ok (.iload_n 3, 1) := by decide +kernel
theorem dX7_doAdd_99 : decode cX7_doAdd 99 = .ok (.bipush 12, 2) := by decide +kernel
theorem dX7_doAdd_101 : decode cX7_doAdd 101 = .ok (.if_icmp .ge 21, 3) := by decide +kernel
theorem dX7_doAdd_104 : decode cX7_doAdd 104 = .ok (.aload_n 0, 1) := by decide +kernel
theorem dX7_doAdd_105 : decode cX7_doAdd 105 = .ok (.getfield 9, 3) := by decide +kernel
theorem dX7_doAdd_108 : decode cX7_doAdd 108 = .ok (.iload_n 2, 1) := by decide +kernel
theorem dX7_doAdd_109 : decode cX7_doAdd 109 = .ok (.invokestatic 63, 3) := by decide +kernel
theorem dX7_doAdd_112 : decode cX7_doAdd 112 = .ok (.iload_n 3, 1) := by decide +kernel
theorem dX7_doAdd_113 : decode cX7_doAdd 113 = .ok (.iadd, 1) := by decide +kernel
theorem dX7_doAdd_114 : decode cX7_doAdd 114 = .ok (.iconst 0, 1) := by decide +kernel
theorem dX7_doAdd_115 : decode cX7_doAdd 115 = .ok (.iastore, 1) := by decide +kernel
theorem dX7_doAdd_116 : decode cX7_doAdd 116 = .ok (.iinc 3 1, 3) := by decide +kernel
theorem dX7_doAdd_119 : decode cX7_doAdd 119 = .ok (.goto (-21), 3) := by decide +kernel
theorem dX7_doAdd_122 : decode cX7_doAdd 122 = .ok (.aload_n 0, 1) := by decide +kernel
theorem dX7_doAdd_123 : decode cX7_doAdd 123 = .ok (.getfield 9, 3) := by decide +kernel
theorem dX7_doAdd_126 : decode cX7_doAdd 126 = .ok (.iload_n 2, 1) := by decide +kernel
theorem dX7_doAdd_127 : decode cX7_doAdd 127 = .ok (.invokestatic 63, 3) := by decide +kernel
theorem dX7_doAdd_130 : decode cX7_doAdd 130 = .ok (.iload_n 1, 1) := by decide +kernel
theorem dX7_doAdd_131 : decode cX7_doAdd 131 = .ok (.iastore, 1) := by decide +kernel
theorem dX7_doAdd_132 : decode cX7_doAdd 132 = .ok (.aload_n 0, 1) := by decide +kernel
theorem dX7_doAdd_133 : decode cX7_doAdd 133 = .ok (.getfield 9, 3) := by decide +kernel
theorem dX7_doAdd_136 : decode cX7_doAdd 136 = .ok (.iload_n 2, 1) := by decide +kernel
theorem dX7_doAdd_137 : decode cX7_doAdd 137 = .ok (.invokestatic 63, 3) := by decide +kernel
theorem dX7_doAdd_140 : decode cX7_doAdd 140 = .ok (.iconst 1, 1) := by decide +kernel
theorem dX7_doAdd_141 : decode cX7_doAdd 141 = .ok (.iadd, 1) := by decide +kernel
theorem dX7_doAdd_142 : decode cX7_doAdd 142 = .ok (.iconst (-1), 1) := by decide +kernel
theorem dX7_doAdd_143 : decode cX7_doAdd 143 = .ok (.iastore, 1) := by decide +kernel
theorem dX7_doAdd_144 : decode cX7_doAdd 144 = .ok (.aload_n 0, 1) := by decide +kernel
theorem dX7_doAdd_145 : decode cX7_doAdd 145 = .ok (.getfield 9, 3) := by decide +kernel
theorem dX7_doAdd_148 : decode cX7_doAdd 148 = .ok (.iconst 0, 1) := by decide +kernel
theorem dX7_doAdd_149 : decode cX7_doAdd 149 = .ok (.dup2, 1) := by decide +kernel
theorem dX7_doAdd_150 : decode cX7_doAdd 150 = .ok (.iaload, 1) := by decide +kernel
theorem dX7_doAdd_151 : decode cX7_doAdd 151 = .ok (.iconst 1, 1) := by decide +kernel
theorem dX7_doAdd_152 : decode cX7_doAdd 152 = .ok (.iadd, 1) := by decide +kernel
theorem dX7_doAdd_153 : decode cX7_doAdd 153 = .ok (.iastore, 1) := by decide +kernel
theorem dX7_doAdd_154 : decode cX7_doAdd 154 = .ok (.iconst 0, 1) := by decide +kernel
theorem dX7_doAdd_155 : decode cX7_doAdd 155 = .ok (.ireturn, 1) := by decide +kernel
theorem dX7_addCue_0 : decode cX7_addCue 0 = .ok (.aload_n 0, 1) := by decide +kernel
theorem dX7_addCue_1 : decode cX7_addCue 1 = .ok (.invokevirtual 54, 3) := by decide +kernel
theorem dX7_addCue_4 : decode cX7_addCue 4 = .ok (.aload_n 0, 1) := by decide +kernel
theorem dX7_addCue_5 : decode cX7_addCue 5 = .ok (.aload_n 0, 1) := by decide +kernel
theorem dX7_addCue_6 : decode cX7_addCue 6 = .ok (.iload_n 1, 1) := by decide +kernel
theorem dX7_addCue_7 : decode cX7_addCue 7 = .ok (.invokevirtual 78, 3) := by decide +kernel
theorem dX7_addCue_10 : decode cX7_addCue 10 = .ok (.putfield 42, 3) := by decide +kernel
theorem dX7_addCue_13 : decode cX7_addCue 13 = .ok (.aload_n 0, 1) := by decide +kernel
theorem dX7_addCue_14 : decode cX7_addCue 14 = .ok (.getfield 42, 3) := by decide +kernel
theorem dX7_addCue_17 : decode cX7_addCue 17 = .ok (.ifCond .le 5, 3) := by decide +kernel
theorem dX7_addCue_20 : decode cX7_addCue 20 = .ok (.iconst 0, 1) := by decide +kernel
theorem dX7_addCue_21 : decode cX7_addCue 21 = .ok (.ireturn, 1) := by decide +kernel
theorem dX7_addCue_22 : decode cX7_addCue 22 = .ok (.aload_n 0, 1) := by decide +kernel
theorem dX7_addCue_23 : decode cX7_addCue 23 = .ok (.invokevirtual 57, 3) := by decide +kernel
theorem dX7_addCue_26 : decode cX7_addCue 26 = .ok (.aload_n 0, 1) := by decide +kernel
theorem dX7_addCue_27 : decode cX7_addCue 27 = .ok (.getfield 9, 3) := by decide +kernel
theorem dX7_addCue_30 : decode cX7_addCue 30 = .ok (.iconst 0, 1) := by decide +kernel
theorem dX7_addCue_31 : decode cX7_addCue 31 = .ok (.iaload, 1) := by decide +kernel
theorem dX7_addCue_32 : decode cX7_addCue 32 = .ok (.ireturn, 1) := by decide +kernel
theorem dX7_cueAt_0 : decode cX7_cueAt 0 = .ok (.aload_n 0, 1) := by decide +kernel
theorem dX7_cueAt_1 : decode cX7_cueAt 1 = .ok (.iload_n 1, 1) := by decide +kernel
theorem dX7_cueAt_2 : decode cX7_cueAt 2 = .ok (.iconst 0, 1) := by decide +kernel
theorem dX7_cueAt_3 : decode cX7_cueAt 3 = .ok (.aload_n 0, 1) := by decide +kernel
theorem dX7_cueAt_4 : decode cX7_cueAt 4 = .ok (.getfield 9, 3) := by decide +kernel
theorem dX7_cueAt_7 : decode cX7_cueAt 7 = .ok (.iconst 0, 1) := by decide +kernel
theorem dX7_cueAt_8 : decode cX7_cueAt 8 = .ok (.iaload, 1) := by decide +kernel
theorem dX7_cueAt_9 : decode cX7_cueAt 9 = .ok (.iconst 1, 1) := by decide +kernel
theorem dX7_cueAt_10 : decode cX7_cueAt 10 = .ok (.isub, 1) := by decide +kernel
theorem dX7_cueAt_11 : decode cX7_cueAt 11 = .ok (.invokestatic 70, 3) := by decide +kernel
theorem dX7_cueAt_14 : decode cX7_cueAt 14 = .ok (.ifCond .eq 7, 3) := by decide +kernel
theorem dX7_cueAt_17 : decode cX7_cueAt 17 = .ok (.iconst 0, 1) := by decide +kernel
theorem dX7_cueAt_18 : decode cX7_cueAt 18 = .ok (.goto 4, 3) := by decide +kernel
theorem dX7_cueAt_21 : decode cX7_cueAt 21 = .ok (.iconst 1, 1) := by decide +kernel
theorem dX7_cueAt_22 : decode cX7_cueAt 22 = .ok (.putfield 42, 3) := by decide +kernel
theorem dX7_cueAt_25 : decode cX7_cueAt 25 = .ok (.aload_n 0, 1) := by decide +kernel
theorem dX7_cueAt_26 : decode cX7_cueAt 26 = .ok (.getfield 42, 3) := by decide +kernel
theorem dX7_cueAt_29 : decode cX7_cueAt 29 = .ok (.ifCond .le 7, 3) := by decide +kernel
theorem dX7_cueAt_32 : decode cX7_cueAt 32 = .ok (.iconst 0, 1) := by decide +kernel
theorem dX7_cueAt_33 : decode cX7_cueAt 33 = .ok (.goto 12, 3) := by decide +kernel
theorem dX7_cueAt_36 : decode cX7_cueAt 36 = .ok (.aload_n 0, 1) := by decide +kernel
theorem dX7_cueAt_37 : decode cX7_cueAt 37 = .ok (.getfield 9, 3) := by decide +kernel
theorem dX7_cueAt_40 : decode cX7_cueAt 40 = .ok (.iload_n 1, 1) := by decide +kernel
theorem dX7_cueAt_41 : decode cX7_cueAt 41 = .ok (.invokestatic 63, 3) := by decide +kernel
theorem dX7_cueAt_44 : decode cX7_cueAt 44 = .ok (.iaload, 1) := by decide +kernel
theorem dX7_cueAt_45 : decode cX7_cueAt 45 = .ok (.ireturn, 1) := by decide +kernel
theorem dX7_setFollow_0 : decode cX7_setFollow 0 = .ok (.aload_n 0, 1) := by decide +kernel
theorem dX7_setFollow_1 : decode cX7_setFollow 1 = .ok (.aload_n 0, 1) := by decide +kernel
theorem dX7_setFollow_2 : decode cX7_setFollow 2 = .ok (.iload_n 1, 1) := by decide +kernel
theorem dX7_setFollow_3 : decode cX7_setFollow 3 = .ok (.invokevirtual 74, 3) := by decide +kernel
theorem dX7_setFollow_6 : decode cX7_setFollow 6 = .ok (.ifCond .ne 7, 3) := by decide +kernel
theorem dX7_setFollow_9 : decode cX7_setFollow 9 = .ok (.iconst 1, 1) := by decide +kernel
theorem dX7_setFollow_10 : decode cX7_setFollow 10 = .ok (.goto 24, 3) := by decide +kernel
theorem dX7_setFollow_13 : decode cX7_setFollow 13 = .ok (.iload_n 2, 1) := by decide +kernel
theorem dX7_setFollow_14 : decode cX7_setFollow 14 = .ok (.iconst (-1), 1) := by decide +kernel
theorem dX7_setFollow_15 : decode cX7_setFollow 15 = .ok (.if_icmp .eq 18, 3) := by decide +kernel
theorem dX7_setFollow_18 : decode cX7_setFollow 18 = .ok (.iload_n 2, 1) := by decide +kernel
theorem dX7_setFollow_19 : decode cX7_setFollow 19 = .ok (.iconst 1, 1) := by decide +kernel
theorem dX7_setFollow_20 : decode cX7_setFollow 20 = .ok (.sipush 6000, 3) := by decide +kernel
theorem dX7_setFollow_23 : decode cX7_setFollow 23 = .ok (.invokestatic 70, 3) := by decide +kernel
theorem dX7_setFollow_26 : decode cX7_setFollow 26 = .ok (.ifCond .ne 7, 3) := by decide +kernel
theorem dX7_setFollow_29 : decode cX7_setFollow 29 = .ok (.iconst 2, 1) := by decide +kernel
theorem dX7_setFollow_30 : decode cX7_setFollow 30 = .ok (.goto 4, 3) := by decide +kernel
theorem dX7_setFollow_33 : decode cX7_setFollow 33 = .ok (.iconst 0, 1) := by decide +kernel
theorem dX7_setFollow_34 : decode cX7_setFollow 34 = .ok (.putfield 42, 3) := by decide +kernel
theorem dX7_setFollow_37 : decode cX7_setFollow 37 = .ok (.aload_n 0, 1) := by decide +kernel
theorem dX7_setFollow_38 : decode cX7_setFollow 38 = .ok (.getfield 42, 3) := by decide +kernel
theorem dX7_setFollow_41 : decode cX7_setFollow 41 = .ok (.ifCond .le 5, 3) := by decide +kernel
theorem dX7_setFollow_44 : decode cX7_setFollow 44 = .ok (.iconst 0, 1) := by decide +kernel
theorem dX7_setFollow_45 : decode cX7_setFollow 45 = .ok (.ireturn, 1) := by decide +kernel
theorem dX7_setFollow_46 : decode cX7_setFollow 46 = .ok (.aload_n 0, 1) := by decide +kernel
theorem dX7_setFollow_47 : decode cX7_setFollow 47 = .ok (.invokevirtual 81, 3) := by decide +kernel
theorem dX7_setFollow_50 : decode cX7_setFollow 50 = .ok (.aload_n 0, 1) := by decide +kernel
theorem dX7_setFollow_51 : decode cX7_setFollow 51 = .ok (.getfield 9, 3) := by decide +kernel
theorem dX7_setFollow_54 : decode cX7_setFollow 54 = .ok (.aload_n 0, 1) := by decide +kernel
theorem dX7_setFollow_55 : decode cX7_setFollow 55 = .ok (.iload_n 1, 1) := by decide +kernel
theorem dX7_setFollow_56 : decode cX7_setFollow 56 = .ok (.invokevirtual 67, 3) := by decide +kernel
theorem dX7_setFollow_59 : decode cX7_setFollow 59 = .ok (.invokestatic 63, 3) := by decide +kernel
theorem dX7_setFollow_62 : decode cX7_setFollow 62 = .ok (.iconst 1, 1) := by decide +kernel
theorem dX7_setFollow_63 : decode cX7_setFollow 63 = .ok (.iadd, 1) := by decide +kernel
theorem dX7_setFollow_64 : decode cX7_setFollow 64 = .ok (.iaload, 1) := by decide +kernel
theorem dX7_setFollow_65 : decode cX7_setFollow 65 = .ok (.istore_n 3, 1) := by decide +kernel
theorem dX7_setFollow_66 : decode cX7_setFollow 66 = .ok (.aload_n 0, 1) := by decide +kernel
theorem dX7_setFollow_67 : decode cX7_setFollow 67 = .ok (.getfield 9, 3) := by decide +kernel
theorem dX7_setFollow_70 : decode cX7_setFollow 70 = .ok (.aload_n 0, 1) := by decide +kernel
theorem dX7_setFollow_71 : decode cX7_setFollow 71 = .ok (.iload_n 1, 1) := by decide +kernel
theorem dX7_setFollow_72 : decode cX7_setFollow 72 = .ok (.invokevirtual 67, 3) := by decide +kernel
theorem dX7_setFollow_75 : decode cX7_setFollow 75 = .ok (.invokestatic 63, 3) := by decide +kernel
theorem dX7_setFollow_78 : decode cX7_setFollow 78 = .ok (.iconst 1, 1) := by decide +kernel
theorem dX7_setFollow_79 : decode cX7_setFollow 79 = .ok (.iadd, 1) := by decide +kernel
theorem dX7_setFollow_80 : decode cX7_setFollow 80 = .ok (.iload_n 2, 1) := by decide +kernel
theorem dX7_setFollow_81 : decode cX7_setFollow 81 = .ok (.iastore, 1) := by decide +kernel
theorem dX7_setFollow_82 : decode cX7_setFollow 82 = .ok (.iload_n 3, 1) := by decide +kernel
theorem dX7_setFollow_83 : decode cX7_setFollow 83 = .ok (.ireturn, 1) := by decide +kernel
theorem dX7_keepLevels_0 : decode cX7_keepLevels 0 = .ok (.iconst 0, 1) := by decide +kernel
theorem dX7_keepLevels_1 : decode cX7_keepLevels 1 = .ok (.istore_n 1, 1) := by decide +kernel
theorem dX7_keepLevels_2 : decode cX7_keepLevels 2 = .ok (.iload_n 1, 1) := by decide +kernel
theorem dX7_keepLevels_3 : decode cX7_keepLevels 3 = .ok (.aload_n 0, 1) := by decide +kernel
theorem dX7_keepLevels_4 : decode cX7_keepLevels 4 = .ok (.getfield 9, 3) := by decide +kernel
theorem dX7_keepLevels_7 : decode cX7_keepLevels 7 = .ok (.iconst 0, 1) := by decide +kernel
theorem dX7_keepLevels_8 : decode cX7_keepLevels 8 = .ok (.iaload, 1) := by decide +kernel
theorem dX7_keepLevels_9 : decode cX7_keepLevels 9 = .ok (.if_icmp .ge 40, 3) := by decide +kernel
theorem dX7_keepLevels_12 : decode cX7_keepLevels 12 = .ok (.iconst 0, 1) := by decide +kernel
theorem dX7_keepLevels_13 : decode cX7_keepLevels 13 = .ok (.istore_n 2, 1) := by decide +kernel
theorem dX7_keepLevels_14 : decode cX7_keepLevels 14 = .ok (.iload_n 2, 1) := by decide +kernel
theorem dX7_keepLevels_15 : decode cX7_keepLevels 15 = .ok (.bipush 12, 2) := by decide +kernel
theorem dX7_keepLevels_17 : decode cX7_keepLevels 17 = .ok (.if_icmp .ge 26, 3) := by decide +kernel
theorem dX7_keepLevels_20 : decode cX7_keepLevels 20 = .ok (.aload_n 0, 1) := by decide +kernel
theorem dX7_keepLevels_21 : decode cX7_keepLevels 21 = .ok (.getfield 22, 3) := by decide +kernel
theorem dX7_keepLevels_24 : decode cX7_keepLevels 24 = .ok (.bipush 12, 2) := by decide +kernel
theorem dX7_keepLevels_26 : decode cX7_keepLevels 26 = .ok (.iload_n 1, 1) := by decide +kernel
theorem dX7_keepLevels_27 : decode cX7_keepLevels 27 = .ok (.imul, 1) := by decide +kernel
theorem dX7_keepLevels_28 : decode cX7_keepLevels 28 = .ok (.iload_n 2, 1) := by decide +kernel
theorem dX7_keepLevels_29 : decode cX7_keepLevels 29 = .ok (.iadd, 1) := by decide +kernel
theorem dX7_keepLevels_30 : decode cX7_keepLevels 30 = .ok (.aload_n 0, 1) := by decide +kernel
theorem dX7_keepLevels_31 : decode cX7_keepLevels 31 = .ok (.iload_n 1, 1) := by decide +kernel
theorem dX7_keepLevels_32 : decode cX7_keepLevels 32 = .ok (.iload_n 2, 1) := by decide +kernel
theorem dX7_keepLevels_33 : decode cX7_keepLevels 33 = .ok (.invokevirtual 84, 3) := by decide +kernel
theorem dX7_keepLevels_36 : decode cX7_keepLevels 36 = .ok (.iastore, 1) := by decide +kernel
theorem dX7_keepLevels_37 : decode cX7_keepLevels 37 = .ok (.iinc 2 1, 3) := by decide +kernel
theorem dX7_keepLevels_40 : decode cX7_keepLevels 40 = .ok (.goto (-26), 3) := by decide +kernel
theorem dX7_keepLevels_43 : decode cX7_keepLevels 43 = .ok (.iinc 1 1, 3) := by decide +kernel
theorem dX7_keepLevels_46 : decode cX7_keepLevels 46 = .ok (.goto (-44), 3) := by decide +kernel
theorem dX7_keepLevels_49 : decode cX7_keepLevels 49 = .ok (.return_, 1) := by decide +kernel
theorem dX7_setBlock_0 : decode cX7_setBlock 0 = .ok (.aload_n 0, 1) := by decide +kernel
theorem dX7_setBlock_1 : decode cX7_setBlock 1 = .ok (.aload_n 0, 1) := by decide +kernel
theorem dX7_setBlock_2 : decode cX7_setBlock 2 = .ok (.iload_n 1, 1) := by decide +kernel
theorem dX7_setBlock_3 : decode cX7_setBlock 3 = .ok (.invokevirtual 74, 3) := by decide +kernel
theorem dX7_setBlock_6 : decode cX7_setBlock 6 = .ok (.ifCond .eq 7, 3) := by decide +kernel
theorem dX7_setBlock_9 : decode cX7_setBlock 9 = .ok (.iconst 0, 1) := by decide +kernel
theorem dX7_setBlock_10 : decode cX7_setBlock 10 = .ok (.goto 4, 3) := by decide +kernel
theorem dX7_setBlock_13 : decode cX7_setBlock 13 = .ok (.iconst 1, 1) := by decide +kernel
theorem dX7_setBlock_14 : decode cX7_setBlock 14 = .ok (.putfield 42, 3) := by decide +kernel
theorem dX7_setBlock_17 : decode cX7_setBlock 17 = .ok (.aload_n 0, 1) := by decide +kernel
theorem dX7_setBlock_18 : decode cX7_setBlock 18 = .ok (.getfield 42, 3) := by decide +kernel
theorem dX7_setBlock_21 : decode cX7_setBlock 21 = .ok (.ifCond .le 5, 3) := by decide +kernel
theorem dX7_setBlock_24 : decode cX7_setBlock 24 = .ok (.iconst 0, 1) := by decide +kernel
theorem dX7_setBlock_25 : decode cX7_setBlock 25 = .ok (.ireturn, 1) := by decide +kernel
theorem dX7_setBlock_26 : decode cX7_setBlock 26 = .ok (.aload_n 0, 1) := by decide +kernel
theorem dX7_setBlock_27 : decode cX7_setBlock 27 = .ok (.invokevirtual 81, 3) := by decide +kernel
theorem dX7_setBlock_30 : decode cX7_setBlock 30 = .ok (.aload_n 0, 1) := by decide +kernel
theorem dX7_setBlock_31 : decode cX7_setBlock 31 = .ok (.invokevirtual 88, 3) := by decide +kernel
theorem dX7_setBlock_34 : decode cX7_setBlock 34 = .ok (.aload_n 0, 1) := by decide +kernel
theorem dX7_setBlock_35 : decode cX7_setBlock 35 = .ok (.iload_n 1, 1) := by decide +kernel
theorem dX7_setBlock_36 : decode cX7_setBlock 36 = .ok (.invokevirtual 67, 3) := by decide +kernel
theorem dX7_setBlock_39 : decode cX7_setBlock 39 = .ok (.istore_n 3, 1) := by decide +kernel
theorem dX7_setBlock_40 : decode cX7_setBlock 40 = .ok (.aload_n 0, 1) := by decide +kernel
theorem dX7_setBlock_41 : decode cX7_setBlock 41 = .ok (.getfield 9, 3) := by decide +kernel
theorem dX7_setBlock_44 : decode cX7_setBlock 44 = .ok (.iload_n 3, 1) := by decide +kernel
theorem dX7_setBlock_45 : decode cX7_setBlock 45 = .ok (.invokestatic 63, 3) := by decide +kernel
theorem dX7_setBlock_48 : decode cX7_setBlock 48 = .ok (.iconst 2, 1) := by decide +kernel
theorem dX7_setBlock_49 : decode cX7_setBlock 49 = .ok (.iadd, 1) := by decide +kernel
theorem dX7_setBlock_50 : decode cX7_setBlock 50 = .ok (.iload_n 2, 1) := by decide +kernel
theorem dX7_setBlock_51 : decode cX7_setBlock 51 = .ok (.ifCond .eq 7, 3) := by decide +kernel
theorem dX7_setBlock_54 : decode cX7_setBlock 54 = .ok (.iconst 1, 1) := by decide +kernel
theorem dX7_setBlock_55 : decode cX7_setBlock 55 = .ok (.goto 4, 3) := by decide +kernel
theorem dX7_setBlock_58 : decode cX7_setBlock 58 = .ok (.iconst 0, 1) := by decide +kernel
theorem dX7_setBlock_59 : decode cX7_setBlock 59 = .ok (.iastore, 1) := by decide +kernel
theorem dX7_setBlock_60 : decode cX7_setBlock 60 = .ok (.iconst 0, 1) := by decide +kernel
theorem dX7_setBlock_61 : decode cX7_setBlock 61 = .ok (.istore 4, 2) := by decide +kernel
theorem dX7_setBlock_63 : decode cX7_setBlock 63 = .ok (.iconst 0, 1) := by decide +kernel
theorem dX7_setBlock_64 : decode cX7_setBlock 64 = .ok (.istore 5, 2) := by decide +kernel
theorem dX7_setBlock_66 : decode cX7_setBlock 66 = .ok (.iload 5, 2) := by decide +kernel
theorem dX7_setBlock_68 : decode cX7_setBlock 68 = .ok (.bipush 12, 2) := by decide +kernel
theorem dX7_setBlock_70 : decode cX7_setBlock 70 = .ok (.if_icmp .ge 41, 3) := by decide +kernel
theorem dX7_setBlock_73 : decode cX7_setBlock 73 = .ok (.iload 4, 2) := by decide +kernel
theorem dX7_setBlock_75 : decode cX7_setBlock 75 = .ok (.aload_n 0, 1) := by decide +kernel
theorem dX7_setBlock_76 : decode cX7_setBlock 76 = .ok (.iload_n 3, 1) := by decide +kernel
theorem dX7_setBlock_77 : decode cX7_setBlock 77 = .ok (.iload 5, 2) := by decide +kernel
theorem dX7_setBlock_79 : decode cX7_setBlock 79 = .ok (.invokevirtual 84, 3) := by decide +kernel
theorem dX7_setBlock_82 : decode cX7_setBlock 82 = .ok (.aload_n 0, 1) := by decide +kernel
theorem dX7_setBlock_83 : decode cX7_setBlock 83 = .ok (.getfield 22, 3) := by decide +kernel
theorem dX7_setBlock_86 : decode cX7_setBlock 86 = .ok (.bipush 12, 2) := by decide +kernel
theorem dX7_setBlock_88 : decode cX7_setBlock 88 = .ok (.iload_n 3, 1) := by decide +kernel
theorem dX7_setBlock_89 : decode cX7_setBlock 89 = .ok (.imul, 1) := by decide +kernel
theorem dX7_setBlock_90 : decode cX7_setBlock 90 = .ok (.iload 5, 2) := by decide +kernel
theorem dX7_setBlock_92 : decode cX7_setBlock 92 = .ok (.iadd, 1) := by decide +kernel
theorem dX7_setBlock_93 : decode cX7_setBlock 93 = .ok (.iaload, 1) := by decide +kernel
theorem dX7_setBlock_94 : decode cX7_setBlock 94 = .ok (.if_icmp .eq 7, 3) := by decide +kernel
theorem dX7_setBlock_97 : decode cX7_setBlock 97 = .ok (.iconst 1, 1) := by decide +kernel
theorem dX7_setBlock_98 : decode cX7_setBlock 98 = .ok (.goto 4, 3) := by decide +kernel
theorem dX7_setBlock_101 : decode cX7_setBlock 101 = .ok (.iconst 0, 1) := by decide +kernel
theorem dX7_setBlock_102 : decode cX7_setBlock 102 = .ok (.iadd, 1) := by decide +kernel
theorem dX7_setBlock_103 : decode cX7_setBlock 103 = .ok (.istore 4, 2) := by decide +kernel
theorem dX7_setBlock_105 : decode cX7_setBlock 105 = .ok (.iinc 5 1, 3) := by decide +kernel
theorem dX7_setBlock_108 : decode cX7_setBlock 108 = .ok (.goto (-42), 3) := by decide +kernel
theorem dX7_setBlock_111 : decode cX7_setBlock 111 = .ok (.iload 4, 2) := by decide +kernel
theorem dX7_setBlock_113 : decode cX7_setBlock 113 = .ok (.ireturn, 1) := by decide +kernel
theorem dX7_setProtected_0 : decode cX7_setProtected 0 = .ok (.aload_n 0, 1) := by decide +kernel
theorem dX7_setProtected_1 : decode cX7_setProtected 1 = .ok (.aload_n 0, 1) := by decide +kernel
theorem dX7_setProtected_2 : decode cX7_setProtected 2 = .ok (.iload_n 1, 1) := by decide +kernel
theorem dX7_setProtected_3 : decode cX7_setProtected 3 = .ok (.invokevirtual 74, 3) := by decide +kernel
theorem dX7_setProtected_6 : decode cX7_setProtected 6 = .ok (.ifCond .eq 7, 3) := by decide +kernel
theorem dX7_setProtected_9 : decode cX7_setProtected 9 = .ok (.iconst 0, 1) := by decide +kernel
theorem dX7_setProtected_10 : decode cX7_setProtected 10 = .ok (.goto 4, 3) := by decide +kernel
theorem dX7_setProtected_13 : decode cX7_setProtected 13 = .ok (.iconst 1, 1) := by decide +kernel
theorem dX7_setProtected_14 : decode cX7_setProtected 14 = .ok (.putfield 42, 3) := by decide +kernel
theorem dX7_setProtected_17 : decode cX7_setProtected 17 = .ok (.aload_n 0, 1) := by decide +kernel
theorem dX7_setProtected_18 : decode cX7_setProtected 18 = .ok (.getfield 42, 3) := by decide +kernel
theorem dX7_setProtected_21 : decode cX7_setProtected 21 = .ok (.ifCond .le 5, 3) := by decide +kernel
theorem dX7_setProtected_24 : decode cX7_setProtected 24 = .ok (.iconst 0, 1) := by decide +kernel
theorem dX7_setProtected_25 : decode cX7_setProtected 25 = .ok (.ireturn, 1) := by decide +kernel
theorem dX7_setProtected_26 : decode cX7_setProtected 26 = .ok (.aload_n 0, 1) := by decide +kernel
theorem dX7_setProtected_27 : decode cX7_setProtected 27 = .ok (.invokevirtual 81, 3) := by decide +kernel
theorem dX7_setProtected_30 : decode cX7_setProtected 30 = .ok (.aload_n 0, 1) := by decide +kernel
theorem dX7_setProtected_31 : decode cX7_setProtected 31 = .ok (.iload_n 1, 1) := by decide +kernel
theorem dX7_setProtected_32 : decode cX7_setProtected 32 = .ok (.invokevirtual 67, 3) := by decide +kernel
theorem dX7_setProtected_35 : decode cX7_setProtected 35 = .ok (.invokestatic 63, 3) := by decide +kernel
theorem dX7_setProtected_38 : decode cX7_setProtected 38 = .ok (.iconst 3, 1) := by decide +kernel
theorem dX7_setProtected_39 : decode cX7_setProtected 39 = .ok (.iadd, 1) := by decide +kernel
theorem dX7_setProtected_40 : decode cX7_setProtected 40 = .ok (.istore_n 3, 1) := by decide +kernel
theorem dX7_setProtected_41 : decode cX7_setProtected 41 = .ok (.aload_n 0, 1) := by decide +kernel
theorem dX7_setProtected_42 : decode cX7_setProtected 42 = .ok (.getfield 9, 3) := by decide +kernel
theorem dX7_setProtected_45 : decode cX7_setProtected 45 = .ok (.iload_n 3, 1) := by decide +kernel
theorem dX7_setProtected_46 : decode cX7_setProtected 46 = .ok (.iaload, 1) := by decide +kernel
theorem dX7_setProtected_47 : decode cX7_setProtected 47 = .ok (.iconst 1, 1) := by decide +kernel
theorem dX7_setProtected_48 : decode cX7_setProtected 48 = .ok (.if_icmp .ne 7, 3) := by decide +kernel
theorem dX7_setProtected_51 : decode cX7_setProtected 51 = .ok (.iconst 1, 1) := by decide +kernel
theorem dX7_setProtected_52 : decode cX7_setProtected 52 = .ok (.goto 4, 3) := by decide +kernel
theorem dX7_setProtected_55 : decode cX7_setProtected 55 = .ok (.iconst 0, 1) := by decide +kernel
theorem dX7_setProtected_56 : decode cX7_setProtected 56 = .ok (.istore 4, 2) := by decide +kernel
theorem dX7_setProtected_58 : decode cX7_setProtected 58 = .ok (.aload_n 0, 1) := by decide +kernel
theorem dX7_setProtected_59 : decode cX7_setProtected 59 = .ok (.getfield 9, 3) := by decide +kernel
theorem dX7_setProtected_62 : decode cX7_setProtected 62 = .ok (.iload_n 3, 1) := by decide +kernel
theorem dX7_setProtected_63 : decode cX7_setProtected 63 = .ok (.iload_n 2, 1) := by decide +kernel
theorem dX7_setProtected_64 : decode cX7_setProtected 64 = .ok (.ifCond .eq 7, 3) := by decide +kernel
theorem dX7_setProtected_67 : decode cX7_setProtected 67 = .ok (.iconst 1, 1) := by decide +kernel
theorem dX7_setProtected_68 : decode cX7_setProtected 68 = .ok (.goto 4, 3) := by decide +kernel
theorem dX7_setProtected_71 : decode cX7_setProtected 71 = .ok (.iconst 0, 1) := by decide +kernel
theorem dX7_setProtected_72 : decode cX7_setProtected 72 = .ok (.iastore, 1) := by decide +kernel
theorem dX7_setProtected_73 : decode cX7_setProtected 73 = .ok (.iload 4, 2) := by decide +kernel
theorem dX7_setProtected_75 : decode cX7_setProtected 75 = .ok (.ireturn, 1) := by decide +kernel
theorem dX7_partAt_0 : decode cX7_partAt 0 = .ok (.aload_n 0, 1) := by decide +kernel
theorem dX7_partAt_1 : decode cX7_partAt 1 = .ok (.iload_n 1, 1) := by decide +kernel
theorem dX7_partAt_2 : decode cX7_partAt 2 = .ok (.invokevirtual 67, 3) := by decide +kernel
theorem dX7_partAt_5 : decode cX7_partAt 5 = .ok (.invokestatic 63, 3) := by decide +kernel
theorem dX7_partAt_8 : decode cX7_partAt 8 = .ok (.iconst 4, 1) := by decide +kernel
theorem dX7_partAt_9 : decode cX7_partAt 9 = .ok (.iadd, 1) := by decide +kernel
theorem dX7_partAt_10 : decode cX7_partAt 10 = .ok (.iconst 2, 1) := by decide +kernel
theorem dX7_partAt_11 : decode cX7_partAt 11 = .ok (.iload_n 2, 1) := by decide +kernel
theorem dX7_partAt_12 : decode cX7_partAt 12 = .ok (.imul, 1) := by decide +kernel
theorem dX7_partAt_13 : decode cX7_partAt 13 = .ok (.iadd, 1) := by decide +kernel
theorem dX7_partAt_14 : decode cX7_partAt 14 = .ok (.iload_n 3, 1) := by decide +kernel
theorem dX7_partAt_15 : decode cX7_partAt 15 = .ok (.ifCond .eq 7, 3) := by decide +kernel
theorem dX7_partAt_18 : decode cX7_partAt 18 = .ok (.iconst 0, 1) := by decide +kernel
theorem dX7_partAt_19 : decode cX7_partAt 19 = .ok (.goto 4, 3) := by decide +kernel
theorem dX7_partAt_22 : decode cX7_partAt 22 = .ok (.iconst 1, 1) := by decide +kernel
theorem dX7_partAt_23 : decode cX7_partAt 23 = .ok (.iadd, 1) := by decide +kernel
theorem dX7_partAt_24 : decode cX7_partAt 24 = .ok (.ireturn, 1) := by decide +kernel
theorem dX7_setPart_0 : decode cX7_setPart 0 = .ok (.aload_n 0, 1) := by decide +kernel
theorem dX7_setPart_1 : decode cX7_setPart 1 = .ok (.aload_n 0, 1) := by decide +kernel
theorem dX7_setPart_2 : decode cX7_setPart 2 = .ok (.iload_n 1, 1) := by decide +kernel
theorem dX7_setPart_3 : decode cX7_setPart 3 = .ok (.invokevirtual 74, 3) := by decide +kernel
theorem dX7_setPart_6 : decode cX7_setPart 6 = .ok (.ifCond .eq 10, 3) := by decide +kernel
theorem dX7_setPart_9 : decode cX7_setPart 9 = .ok (.iload_n 2, 1) := by decide +kernel
theorem dX7_setPart_10 : decode cX7_setPart 10 = .ok (.invokestatic 91, 3) := by decide +kernel
theorem dX7_setPart_13 : decode cX7_setPart 13 = .ok (.ifCond .ne 7, 3) := by decide +kernel
theorem dX7_setPart_16 : decode cX7_setPart 16 = .ok (.iconst 1, 1) := by decide +kernel
theorem dX7_setPart_17 : decode cX7_setPart 17 = .ok (.goto 20, 3) := by decide +kernel
theorem dX7_setPart_20 : decode cX7_setPart 20 = .ok (.iload 4, 2) := by decide +kernel
theorem dX7_setPart_22 : decode cX7_setPart 22 = .ok (.iconst 0, 1) := by decide +kernel
theorem dX7_setPart_23 : decode cX7_setPart 23 = .ok (.sipush 600, 3) := by decide +kernel
theorem dX7_setPart_26 : decode cX7_setPart 26 = .ok (.invokestatic 70, 3) := by decide +kernel
theorem dX7_setPart_29 : decode cX7_setPart 29 = .ok (.ifCond .ne 7, 3) := by decide +kernel
theorem dX7_setPart_32 : decode cX7_setPart 32 = .ok (.iconst 2, 1) := by decide +kernel
theorem dX7_setPart_33 : decode cX7_setPart 33 = .ok (.goto 4, 3) := by decide +kernel
theorem dX7_setPart_36 : decode cX7_setPart 36 = .ok (.iconst 0, 1) := by decide +kernel
theorem dX7_setPart_37 : decode cX7_setPart 37 = .ok (.putfield 42, 3) := by decide +kernel
theorem dX7_setPart_40 : decode cX7_setPart 40 = .ok (.aload_n 0, 1) := by decide +kernel
theorem dX7_setPart_41 : decode cX7_setPart 41 = .ok (.getfield 42, 3) := by decide +kernel
theorem dX7_setPart_44 : decode cX7_setPart 44 = .ok (.ifCond .le 5, 3) := by decide +kernel
theorem dX7_setPart_47 : decode cX7_setPart 47 = .ok (.iconst 0, 1) := by decide +kernel
theorem dX7_setPart_48 : decode cX7_setPart 48 = .ok (.ireturn, 1) := by decide +kernel
theorem dX7_setPart_49 : decode cX7_setPart 49 = .ok (.aload_n 0, 1) := by decide +kernel
theorem dX7_setPart_50 : decode cX7_setPart 50 = .ok (.invokevirtual 81, 3) := by decide +kernel
theorem dX7_setPart_53 : decode cX7_setPart 53 = .ok (.aload_n 0, 1) := by decide +kernel
theorem dX7_setPart_54 : decode cX7_setPart 54 = .ok (.iload_n 1, 1) := by decide +kernel
theorem dX7_setPart_55 : decode cX7_setPart 55 = .ok (.iload_n 2, 1) := by decide +kernel
theorem dX7_setPart_56 : decode cX7_setPart 56 = .ok (.iload_n 3, 1) := by decide +kernel
theorem dX7_setPart_57 : decode cX7_setPart 57 = .ok (.invokevirtual 94, 3) := by decide +kernel
theorem dX7_setPart_60 : decode cX7_setPart 60 = .ok (.istore 5, 2) := by decide +kernel
theorem dX7_setPart_62 : decode cX7_setPart 62 = .ok (.aload_n 0, 1) := by decide +kernel
theorem dX7_setPart_63 : decode cX7_setPart 63 = .ok (.getfield 9, 3) := by decide +kernel
theorem dX7_setPart_66 : decode cX7_setPart 66 = .ok (.iload 5, 2) := by decide +kernel
theorem dX7_setPart_68 : decode cX7_setPart 68 = .ok (.iaload, 1) := by decide +kernel
theorem dX7_setPart_69 : decode cX7_setPart 69 = .ok (.istore 6, 2) := by decide +kernel
theorem dX7_setPart_71 : decode cX7_setPart 71 = .ok (.aload_n 0, 1) := by decide +kernel
theorem dX7_setPart_72 : decode cX7_setPart 72 = .ok (.getfield 9, 3) := by decide +kernel
theorem dX7_setPart_75 : decode cX7_setPart 75 = .ok (.iload 5, 2) := by decide +kernel
theorem dX7_setPart_77 : decode cX7_setPart 77 = .ok (.iload 4, 2) := by decide +kernel
theorem dX7_setPart_79 : decode cX7_setPart 79 = .ok (.iastore, 1) := by decide +kernel
theorem dX7_setPart_80 : decode cX7_setPart 80 = .ok (.iload 6, 2) := by decide +kernel
theorem dX7_setPart_82 : decode cX7_setPart 82 = .ok (.ireturn, 1) := by decide +kernel
theorem dX7_part_0 : decode cX7_part 0 = .ok (.aload_n 0, 1) := by decide +kernel
theorem dX7_part_1 : decode cX7_part 1 = .ok (.aload_n 0, 1) := by decide +kernel
theorem dX7_part_2 : decode cX7_part 2 = .ok (.iload_n 1, 1) := by decide +kernel
theorem dX7_part_3 : decode cX7_part 3 = .ok (.invokevirtual 74, 3) := by decide +kernel
theorem dX7_part_6 : decode cX7_part 6 = .ok (.ifCond .eq 14, 3) := by decide +kernel
theorem dX7_part_9 : decode cX7_part 9 = .ok (.iload_n 2, 1) := by decide +kernel
theorem dX7_part_10 : decode cX7_part 10 = .ok (.invokestatic 91, 3) := by decide +kernel
theorem dX7_part_13 : decode cX7_part 13 = .ok (.ifCond .eq 7, 3) := by decide +kernel
theorem dX7_part_16 : decode cX7_part 16 = .ok (.iconst 0, 1) := by decide +kernel
theorem dX7_part_17 : decode cX7_part 17 = .ok (.goto 4, 3) := by decide +kernel
theorem dX7_part_20 : decode cX7_part 20 = .ok (.iconst 1, 1) := by decide +kernel
theorem dX7_part_21 : decode cX7_part 21 = .ok (.putfield 42, 3) := by decide +kernel
theorem dX7_part_24 : decode cX7_part 24 = .ok (.aload_n 0, 1) := by decide +kernel
theorem dX7_part_25 : decode cX7_part 25 = .ok (.getfield 42, 3) := by decide +kernel
theorem dX7_part_28 : decode cX7_part 28 = .ok (.ifCond .le 7, 3) := by decide +kernel
theorem dX7_part_31 : decode cX7_part 31 = .ok (.iconst 0, 1) := by decide +kernel
theorem dX7_part_32 : decode cX7_part 32 = .ok (.goto 15, 3) := by decide +kernel
theorem dX7_part_35 : decode cX7_part 35 = .ok (.aload_n 0, 1) := by decide +kernel
theorem dX7_part_36 : decode cX7_part 36 = .ok (.getfield 9, 3) := by decide +kernel
theorem dX7_part_39 : decode cX7_part 39 = .ok (.aload_n 0, 1) := by decide +kernel
theorem dX7_part_40 : decode cX7_part 40 = .ok (.iload_n 1, 1) := by decide +kernel
theorem dX7_part_41 : decode cX7_part 41 = .ok (.iload_n 2, 1) := by decide +kernel
theorem dX7_part_42 : decode cX7_part 42 = .ok (.iload_n 3, 1) := by decide +kernel
theorem dX7_part_43 : decode cX7_part 43 = .ok (.invokevirtual 94, 3) := by decide +kernel
theorem dX7_part_46 : decode cX7_part 46 = .ok (.iaload, 1) := by decide +kernel
theorem dX7_part_47 : decode cX7_part 47 = .ok (.ireturn, 1) := by decide +kernel
theorem dX7_given_0 : decode cX7_given 0 = .ok (.iconst 0, 1) := by decide +kernel
theorem dX7_given_1 : decode cX7_given 1 = .ok (.istore_n 3, 1) := by decide +kernel
theorem dX7_given_2 : decode cX7_given 2 = .ok (.iload_n 3, 1) := by decide +kernel
theorem dX7_given_3 : decode cX7_given 3 = .ok (.aload_n 0, 1) := by decide +kernel
theorem dX7_given_4 : decode cX7_given 4 = .ok (.getfield 9, 3) := by decide +kernel
theorem dX7_given_7 : decode cX7_given 7 = .ok (.iconst 1, 1) := by decide +kernel
theorem dX7_given_8 : decode cX7_given 8 = .ok (.iaload, 1) := by decide +kernel
theorem dX7_given_9 : decode cX7_given 9 = .ok (.if_icmp .ge 45, 3) := by decide +kernel
theorem dX7_given_12 : decode cX7_given 12 = .ok (.aload_n 0, 1) := by decide +kernel
theorem dX7_given_13 : decode cX7_given 13 = .ok (.getfield 9, 3) := by decide +kernel
theorem dX7_given_16 : decode cX7_given 16 = .ok (.sipush 162, 3) := by decide +kernel
theorem dX7_given_19 : decode cX7_given 19 = .ok (.iconst 4, 1) := by decide +kernel
theorem dX7_given_20 : decode cX7_given 20 = .ok (.iload_n 3, 1) := by decide +kernel
theorem dX7_given_21 : decode cX7_given 21 = .ok (.imul, 1) := by decide +kernel
theorem dX7_given_22 : decode cX7_given 22 = .ok (.iadd, 1) := by decide +kernel
theorem dX7_given_23 : decode cX7_given 23 = .ok (.iaload, 1) := by decide +kernel
theorem dX7_given_24 : decode cX7_given 24 = .ok (.iload_n 1, 1) := by decide +kernel
theorem dX7_given_25 : decode cX7_given 25 = .ok (.if_icmp .ne 23, 3) := by decide +kernel
theorem dX7_given_28 : decode cX7_given 28 = .ok (.aload_n 0, 1) := by decide +kernel
theorem dX7_given_29 : decode cX7_given 29 = .ok (.getfield 9, 3) := by decide +kernel
theorem dX7_given_32 : decode cX7_given 32 = .ok (.sipush 162, 3) := by decide +kernel
theorem dX7_given_35 : decode cX7_given 35 = .ok (.iconst 4, 1) := by decide +kernel
theorem dX7_given_36 : decode cX7_given 36 = .ok (.iload_n 3, 1) := by decide +kernel
theorem dX7_given_37 : decode cX7_given 37 = .ok (.imul, 1) := by decide +kernel
theorem dX7_given_38 : decode cX7_given 38 = .ok (.iadd, 1) := by decide +kernel
theorem dX7_given_39 : decode cX7_given 39 = .ok (.iconst 1, 1) := by decide +kernel
theorem dX7_given_40 : decode cX7_given 40 = .ok (.iadd, 1) := by decide +kernel
theorem dX7_given_41 : decode cX7_given 41 = .ok (.iaload, 1) := by decide +kernel
theorem dX7_given_42 : decode cX7_given 42 = .ok (.iload_n 2, 1) := by decide +kernel
theorem dX7_given_43 : decode cX7_given 43 = .ok (.if_icmp .ne 5, 3) := by decide +kernel
theorem dX7_given_46 : decode cX7_given 46 = .ok (.iload_n 3, 1) := by decide +kernel
theorem dX7_given_47 : decode cX7_given 47 = .ok (.ireturn, 1) := by decide +kernel
theorem dX7_given_48 : decode cX7_given 48 = .ok (.iinc 3 1, 3) := by decide +kernel
theorem dX7_given_51 : decode cX7_given 51 = .ok (.goto (-49), 3) := by decide +kernel
theorem dX7_given_54 : decode cX7_given 54 = .ok (.iconst (-1), 1) := by decide +kernel
theorem dX7_given_55 : decode cX7_given 55 = .ok (.ireturn, 1) := by decide +kernel
theorem dX7_give_0 : decode cX7_give 0 = .ok (.aload_n 0, 1) := by decide +kernel
theorem dX7_give_1 : decode cX7_give 1 = .ok (.iload_n 1, 1) := by decide +kernel
theorem dX7_give_2 : decode cX7_give 2 = .ok (.iload_n 2, 1) := by decide +kernel
theorem dX7_give_3 : decode cX7_give 3 = .ok (.invokevirtual 98, 3) := by decide +kernel
theorem dX7_give_6 : decode cX7_give 6 = .ok (.istore 5, 2) := by decide +kernel
theorem dX7_give_8 : decode cX7_give 8 = .ok (.iload 5, 2) := by decide +kernel
theorem dX7_give_10 : decode cX7_give 10 = .ok (.ifCond .ge 21, 3) := by decide +kernel
theorem dX7_give_13 : decode cX7_give 13 = .ok (.aload_n 0, 1) := by decide +kernel
theorem dX7_give_14 : decode cX7_give 14 = .ok (.getfield 9, 3) := by decide +kernel
theorem dX7_give_17 : decode cX7_give 17 = .ok (.iconst 1, 1) := by decide +kernel
theorem dX7_give_18 : decode cX7_give 18 = .ok (.iaload, 1) := by decide +kernel
theorem dX7_give_19 : decode cX7_give 19 = .ok (.istore 5, 2) := by decide +kernel
theorem dX7_give_21 : decode cX7_give 21 = .ok (.aload_n 0, 1) := by decide +kernel
theorem dX7_give_22 : decode cX7_give 22 = .ok (.getfield 9, 3) := by decide +kernel
theorem dX7_give_25 : decode cX7_give 25 = .ok (.iconst 1, 1) := by decide +kernel
theorem dX7_give_26 : decode cX7_give 26 = .ok (.dup2, 1) := by decide +kernel
theorem dX7_give_27 : decode cX7_give 27 = .ok (.iaload, 1) := by decide +kernel
theorem dX7_give_28 : decode cX7_give 28 = .ok (.iconst 1, 1) := by decide +kernel
theorem dX7_give_29 : decode cX7_give 29 = .ok (.iadd, 1) := by decide +kernel
theorem dX7_give_30 : decode cX7_give 30 = .ok (.iastore, 1) := by decide +kernel
theorem dX7_give_31 : decode cX7_give 31 = .ok (.sipush 162, 3) := by decide +kernel
theorem dX7_give_34 : decode cX7_give 34 = .ok (.iconst 4, 1) := by decide +kernel
theorem dX7_give_35 : decode cX7_give 35 = .ok (.iload 5, 2) := by decide +kernel
theorem dX7_give_37 : decode cX7_give 37 = .ok (.imul, 1) := by decide +kernel
theorem dX7_give_38 : decode cX7_give 38 = .ok (.iadd, 1) := by decide +kernel
theorem dX7_give_39 : decode cX7_give 39 = .ok (.istore 6, 2) := by decide +kernel
theorem dX7_give_41 : decode cX7_give 41 = .ok (.aload_n 0, 1) := by decide +kernel
theorem dX7_give_42 : decode cX7_give 42 = .ok (.getfield 9, 3) := by decide +kernel
theorem dX7_give_45 : decode cX7_give 45 = .ok (.iload 6, 2) := by decide +kernel
theorem dX7_give_47 : decode cX7_give 47 = .ok (.iload_n 1, 1) := by decide +kernel
theorem dX7_give_48 : decode cX7_give 48 = .ok (.iastore, 1) := by decide +kernel
theorem dX7_give_49 : decode cX7_give 49 = .ok (.aload_n 0, 1) := by decide +kernel
theorem dX7_give_50 : decode cX7_give 50 = .ok (.getfield 9, 3) := by decide +kernel
theorem dX7_give_53 : decode cX7_give 53 = .ok (.iload 6, 2) := by decide +kernel
theorem dX7_give_55 : decode cX7_give 55 = .ok (.iconst 1, 1) := by decide +kernel
theorem dX7_give_56 : decode cX7_give 56 = .ok (.iadd, 1) := by decide +kernel
theorem dX7_give_57 : decode cX7_give 57 = .ok (.iload_n 2, 1) := by decide +kernel
theorem dX7_give_58 : decode cX7_give 58 = .ok (.iastore, 1) := by decide +kernel
theorem dX7_give_59 : decode cX7_give 59 = .ok (.aload_n 0, 1) := by decide +kernel
theorem dX7_give_60 : decode cX7_give 60 = .ok (.getfield 9, 3) := by decide +kernel
theorem dX7_give_63 : decode cX7_give 63 = .ok (.iload 6, 2) := by decide +kernel
theorem dX7_give_65 : decode cX7_give 65 = .ok (.iconst 2, 1) := by decide +kernel
theorem dX7_give_66 : decode cX7_give 66 = .ok (.iadd, 1) := by decide +kernel
theorem dX7_give_67 : decode cX7_give 67 = .ok (.iload_n 3, 1) := by decide +kernel
theorem dX7_give_68 : decode cX7_give 68 = .ok (.iastore, 1) := by decide +kernel
theorem dX7_give_69 : decode cX7_give 69 = .ok (.aload_n 0, 1) := by decide +kernel
theorem dX7_give_70 : decode cX7_give 70 = .ok (.getfield 9, 3) := by decide +kernel
theorem dX7_give_73 : decode cX7_give 73 = .ok (.iload 6, 2) := by decide +kernel
theorem dX7_give_75 : decode cX7_give 75 = .ok (.iconst 3, 1) := by decide +kernel
theorem dX7_give_76 : decode cX7_give 76 = .ok (.iadd, 1) := by decide +kernel
theorem dX7_give_77 : decode cX7_give 77 = .ok (.iload 4, 2) := by decide +kernel
theorem dX7_give_79 : decode cX7_give 79 = .ok (.iastore, 1) := by decide +kernel
theorem dX7_give_80 : decode cX7_give 80 = .ok (.return_, 1) := by decide +kernel
theorem dX7_takeAway_0 : decode cX7_takeAway 0 = .ok (.aload_n 0, 1) := by decide +kernel
theorem dX7_takeAway_1 : decode cX7_takeAway 1 = .ok (.getfield 9, 3) := by decide +kernel
theorem dX7_takeAway_4 : decode cX7_takeAway 4 = .ok (.iconst 1, 1) := by decide +kernel
theorem dX7_takeAway_5 : decode cX7_takeAway 5 = .ok (.dup2, 1) := by decide +kernel
theorem dX7_takeAway_6 : decode cX7_takeAway 6 = .ok (.iaload, 1) := by decide +kernel
theorem dX7_takeAway_7 : decode cX7_takeAway 7 = .ok (.iconst 1, 1) := by decide +kernel
theorem dX7_takeAway_8 : decode cX7_takeAway 8 = .ok (.isub, 1) := by decide +kernel
theorem dX7_takeAway_9 : decode cX7_takeAway 9 = .ok (.iastore, 1) := by decide +kernel
theorem dX7_takeAway_10 : decode cX7_takeAway 10 = .ok (.aload_n 0, 1) := by decide +kernel
theorem dX7_takeAway_11 : decode cX7_takeAway 11 = .ok (.getfield 9, 3) := by decide +kernel
theorem dX7_takeAway_14 : decode cX7_takeAway 14 = .ok (.sipush 162, 3) := by decide +kernel
theorem dX7_takeAway_17 : decode cX7_takeAway 17 = .ok (.iconst 4, 1) := by decide +kernel
theorem dX7_takeAway_18 : decode cX7_takeAway 18 = .ok (.iload_n 1, 1) := by decide +kernel
theorem dX7_takeAway_19 : decode cX7_takeAway 19 = .ok (.imul, 1) := by decide +kernel
theorem dX7_takeAway_20 : decode cX7_takeAway 20 = .ok (.iadd, 1) := by decide +kernel
theorem dX7_takeAway_21 : decode cX7_takeAway 21 = .ok (.iconst 4, 1) := by decide +kernel
theorem dX7_takeAway_22 : decode cX7_takeAway 22 = .ok (.iadd, 1) := by decide +kernel
theorem dX7_takeAway_23 : decode cX7_takeAway 23 = .ok (.aload_n 0, 1) := by decide +kernel
theorem dX7_takeAway_24 : decode cX7_takeAway 24 = .ok (.getfield 9, 3) := by decide +kernel
theorem dX7_takeAway_27 : decode cX7_takeAway 27 = .ok (.sipush 162, 3) := by decide +kernel
theorem dX7_takeAway_30 : decode cX7_takeAway 30 = .ok (.iconst 4, 1) := by decide +kernel
theorem dX7_takeAway_31 : decode cX7_takeAway 31 = .ok (.iload_n 1, 1) := by decide +kernel
theorem dX7_takeAway_32 : decode cX7_takeAway 32 = .ok (.imul, 1) := by decide +kernel
theorem dX7_takeAway_33 : decode cX7_takeAway 33 = .ok (.iadd, 1) := by decide +kernel
theorem dX7_takeAway_34 : decode cX7_takeAway 34 = .ok (.iconst 4, 1) := by decide +kernel
theorem dX7_takeAway_35 : decode cX7_takeAway 35 = .ok (.aload_n 0, 1) := by decide +kernel
theorem dX7_takeAway_36 : decode cX7_takeAway 36 = .ok (.getfield 9, 3) := by decide +kernel
theorem dX7_takeAway_39 : decode cX7_takeAway 39 = .ok (.iconst 1, 1) := by decide +kernel
theorem dX7_takeAway_40 : decode cX7_takeAway 40 = .ok (.iaload, 1) := by decide +kernel
theorem dX7_takeAway_41 : decode cX7_takeAway 41 = .ok (.iload_n 1, 1) := by decide +kernel
theorem dX7_takeAway_42 : decode cX7_takeAway 42 = .ok (.isub, 1) := by decide +kernel
theorem dX7_takeAway_43 : decode cX7_takeAway 43 = .ok (.imul, 1) := by decide +kernel
theorem dX7_takeAway_44 : decode cX7_takeAway 44 = .ok (.invokestatic 48, 3) := by decide +kernel
theorem dX7_takeAway_47 : decode cX7_takeAway 47 = .ok (.return_, 1) := by decide +kernel
theorem dX7_levelIn_0 : decode cX7_levelIn 0 = .ok (.aload_n 0, 1) := by decide +kernel
theorem dX7_levelIn_1 : decode cX7_levelIn 1 = .ok (.getfield 9, 3) := by decide +kernel
theorem dX7_levelIn_4 : decode cX7_levelIn 4 = .ok (.bipush 6, 2) := by decide +kernel
theorem dX7_levelIn_6 : decode cX7_levelIn 6 = .ok (.iload_n 2, 1) := by decide +kernel
theorem dX7_levelIn_7 : decode cX7_levelIn 7 = .ok (.iadd, 1) := by decide +kernel
theorem dX7_levelIn_8 : decode cX7_levelIn 8 = .ok (.iaload, 1) := by decide +kernel
theorem dX7_levelIn_9 : decode cX7_levelIn 9 = .ok (.istore_n 3, 1) := by decide +kernel
theorem dX7_levelIn_10 : decode cX7_levelIn 10 = .ok (.iconst 0, 1) := by decide +kernel
theorem dX7_levelIn_11 : decode cX7_levelIn 11 = .ok (.istore 4, 2) := by decide +kernel
theorem dX7_levelIn_13 : decode cX7_levelIn 13 = .ok (.iload 4, 2) := by decide +kernel
theorem dX7_levelIn_15 : decode cX7_levelIn 15 = .ok (.iload_n 1, 1) := by decide +kernel
theorem dX7_levelIn_16 : decode cX7_levelIn 16 = .ok (.if_icmp .gt 100, 3) := by decide +kernel
theorem dX7_levelIn_19 : decode cX7_levelIn 19 = .ok (.aload_n 0, 1) := by decide +kernel
theorem dX7_levelIn_20 : decode cX7_levelIn 20 = .ok (.aload_n 0, 1) := by decide +kernel
theorem dX7_levelIn_21 : decode cX7_levelIn 21 = .ok (.getfield 9, 3) := by decide +kernel
theorem dX7_levelIn_24 : decode cX7_levelIn 24 = .ok (.iload 4, 2) := by decide +kernel
theorem dX7_levelIn_26 : decode cX7_levelIn 26 = .ok (.invokestatic 63, 3) := by decide +kernel
theorem dX7_levelIn_29 : decode cX7_levelIn 29 = .ok (.iaload, 1) := by decide +kernel
theorem dX7_levelIn_30 : decode cX7_levelIn 30 = .ok (.iload_n 2, 1) := by decide +kernel
theorem dX7_levelIn_31 : decode cX7_levelIn 31 = .ok (.invokevirtual 98, 3) := by decide +kernel
theorem dX7_levelIn_34 : decode cX7_levelIn 34 = .ok (.istore 5, 2) := by decide +kernel
theorem dX7_levelIn_36 : decode cX7_levelIn 36 = .ok (.iload 5, 2) := by decide +kernel
theorem dX7_levelIn_38 : decode cX7_levelIn 38 = .ok (.ifCond .lt 53, 3) := by decide +kernel
theorem dX7_levelIn_41 : decode cX7_levelIn 41 = .ok (.aload_n 0, 1) := by decide +kernel
theorem dX7_levelIn_42 : decode cX7_levelIn 42 = .ok (.getfield 9, 3) := by decide +kernel
theorem dX7_levelIn_45 : decode cX7_levelIn 45 = .ok (.sipush 162, 3) := by decide +kernel
theorem dX7_levelIn_48 : decode cX7_levelIn 48 = .ok (.iconst 4, 1) := by decide +kernel
theorem dX7_levelIn_49 : decode cX7_levelIn 49 = .ok (.iload 5, 2) := by decide +kernel
theorem dX7_levelIn_51 : decode cX7_levelIn 51 = .ok (.imul, 1) := by decide +kernel
theorem dX7_levelIn_52 : decode cX7_levelIn 52 = .ok (.iadd, 1) := by decide +kernel
theorem dX7_levelIn_53 : decode cX7_levelIn 53 = .ok (.iconst 2, 1) := by decide +kernel
theorem dX7_levelIn_54 : decode cX7_levelIn 54 = .ok (.iadd, 1) := by decide +kernel
theorem dX7_levelIn_55 : decode cX7_levelIn 55 = .ok (.iaload, 1) := by decide +kernel
theorem dX7_levelIn_56 : decode cX7_levelIn 56 = .ok (.iconst (-1), 1) := by decide +kernel
theorem dX7_levelIn_57 : decode cX7_levelIn 57 = .ok (.if_icmp .ne 15, 3) := by decide +kernel
theorem dX7_levelIn_60 : decode cX7_levelIn 60 = .ok (.aload_n 0, 1) := by decide +kernel
theorem dX7_levelIn_61 : decode cX7_levelIn 61 = .ok (.getfield 9, 3) := by decide +kernel
theorem dX7_levelIn_64 : decode cX7_levelIn 64 = .ok (.bipush 6, 2) := by decide +kernel
theorem dX7_levelIn_66 : decode cX7_levelIn 66 = .ok (.iload_n 2, 1) := by decide +kernel
theorem dX7_levelIn_67 : decode cX7_levelIn 67 = .ok (.iadd, 1) := by decide +kernel
theorem dX7_levelIn_68 : decode cX7_levelIn 68 = .ok (.iaload, 1) := by decide +kernel
theorem dX7_levelIn_69 : decode cX7_levelIn 69 = .ok (.goto 18, 3) := by decide +kernel
theorem dX7_levelIn_72 : decode cX7_levelIn 72 = .ok (.aload_n 0, 1) := by decide +kernel
theorem dX7_levelIn_73 : decode cX7_levelIn 73 = .ok (.getfield 9, 3) := by decide +kernel
theorem dX7_levelIn_76 : decode cX7_levelIn 76 = .ok (.sipush 162, 3) := by decide +kernel
theorem dX7_levelIn_79 : decode cX7_levelIn 79 = .ok (.iconst 4, 1) := by decide +kernel
theorem dX7_levelIn_80 : decode cX7_levelIn 80 = .ok (.iload 5, 2) := by decide +kernel
theorem dX7_levelIn_82 : decode cX7_levelIn 82 = .ok (.imul, 1) := by decide +kernel
theorem dX7_levelIn_83 : decode cX7_levelIn 83 = .ok (.iadd, 1) := by decide +kernel
theorem dX7_levelIn_84 : decode cX7_levelIn 84 = .ok (.iconst 2, 1) := by decide +kernel
theorem dX7_levelIn_85 : decode cX7_levelIn 85 = .ok (.iadd, 1) := by decide +kernel
theorem dX7_levelIn_86 : decode cX7_levelIn 86 = .ok (.iaload, 1) := by decide +kernel
theorem dX7_levelIn_87 : decode cX7_levelIn 87 = .ok (.istore_n 3, 1) := by decide +kernel
theorem dX7_levelIn_88 : decode cX7_levelIn 88 = .ok (.goto 22, 3) := by decide +kernel
theorem dX7_levelIn_91 : decode cX7_levelIn 91 = .ok (.aload_n 0, 1) := by decide +kernel
theorem dX7_levelIn_92 : decode cX7_levelIn 92 = .ok (.iload 4, 2) := by decide +kernel
theorem dX7_levelIn_94 : decode cX7_levelIn 94 = .ok (.invokevirtual 101, 3) := by decide +kernel
theorem dX7_levelIn_97 : decode cX7_levelIn 97 = .ok (.ifCond .eq 13, 3) := by decide +kernel
theorem dX7_levelIn_100 : decode cX7_levelIn 100 = .ok (.aload_n 0, 1) := by decide +kernel
theorem dX7_levelIn_101 : decode cX7_levelIn 101 = .ok (.getfield 9, 3) := by decide +kernel
theorem dX7_levelIn_104 : decode cX7_levelIn 104 = .ok (.bipush 6, 2) := by decide +kernel
theorem dX7_levelIn_106 : decode cX7_levelIn 106 = .ok (.iload_n 2, 1) := by decide +kernel
theorem dX7_levelIn_107 : decode cX7_levelIn 107 = .ok (.iadd, 1) := by decide +kernel
theorem dX7_levelIn_108 : decode cX7_levelIn 108 = .ok (.iaload, 1) := by decide +kernel
theorem dX7_levelIn_109 : decode cX7_levelIn 109 = .ok (.istore_n 3, 1) := by decide +kernel
theorem dX7_levelIn_110 : decode cX7_levelIn 110 = .ok (.iinc 4 1, 3) := by decide +kernel
theorem dX7_levelIn_113 : decode cX7_levelIn 113 = .ok (.goto (-100), 3) := by decide +kernel
theorem dX7_levelIn_116 : decode cX7_levelIn 116 = .ok (.iload_n 3, 1) := by decide +kernel
theorem dX7_levelIn_117 : decode cX7_levelIn 117 = .ok (.ireturn, 1) := by decide +kernel
theorem dX7_moves_0 : decode cX7_moves 0 = .ok (.iload_n 1, 1) := by decide +kernel
theorem dX7_moves_1 : decode cX7_moves 1 = .ok (.ifCond .ne 15, 3) := by decide +kernel
theorem dX7_moves_4 : decode cX7_moves 4 = .ok (.aload_n 0, 1) := by decide +kernel
theorem dX7_moves_5 : decode cX7_moves 5 = .ok (.getfield 9, 3) := by decide +kernel
theorem dX7_moves_8 : decode cX7_moves 8 = .ok (.bipush 6, 2) := by decide +kernel
theorem dX7_moves_10 : decode cX7_moves 10 = .ok (.iload_n 2, 1) := by decide +kernel
theorem dX7_moves_11 : decode cX7_moves 11 = .ok (.iadd, 1) := by decide +kernel
theorem dX7_moves_12 : decode cX7_moves 12 = .ok (.iaload, 1) := by decide +kernel
theorem dX7_moves_13 : decode cX7_moves 13 = .ok (.goto 11, 3) := by decide +kernel
theorem dX7_moves_16 : decode cX7_moves 16 = .ok (.aload_n 0, 1) := by decide +kernel
theorem dX7_moves_17 : decode cX7_moves 17 = .ok (.iload_n 1, 1) := by decide +kernel
theorem dX7_moves_18 : decode cX7_moves 18 = .ok (.iconst 1, 1) := by decide +kernel
theorem dX7_moves_19 : decode cX7_moves 19 = .ok (.isub, 1) := by decide +kernel
theorem dX7_moves_20 : decode cX7_moves 20 = .ok (.iload_n 2, 1) := by decide +kernel
theorem dX7_moves_21 : decode cX7_moves 21 = .ok (.invokevirtual 84, 3) := by decide +kernel
theorem dX7_moves_24 : decode cX7_moves 24 = .ok (.istore_n 3, 1) := by decide +kernel
theorem dX7_moves_25 : decode cX7_moves 25 = .ok (.aload_n 0, 1) := by decide +kernel
theorem dX7_moves_26 : decode cX7_moves 26 = .ok (.iload_n 1, 1) := by decide +kernel
theorem dX7_moves_27 : decode cX7_moves 27 = .ok (.iload_n 2, 1) := by decide +kernel
theorem dX7_moves_28 : decode cX7_moves 28 = .ok (.invokevirtual 84, 3) := by decide +kernel
theorem dX7_moves_31 : decode cX7_moves 31 = .ok (.iload_n 3, 1) := by decide +kernel
theorem dX7_moves_32 : decode cX7_moves 32 = .ok (.if_icmp .eq 7, 3) := by decide +kernel
theorem dX7_moves_35 : decode cX7_moves 35 = .ok (.iconst 1, 1) := by decide +kernel
theorem dX7_moves_36 : decode cX7_moves 36 = .ok (.goto 4, 3) := by decide +kernel
theorem dX7_moves_39 : decode cX7_moves 39 = .ok (.iconst 0, 1) := by decide +kernel
theorem dX7_moves_40 : decode cX7_moves 40 = .ok (.ireturn, 1) := by decide +kernel
theorem dX7_partOf_0 : decode cX7_partOf 0 = .ok (.aload_n 0, 1) := by decide +kernel
theorem dX7_partOf_1 : decode cX7_partOf 1 = .ok (.iload_n 1, 1) := by decide +kernel
theorem dX7_partOf_2 : decode cX7_partOf 2 = .ok (.iload_n 2, 1) := by decide +kernel
theorem dX7_partOf_3 : decode cX7_partOf 3 = .ok (.invokevirtual 98, 3) := by decide +kernel
theorem dX7_partOf_6 : decode cX7_partOf 6 = .ok (.istore_n 3, 1) := by decide +kernel
theorem dX7_partOf_7 : decode cX7_partOf 7 = .ok (.iload_n 3, 1) := by decide +kernel
theorem dX7_partOf_8 : decode cX7_partOf 8 = .ok (.ifCond .ge 7, 3) := by decide +kernel
theorem dX7_partOf_11 : decode cX7_partOf 11 = .ok (.iconst 0, 1) := by decide +kernel
theorem dX7_partOf_12 : decode cX7_partOf 12 = .ok (.goto 17, 3) := by decide +kernel
theorem dX7_partOf_15 : decode cX7_partOf 15 = .ok (.aload_n 0, 1) := by decide +kernel
theorem dX7_partOf_16 : decode cX7_partOf 16 = .ok (.getfield 9, 3) := by decide +kernel
theorem dX7_partOf_19 : decode cX7_partOf 19 = .ok (.sipush 162, 3) := by decide +kernel
theorem dX7_partOf_22 : decode cX7_partOf 22 = .ok (.iconst 4, 1) := by decide +kernel
theorem dX7_partOf_23 : decode cX7_partOf 23 = .ok (.iload_n 3, 1) := by decide +kernel
theorem dX7_partOf_24 : decode cX7_partOf 24 = .ok (.imul, 1) := by decide +kernel
theorem dX7_partOf_25 : decode cX7_partOf 25 = .ok (.iadd, 1) := by decide +kernel
theorem dX7_partOf_26 : decode cX7_partOf 26 = .ok (.iconst 3, 1) := by decide +kernel
theorem dX7_partOf_27 : decode cX7_partOf 27 = .ok (.iadd, 1) := by decide +kernel
theorem dX7_partOf_28 : decode cX7_partOf 28 = .ok (.iaload, 1) := by decide +kernel
theorem dX7_partOf_29 : decode cX7_partOf 29 = .ok (.ireturn, 1) := by decide +kernel
theorem dX7_lengthOf_0 : decode cX7_lengthOf 0 = .ok (.aload_n 0, 1) := by decide +kernel
theorem dX7_lengthOf_1 : decode cX7_lengthOf 1 = .ok (.iload_n 1, 1) := by decide +kernel
theorem dX7_lengthOf_2 : decode cX7_lengthOf 2 = .ok (.iload_n 2, 1) := by decide +kernel
theorem dX7_lengthOf_3 : decode cX7_lengthOf 3 = .ok (.invokevirtual 104, 3) := by decide +kernel
theorem dX7_lengthOf_6 : decode cX7_lengthOf 6 = .ok (.istore_n 3, 1) := by decide +kernel
theorem dX7_lengthOf_7 : decode cX7_lengthOf 7 = .ok (.aload_n 0, 1) := by decide +kernel
theorem dX7_lengthOf_8 : decode cX7_lengthOf 8 = .ok (.getfield 9, 3) := by decide +kernel
theorem dX7_lengthOf_11 : decode cX7_lengthOf 11 = .ok (.aload_n 0, 1) := by decide +kernel
theorem dX7_lengthOf_12 : decode cX7_lengthOf 12 = .ok (.iload_n 1, 1) := by decide +kernel
theorem dX7_lengthOf_13 : decode cX7_lengthOf 13 = .ok (.iload_n 3, 1) := by decide +kernel
theorem dX7_lengthOf_14 : decode cX7_lengthOf 14 = .ok (.iconst 1, 1) := by decide +kernel
theorem dX7_lengthOf_15 : decode cX7_lengthOf 15 = .ok (.invokevirtual 94, 3) := by decide +kernel
theorem dX7_lengthOf_18 : decode cX7_lengthOf 18 = .ok (.iaload, 1) := by decide +kernel
theorem dX7_lengthOf_19 : decode cX7_lengthOf 19 = .ok (.aload_n 0, 1) := by decide +kernel
theorem dX7_lengthOf_20 : decode cX7_lengthOf 20 = .ok (.getfield 9, 3) := by decide +kernel
theorem dX7_lengthOf_23 : decode cX7_lengthOf 23 = .ok (.aload_n 0, 1) := by decide +kernel
theorem dX7_lengthOf_24 : decode cX7_lengthOf 24 = .ok (.iload_n 1, 1) := by decide +kernel
theorem dX7_lengthOf_25 : decode cX7_lengthOf 25 = .ok (.iload_n 3, 1) := by decide +kernel
theorem dX7_lengthOf_26 : decode cX7_lengthOf 26 = .ok (.iconst 0, 1) := by decide +kernel
theorem dX7_lengthOf_27 : decode cX7_lengthOf 27 = .ok (.invokevirtual 94, 3) := by decide +kernel
theorem dX7_lengthOf_30 : decode cX7_lengthOf 30 = .ok (.iaload, 1) := by decide +kernel
theorem dX7_lengthOf_31 : decode cX7_lengthOf 31 = .ok (.iadd, 1) := by decide +kernel
theorem dX7_lengthOf_32 : decode cX7_lengthOf 32 = .ok (.ireturn, 1) := by decide +kernel
theorem dX7_countOf_0 : decode cX7_countOf 0 = .ok (.iconst 0, 1) := by decide +kernel
theorem dX7_countOf_1 : decode cX7_countOf 1 = .ok (.istore_n 2, 1) := by decide +kernel
theorem dX7_countOf_2 : decode cX7_countOf 2 = .ok (.iconst 0, 1) := by decide +kernel
theorem dX7_countOf_3 : decode cX7_countOf 3 = .ok (.istore_n 3, 1) := by decide +kernel
theorem dX7_countOf_4 : decode cX7_countOf 4 = .ok (.iload_n 3, 1) := by decide +kernel
theorem dX7_countOf_5 : decode cX7_countOf 5 = .ok (.aload_n 0, 1) := by decide +kernel
theorem dX7_countOf_6 : decode cX7_countOf 6 = .ok (.getfield 9, 3) := by decide +kernel
theorem dX7_countOf_9 : decode cX7_countOf 9 = .ok (.iconst 1, 1) := by decide +kernel
theorem dX7_countOf_10 : decode cX7_countOf 10 = .ok (.iaload, 1) := by decide +kernel
theorem dX7_countOf_11 : decode cX7_countOf 11 = .ok (.if_icmp .ge 33, 3) := by decide +kernel
theorem dX7_countOf_14 : decode cX7_countOf 14 = .ok (.iload_n 2, 1) := by decide +kernel
theorem dX7_countOf_15 : decode cX7_countOf 15 = .ok (.aload_n 0, 1) := by decide +kernel
theorem dX7_countOf_16 : decode cX7_countOf 16 = .ok (.getfield 9, 3) := by decide +kernel
theorem dX7_countOf_19 : decode cX7_countOf 19 = .ok (.sipush 162, 3) := by decide +kernel
theorem dX7_countOf_22 : decode cX7_countOf 22 = .ok (.iconst 4, 1) := by decide +kernel
theorem dX7_countOf_23 : decode cX7_countOf 23 = .ok (.iload_n 3, 1) := by decide +kernel
theorem dX7_countOf_24 : decode cX7_countOf 24 = .ok (.imul, 1) := by decide +kernel
theorem dX7_countOf_25 : decode cX7_countOf 25 = .ok (.iadd, 1) := by decide +kernel
theorem dX7_countOf_26 : decode cX7_countOf 26 = .ok (.iaload, 1) := by decide +kernel
theorem dX7_countOf_27 : decode cX7_countOf 27 = .ok (.iload_n 1, 1) := by decide +kernel
theorem dX7_countOf_28 : decode cX7_countOf 28 = .ok (.if_icmp .ne 7, 3) := by decide +kernel
theorem dX7_countOf_31 : decode cX7_countOf 31 = .ok (.iconst 1, 1) := by decide +kernel
theorem dX7_countOf_32 : decode cX7_countOf 32 = .ok (.goto 4, 3) := by decide +kernel
theorem dX7_countOf_35 : decode cX7_countOf 35 = .ok (.iconst 0, 1) := by decide +kernel
theorem dX7_countOf_36 : decode cX7_countOf 36 = .ok (.iadd, 1) := by decide +kernel
theorem dX7_countOf_37 : decode cX7_countOf 37 = .ok (.istore_n 2, 1) := by decide +kernel
theorem dX7_countOf_38 : decode cX7_countOf 38 = .ok (.iinc 3 1, 3) := by decide +kernel
theorem dX7_countOf_41 : decode cX7_countOf 41 = .ok (.goto (-37), 3) := by decide +kernel
theorem dX7_countOf_44 : decode cX7_countOf 44 = .ok (.iload_n 2, 1) := by decide +kernel
theorem dX7_countOf_45 : decode cX7_countOf 45 = .ok (.ireturn, 1) := by decide +kernel
theorem dX7_cue_0 : decode cX7_cue 0 = .ok (.aload_n 0, 1) := by decide +kernel
theorem dX7_cue_1 : decode cX7_cue 1 = .ok (.aload_n 0, 1) := by decide +kernel
theorem dX7_cue_2 : decode cX7_cue 2 = .ok (.iload_n 1, 1) := by decide +kernel
theorem dX7_cue_3 : decode cX7_cue 3 = .ok (.invokevirtual 74, 3) := by decide +kernel
theorem dX7_cue_6 : decode cX7_cue 6 = .ok (.ifCond .ne 7, 3) := by decide +kernel
theorem dX7_cue_9 : decode cX7_cue 9 = .ok (.iconst 1, 1) := by decide +kernel
theorem dX7_cue_10 : decode cX7_cue 10 = .ok (.goto 18, 3) := by decide +kernel
theorem dX7_cue_13 : decode cX7_cue 13 = .ok (.iload_n 2, 1) := by decide +kernel
theorem dX7_cue_14 : decode cX7_cue 14 = .ok (.iconst 0, 1) := by decide +kernel
theorem dX7_cue_15 : decode cX7_cue 15 = .ok (.bipush 6, 2) := by decide +kernel
theorem dX7_cue_17 : decode cX7_cue 17 = .ok (.invokestatic 70, 3) := by decide +kernel
theorem dX7_cue_20 : decode cX7_cue 20 = .ok (.ifCond .ne 7, 3) := by decide +kernel
theorem dX7_cue_23 : decode cX7_cue 23 = .ok (.iconst 2, 1) := by decide +kernel
theorem dX7_cue_24 : decode cX7_cue 24 = .ok (.goto 4, 3) := by decide +kernel
theorem dX7_cue_27 : decode cX7_cue 27 = .ok (.iconst 0, 1) := by decide +kernel
theorem dX7_cue_28 : decode cX7_cue 28 = .ok (.putfield 42, 3) := by decide +kernel
theorem dX7_cue_31 : decode cX7_cue 31 = .ok (.aload_n 0, 1) := by decide +kernel
theorem dX7_cue_32 : decode cX7_cue 32 = .ok (.getfield 42, 3) := by decide +kernel
theorem dX7_cue_35 : decode cX7_cue 35 = .ok (.ifCond .le 5, 3) := by decide +kernel
theorem dX7_cue_38 : decode cX7_cue 38 = .ok (.iconst 0, 1) := by decide +kernel
theorem dX7_cue_39 : decode cX7_cue 39 = .ok (.ireturn, 1) := by decide +kernel
theorem dX7_cue_40 : decode cX7_cue 40 = .ok (.aload_n 0, 1) := by decide +kernel
theorem dX7_cue_41 : decode cX7_cue 41 = .ok (.iload_n 1, 1) := by decide +kernel
theorem dX7_cue_42 : decode cX7_cue 42 = .ok (.invokevirtual 67, 3) := by decide +kernel
theorem dX7_cue_45 : decode cX7_cue 45 = .ok (.istore_n 3, 1) := by decide +kernel
theorem dX7_cue_46 : decode cX7_cue 46 = .ok (.iload_n 2, 1) := by decide +kernel
theorem dX7_cue_47 : decode cX7_cue 47 = .ok (.ifCond .ne 5, 3) := by decide +kernel
theorem dX7_cue_50 : decode cX7_cue 50 = .ok (.iload_n 3, 1) := by decide +kernel
theorem dX7_cue_51 : decode cX7_cue 51 = .ok (.ireturn, 1) := by decide +kernel
theorem dX7_cue_52 : decode cX7_cue 52 = .ok (.iload_n 2, 1) := by decide +kernel
theorem dX7_cue_53 : decode cX7_cue 53 = .ok (.iconst 4, 1) := by decide +kernel
theorem dX7_cue_54 : decode cX7_cue 54 = .ok (.if_icmp .ge 15, 3) := by decide +kernel
theorem dX7_cue_57 : decode cX7_cue 57 = .ok (.aload_n 0, 1) := by decide +kernel
theorem dX7_cue_58 : decode cX7_cue 58 = .ok (.getfield 9, 3) := by decide +kernel
theorem dX7_cue_61 : decode cX7_cue 61 = .ok (.iload_n 3, 1) := by decide +kernel
theorem dX7_cue_62 : decode cX7_cue 62 = .ok (.invokestatic 63, 3) := by decide +kernel
theorem dX7_cue_65 : decode cX7_cue 65 = .ok (.iload_n 2, 1) := by decide +kernel
theorem dX7_cue_66 : decode cX7_cue 66 = .ok (.iadd, 1) := by decide +kernel
theorem dX7_cue_67 : decode cX7_cue 67 = .ok (.iaload, 1) := by decide +kernel
theorem dX7_cue_68 : decode cX7_cue 68 = .ok (.ireturn, 1) := by decide +kernel
theorem dX7_cue_69 : decode cX7_cue 69 = .ok (.iload_n 2, 1) := by decide +kernel
theorem dX7_cue_70 : decode cX7_cue 70 = .ok (.iconst 4, 1) := by decide +kernel
theorem dX7_cue_71 : decode cX7_cue 71 = .ok (.if_icmp .ne 9, 3) := by decide +kernel
theorem dX7_cue_74 : decode cX7_cue 74 = .ok (.aload_n 0, 1) := by decide +kernel
theorem dX7_cue_75 : decode cX7_cue 75 = .ok (.iload_n 1, 1) := by decide +kernel
theorem dX7_cue_76 : decode cX7_cue 76 = .ok (.invokevirtual 107, 3) := by decide +kernel
theorem dX7_cue_79 : decode cX7_cue 79 = .ok (.ireturn, 1) := by decide +kernel
theorem dX7_cue_80 : decode cX7_cue 80 = .ok (.iconst 0, 1) := by decide +kernel
theorem dX7_cue_81 : decode cX7_cue 81 = .ok (.istore 4, 2) := by decide +kernel
theorem dX7_cue_83 : decode cX7_cue 83 = .ok (.iconst 0, 1) := by decide +kernel
theorem dX7_cue_84 : decode cX7_cue 84 = .ok (.istore 5, 2) := by decide +kernel
theorem dX7_cue_86 : decode cX7_cue 86 = .ok (.iconst 0, 1) := by decide +kernel
theorem dX7_cue_87 : decode cX7_cue 87 = .ok (.istore 6, 2) := by decide +kernel
theorem dX7_cue_89 : decode cX7_cue 89 = .ok (.iload 6, 2) := by decide +kernel
theorem dX7_cue_91 : decode cX7_cue 91 = .ok (.bipush 12, 2) := by decide +kernel
theorem dX7_cue_93 : decode cX7_cue 93 = .ok (.if_icmp .ge 42, 3) := by decide +kernel
theorem dX7_cue_96 : decode cX7_cue 96 = .ok (.aload_n 0, 1) := by decide +kernel
theorem dX7_cue_97 : decode cX7_cue 97 = .ok (.iload_n 3, 1) := by decide +kernel
theorem dX7_cue_98 : decode cX7_cue 98 = .ok (.iload 6, 2) := by decide +kernel
theorem dX7_cue_100 : decode cX7_cue 100 = .ok (.invokevirtual 110, 3) := by decide +kernel
theorem dX7_cue_103 : decode cX7_cue 103 = .ok (.ifCond .eq 26, 3) := by decide +kernel
theorem dX7_cue_106 : decode cX7_cue 106 = .ok (.iload 4, 2) := by decide +kernel
theorem dX7_cue_108 : decode cX7_cue 108 = .ok (.iconst 1, 1) := by decide +kernel
theorem dX7_cue_109 : decode cX7_cue 109 = .ok (.iload 6, 2) := by decide +kernel
theorem dX7_cue_111 : decode cX7_cue 111 = .ok (.ishl, 1) := by decide +kernel
theorem dX7_cue_112 : decode cX7_cue 112 = .ok (.ior, 1) := by decide +kernel
theorem dX7_cue_113 : decode cX7_cue 113 = .ok (.istore 4, 2) := by decide +kernel
theorem dX7_cue_115 : decode cX7_cue 115 = .ok (.iload 5, 2) := by decide +kernel
theorem dX7_cue_117 : decode cX7_cue 117 = .ok (.aload_n 0, 1) := by decide +kernel
theorem dX7_cue_118 : decode cX7_cue 118 = .ok (.iload_n 1, 1) := by decide +kernel
theorem dX7_cue_119 : decode cX7_cue 119 = .ok (.iload 6, 2) := by decide +kernel
theorem dX7_cue_121 : decode cX7_cue 121 = .ok (.invokevirtual 114, 3) := by decide +kernel
theorem dX7_cue_124 : decode cX7_cue 124 = .ok (.invokestatic 117, 3) := by decide +kernel
theorem dX7_cue_127 : decode cX7_cue 127 = .ok (.istore 5, 2) := by decide +kernel
theorem dX7_cue_129 : decode cX7_cue 129 = .ok (.iinc 6 1, 3) := by decide +kernel
theorem dX7_cue_132 : decode cX7_cue 132 = .ok (.goto (-43), 3) := by decide +kernel
theorem dX7_cue_135 : decode cX7_cue 135 = .ok (.iload_n 2, 1) := by decide +kernel
theorem dX7_cue_136 : decode cX7_cue 136 = .ok (.iconst 5, 1) := by decide +kernel
theorem dX7_cue_137 : decode cX7_cue 137 = .ok (.if_icmp .ne 8, 3) := by decide +kernel
theorem dX7_cue_140 : decode cX7_cue 140 = .ok (.iload 4, 2) := by decide +kernel
theorem dX7_cue_142 : decode cX7_cue 142 = .ok (.goto 5, 3) := by decide +kernel
theorem dX7_cue_145 : decode cX7_cue 145 = .ok (.iload 5, 2) := by decide +kernel
theorem dX7_cue_147 : decode cX7_cue 147 = .ok (.ireturn, 1) := by decide +kernel
theorem dX7_setHome_0 : decode cX7_setHome 0 = .ok (.aload_n 0, 1) := by decide +kernel
theorem dX7_setHome_1 : decode cX7_setHome 1 = .ok (.iload_n 1, 1) := by decide +kernel
theorem dX7_setHome_2 : decode cX7_setHome 2 = .ok (.invokestatic 122, 3) := by decide +kernel
theorem dX7_setHome_5 : decode cX7_setHome 5 = .ok (.ifCond .ne 7, 3) := by decide +kernel
theorem dX7_setHome_8 : decode cX7_setHome 8 = .ok (.iconst 1, 1) := by decide +kernel
theorem dX7_setHome_9 : decode cX7_setHome 9 = .ok (.goto 18, 3) := by decide +kernel
theorem dX7_setHome_12 : decode cX7_setHome 12 = .ok (.iload_n 2, 1) := by decide +kernel
theorem dX7_setHome_13 : decode cX7_setHome 13 = .ok (.iconst 0, 1) := by decide +kernel
theorem dX7_setHome_14 : decode cX7_setHome 14 = .ok (.bipush 100, 2) := by decide +kernel
theorem dX7_setHome_16 : decode cX7_setHome 16 = .ok (.invokestatic 70, 3) := by decide +kernel
theorem dX7_setHome_19 : decode cX7_setHome 19 = .ok (.ifCond .ne 7, 3) := by decide +kernel
theorem dX7_setHome_22 : decode cX7_setHome 22 = .ok (.iconst 2, 1) := by decide +kernel
theorem dX7_setHome_23 : decode cX7_setHome 23 = .ok (.goto 4, 3) := by decide +kernel
theorem dX7_setHome_26 : decode cX7_setHome 26 = .ok (.iconst 0, 1) := by decide +kernel
theorem dX7_setHome_27 : decode cX7_setHome 27 = .ok (.putfield 42, 3) := by decide +kernel
theorem dX7_setHome_30 : decode cX7_setHome 30 = .ok (.aload_n 0, 1) := by decide +kernel
theorem dX7_setHome_31 : decode cX7_setHome 31 = .ok (.getfield 42, 3) := by decide +kernel
theorem dX7_setHome_34 : decode cX7_setHome 34 = .ok (.ifCond .le 5, 3) := by decide +kernel
theorem dX7_setHome_37 : decode cX7_setHome 37 = .ok (.iconst 0, 1) := by decide +kernel
theorem dX7_setHome_38 : decode cX7_setHome 38 = .ok (.ireturn, 1) := by decide +kernel
theorem dX7_setHome_39 : decode cX7_setHome 39 = .ok (.aload_n 0, 1) := by decide +kernel
theorem dX7_setHome_40 : decode cX7_setHome 40 = .ok (.invokevirtual 81, 3) := by decide +kernel
theorem dX7_setHome_43 : decode cX7_setHome 43 = .ok (.aload_n 0, 1) := by decide +kernel
theorem dX7_setHome_44 : decode cX7_setHome 44 = .ok (.getfield 9, 3) := by decide +kernel
theorem dX7_setHome_47 : decode cX7_setHome 47 = .ok (.bipush 6, 2) := by decide +kernel
theorem dX7_setHome_49 : decode cX7_setHome 49 = .ok (.iload_n 1, 1) := by decide +kernel
theorem dX7_setHome_50 : decode cX7_setHome 50 = .ok (.iadd, 1) := by decide +kernel
theorem dX7_setHome_51 : decode cX7_setHome 51 = .ok (.iaload, 1) := by decide +kernel
theorem dX7_setHome_52 : decode cX7_setHome 52 = .ok (.istore_n 3, 1) := by decide +kernel
theorem dX7_setHome_53 : decode cX7_setHome 53 = .ok (.aload_n 0, 1) := by decide +kernel
theorem dX7_setHome_54 : decode cX7_setHome 54 = .ok (.getfield 9, 3) := by decide +kernel
theorem dX7_setHome_57 : decode cX7_setHome 57 = .ok (.bipush 6, 2) := by decide +kernel
theorem dX7_setHome_59 : decode cX7_setHome 59 = .ok (.iload_n 1, 1) := by decide +kernel
theorem dX7_setHome_60 : decode cX7_setHome 60 = .ok (.iadd, 1) := by decide +kernel
theorem dX7_setHome_61 : decode cX7_setHome 61 = .ok (.iload_n 2, 1) := by decide +kernel
theorem dX7_setHome_62 : decode cX7_setHome 62 = .ok (.iastore, 1) := by decide +kernel
theorem dX7_setHome_63 : decode cX7_setHome 63 = .ok (.iload_n 3, 1) := by decide +kernel
theorem dX7_setHome_64 : decode cX7_setHome 64 = .ok (.ireturn, 1) := by decide +kernel
theorem dX7_hold_0 : decode cX7_hold 0 = .ok (.iload_n 1, 1) := by decide +kernel
theorem dX7_hold_1 : decode cX7_hold 1 = .ok (.iconst 0, 1) := by decide +kernel
theorem dX7_hold_2 : decode cX7_hold 2 = .ok (.aload_n 0, 1) := by decide +kernel
theorem dX7_hold_3 : decode cX7_hold 3 = .ok (.getfield 9, 3) := by decide +kernel
theorem dX7_hold_6 : decode cX7_hold 6 = .ok (.iconst 0, 1) := by decide +kernel
theorem dX7_hold_7 : decode cX7_hold 7 = .ok (.iaload, 1) := by decide +kernel
theorem dX7_hold_8 : decode cX7_hold 8 = .ok (.iconst 1, 1) := by decide +kernel
theorem dX7_hold_9 : decode cX7_hold 9 = .ok (.isub, 1) := by decide +kernel
theorem dX7_hold_10 : decode cX7_hold 10 = .ok (.invokestatic 70, 3) := by decide +kernel
theorem dX7_hold_13 : decode cX7_hold 13 = .ok (.ifCond .eq 11, 3) := by decide +kernel
theorem dX7_hold_16 : decode cX7_hold 16 = .ok (.aload_n 0, 1) := by decide +kernel
theorem dX7_hold_17 : decode cX7_hold 17 = .ok (.iload_n 1, 1) := by decide +kernel
theorem dX7_hold_18 : decode cX7_hold 18 = .ok (.invokevirtual 101, 3) := by decide +kernel
theorem dX7_hold_21 : decode cX7_hold 21 = .ok (.ifCond .eq 5, 3) := by decide +kernel
theorem dX7_hold_24 : decode cX7_hold 24 = .ok (.iconst 0, 1) := by decide +kernel
theorem dX7_hold_25 : decode cX7_hold 25 = .ok (.ireturn, 1) := by decide +kernel
theorem dX7_hold_26 : decode cX7_hold 26 = .ok (.iconst 0, 1) := by decide +kernel
theorem dX7_hold_27 : decode cX7_hold 27 = .ok (.istore_n 3, 1) := by decide +kernel
theorem dX7_hold_28 : decode cX7_hold 28 = .ok (.iload_n 3, 1) := by decide +kernel
theorem dX7_hold_29 : decode cX7_hold 29 = .ok (.bipush 12, 2) := by decide +kernel
theorem dX7_hold_31 : decode cX7_hold 31 = .ok (.if_icmp .ge 97, 3) := by decide +kernel
theorem dX7_hold_34 : decode cX7_hold 34 = .ok (.aload_n 0, 1) := by decide +kernel
theorem dX7_hold_35 : decode cX7_hold 35 = .ok (.getfield 22, 3) := by decide +kernel
theorem dX7_hold_38 : decode cX7_hold 38 = .ok (.bipush 12, 2) := by decide +kernel
theorem dX7_hold_40 : decode cX7_hold 40 = .ok (.iload_n 2, 1) := by decide +kernel
theorem dX7_hold_41 : decode cX7_hold 41 = .ok (.imul, 1) := by decide +kernel
theorem dX7_hold_42 : decode cX7_hold 42 = .ok (.iload_n 3, 1) := by decide +kernel
theorem dX7_hold_43 : decode cX7_hold 43 = .ok (.iadd, 1) := by decide +kernel
theorem dX7_hold_44 : decode cX7_hold 44 = .ok (.iaload, 1) := by decide +kernel
theorem dX7_hold_45 : decode cX7_hold 45 = .ok (.istore 4, 2) := by decide +kernel
theorem dX7_hold_47 : decode cX7_hold 47 = .ok (.aload_n 0, 1) := by decide +kernel
theorem dX7_hold_48 : decode cX7_hold 48 = .ok (.aload_n 0, 1) := by decide +kernel
theorem dX7_hold_49 : decode cX7_hold 49 = .ok (.getfield 9, 3) := by decide +kernel
theorem dX7_hold_52 : decode cX7_hold 52 = .ok (.iload_n 1, 1) := by decide +kernel
theorem dX7_hold_53 : decode cX7_hold 53 = .ok (.invokestatic 63, 3) := by decide +kernel
theorem dX7_hold_56 : decode cX7_hold 56 = .ok (.iaload, 1) := by decide +kernel
theorem dX7_hold_57 : decode cX7_hold 57 = .ok (.iload_n 3, 1) := by decide +kernel
theorem dX7_hold_58 : decode cX7_hold 58 = .ok (.invokevirtual 98, 3) := by decide +kernel
theorem dX7_hold_61 : decode cX7_hold 61 = .ok (.ifCond .ge 61, 3) := by decide +kernel
theorem dX7_hold_64 : decode cX7_hold 64 = .ok (.aload_n 0, 1) := by decide +kernel
theorem dX7_hold_65 : decode cX7_hold 65 = .ok (.iload_n 1, 1) := by decide +kernel
theorem dX7_hold_66 : decode cX7_hold 66 = .ok (.iload_n 3, 1) := by decide +kernel
theorem dX7_hold_67 : decode cX7_hold 67 = .ok (.invokevirtual 84, 3) := by decide +kernel
theorem dX7_hold_70 : decode cX7_hold 70 = .ok (.iload 4, 2) := by decide +kernel
theorem dX7_hold_72 : decode cX7_hold 72 = .ok (.if_icmp .eq 50, 3) := by decide +kernel
theorem dX7_hold_75 : decode cX7_hold 75 = .ok (.aload_n 0, 1) := by decide +kernel
theorem dX7_hold_76 : decode cX7_hold 76 = .ok (.getfield 9, 3) := by decide +kernel
theorem dX7_hold_79 : decode cX7_hold 79 = .ok (.iload_n 1, 1) := by decide +kernel
theorem dX7_hold_80 : decode cX7_hold 80 = .ok (.invokestatic 63, 3) := by decide +kernel
theorem dX7_hold_83 : decode cX7_hold 83 = .ok (.iconst 3, 1) := by decide +kernel
theorem dX7_hold_84 : decode cX7_hold 84 = .ok (.iadd, 1) := by decide +kernel
theorem dX7_hold_85 : decode cX7_hold 85 = .ok (.iaload, 1) := by decide +kernel
theorem dX7_hold_86 : decode cX7_hold 86 = .ok (.iconst 1, 1) := by decide +kernel
theorem dX7_hold_87 : decode cX7_hold 87 = .ok (.if_icmp .ne 5, 3) := by decide +kernel
theorem dX7_hold_90 : decode cX7_hold 90 = .ok (.iconst 1, 1) := by decide +kernel
theorem dX7_hold_91 : decode cX7_hold 91 = .ok (.ireturn, 1) := by decide +kernel
theorem dX7_hold_92 : decode cX7_hold 92 = .ok (.aload_n 0, 1) := by decide +kernel
theorem dX7_hold_93 : decode cX7_hold 93 = .ok (.getfield 9, 3) := by decide +kernel
theorem dX7_hold_96 : decode cX7_hold 96 = .ok (.iconst 1, 1) := by decide +kernel
theorem dX7_hold_97 : decode cX7_hold 97 = .ok (.iaload, 1) := by decide +kernel
theorem dX7_hold_98 : decode cX7_hold 98 = .ok (.bipush 60, 2) := by decide +kernel
theorem dX7_hold_100 : decode cX7_hold 100 = .ok (.if_icmp .ne 5, 3) := by decide +kernel
theorem dX7_hold_103 : decode cX7_hold 103 = .ok (.iconst 2, 1) := by decide +kernel
theorem dX7_hold_104 : decode cX7_hold 104 = .ok (.ireturn, 1) := by decide +kernel
theorem dX7_hold_105 : decode cX7_hold 105 = .ok (.aload_n 0, 1) := by decide +kernel
theorem dX7_hold_106 : decode cX7_hold 106 = .ok (.aload_n 0, 1) := by decide +kernel
theorem dX7_hold_107 : decode cX7_hold 107 = .ok (.getfield 9, 3) := by decide +kernel
theorem dX7_hold_110 : decode cX7_hold 110 = .ok (.iload_n 1, 1) := by decide +kernel
theorem dX7_hold_111 : decode cX7_hold 111 = .ok (.invokestatic 63, 3) := by decide +kernel
theorem dX7_hold_114 : decode cX7_hold 114 = .ok (.iaload, 1) := by decide +kernel
theorem dX7_hold_115 : decode cX7_hold 115 = .ok (.iload_n 3, 1) := by decide +kernel
theorem dX7_hold_116 : decode cX7_hold 116 = .ok (.iload 4, 2) := by decide +kernel
theorem dX7_hold_118 : decode cX7_hold 118 = .ok (.iconst 0, 1) := by decide +kernel
theorem dX7_hold_119 : decode cX7_hold 119 = .ok (.invokevirtual 125, 3) := by decide +kernel
theorem dX7_hold_122 : decode cX7_hold 122 = .ok (.iinc 3 1, 3) := by decide +kernel
theorem dX7_hold_125 : decode cX7_hold 125 = .ok (.goto (-97), 3) := by decide +kernel
theorem dX7_hold_128 : decode cX7_hold 128 = .ok (.iconst 0, 1) := by decide +kernel
theorem dX7_hold_129 : decode cX7_hold 129 = .ok (.ireturn, 1) := by decide +kernel
theorem dX7_changed_0 : decode cX7_changed 0 = .ok (.iconst 0, 1) := by decide +kernel
theorem dX7_changed_1 : decode cX7_changed 1 = .ok (.istore_n 2, 1) := by decide +kernel
theorem dX7_changed_2 : decode cX7_changed 2 = .ok (.iconst 0, 1) := by decide +kernel
theorem dX7_changed_3 : decode cX7_changed 3 = .ok (.istore_n 3, 1) := by decide +kernel
theorem dX7_changed_4 : decode cX7_changed 4 = .ok (.iload_n 3, 1) := by decide +kernel
theorem dX7_changed_5 : decode cX7_changed 5 = .ok (.aload_n 0, 1) := by decide +kernel
theorem dX7_changed_6 : decode cX7_changed 6 = .ok (.getfield 9, 3) := by decide +kernel
theorem dX7_changed_9 : decode cX7_changed 9 = .ok (.iconst 0, 1) := by decide +kernel
theorem dX7_changed_10 : decode cX7_changed 10 = .ok (.iaload, 1) := by decide +kernel
theorem dX7_changed_11 : decode cX7_changed 11 = .ok (.if_icmp .ge 37, 3) := by decide +kernel
theorem dX7_changed_14 : decode cX7_changed 14 = .ok (.iload_n 2, 1) := by decide +kernel
theorem dX7_changed_15 : decode cX7_changed 15 = .ok (.aload_n 0, 1) := by decide +kernel
theorem dX7_changed_16 : decode cX7_changed 16 = .ok (.iload_n 3, 1) := by decide +kernel
theorem dX7_changed_17 : decode cX7_changed 17 = .ok (.iload_n 1, 1) := by decide +kernel
theorem dX7_changed_18 : decode cX7_changed 18 = .ok (.invokevirtual 84, 3) := by decide +kernel
theorem dX7_changed_21 : decode cX7_changed 21 = .ok (.aload_n 0, 1) := by decide +kernel
theorem dX7_changed_22 : decode cX7_changed 22 = .ok (.getfield 22, 3) := by decide +kernel
theorem dX7_changed_25 : decode cX7_changed 25 = .ok (.bipush 12, 2) := by decide +kernel
theorem dX7_changed_27 : decode cX7_changed 27 = .ok (.iload_n 3, 1) := by decide +kernel
theorem dX7_changed_28 : decode cX7_changed 28 = .ok (.imul, 1) := by decide +kernel
theorem dX7_changed_29 : decode cX7_changed 29 = .ok (.iload_n 1, 1) := by decide +kernel
theorem dX7_changed_30 : decode cX7_changed 30 = .ok (.iadd, 1) := by decide +kernel
theorem dX7_changed_31 : decode cX7_changed 31 = .ok (.iaload, 1) := by decide +kernel
theorem dX7_changed_32 : decode cX7_changed 32 = .ok (.if_icmp .eq 7, 3) := by decide +kernel
theorem dX7_changed_35 : decode cX7_changed 35 = .ok (.iconst 1, 1) := by decide +kernel
theorem dX7_changed_36 : decode cX7_changed 36 = .ok (.goto 4, 3) := by decide +kernel
theorem dX7_changed_39 : decode cX7_changed 39 = .ok (.iconst 0, 1) := by decide +kernel
theorem dX7_changed_40 : decode cX7_changed 40 = .ok (.iadd, 1) := by decide +kernel
theorem dX7_changed_41 : decode cX7_changed 41 = .ok (.istore_n 2, 1) := by decide +kernel
theorem dX7_changed_42 : decode cX7_changed 42 = .ok (.iinc 3 1, 3) := by decide +kernel
theorem dX7_changed_45 : decode cX7_changed 45 = .ok (.goto (-41), 3) := by decide +kernel
theorem dX7_changed_48 : decode cX7_changed 48 = .ok (.iload_n 2, 1) := by decide +kernel
theorem dX7_changed_49 : decode cX7_changed 49 = .ok (.ireturn, 1) := by decide +kernel
theorem dX7_giveHeld_0 : decode cX7_giveHeld 0 = .ok (.aload_n 0, 1) := by decide +kernel
theorem dX7_giveHeld_1 : decode cX7_giveHeld 1 = .ok (.iload_n 1, 1) := by decide +kernel
theorem dX7_giveHeld_2 : decode cX7_giveHeld 2 = .ok (.invokevirtual 67, 3) := by decide +kernel
theorem dX7_giveHeld_5 : decode cX7_giveHeld 5 = .ok (.istore 6, 2) := by decide +kernel
theorem dX7_giveHeld_7 : decode cX7_giveHeld 7 = .ok (.aload_n 0, 1) := by decide +kernel
theorem dX7_giveHeld_8 : decode cX7_giveHeld 8 = .ok (.getfield 9, 3) := by decide +kernel
theorem dX7_giveHeld_11 : decode cX7_giveHeld 11 = .ok (.iload 6, 2) := by decide +kernel
theorem dX7_giveHeld_13 : decode cX7_giveHeld 13 = .ok (.invokestatic 63, 3) := by decide +kernel
theorem dX7_giveHeld_16 : decode cX7_giveHeld 16 = .ok (.iconst 3, 1) := by decide +kernel
theorem dX7_giveHeld_17 : decode cX7_giveHeld 17 = .ok (.iadd, 1) := by decide +kernel
theorem dX7_giveHeld_18 : decode cX7_giveHeld 18 = .ok (.iaload, 1) := by decide +kernel
theorem dX7_giveHeld_19 : decode cX7_giveHeld 19 = .ok (.iconst 1, 1) := by decide +kernel
theorem dX7_giveHeld_20 : decode cX7_giveHeld 20 = .ok (.if_icmp .ne 5, 3) := by decide +kernel
theorem dX7_giveHeld_23 : decode cX7_giveHeld 23 = .ok (.iconst 1, 1) := by decide +kernel
theorem dX7_giveHeld_24 : decode cX7_giveHeld 24 = .ok (.ireturn, 1) := by decide +kernel
theorem dX7_giveHeld_25 : decode cX7_giveHeld 25 = .ok (.aload_n 0, 1) := by decide +kernel
theorem dX7_giveHeld_26 : decode cX7_giveHeld 26 = .ok (.invokevirtual 88, 3) := by decide +kernel
theorem dX7_giveHeld_29 : decode cX7_giveHeld 29 = .ok (.aload_n 0, 1) := by decide +kernel
theorem dX7_giveHeld_30 : decode cX7_giveHeld 30 = .ok (.getfield 9, 3) := by decide +kernel
theorem dX7_giveHeld_33 : decode cX7_giveHeld 33 = .ok (.iconst 1, 1) := by decide +kernel
theorem dX7_giveHeld_34 : decode cX7_giveHeld 34 = .ok (.iaload, 1) := by decide +kernel
theorem dX7_giveHeld_35 : decode cX7_giveHeld 35 = .ok (.bipush 60, 2) := by decide +kernel
theorem dX7_giveHeld_37 : decode cX7_giveHeld 37 = .ok (.if_icmp .ne 16, 3) := by decide +kernel
theorem dX7_giveHeld_40 : decode cX7_giveHeld 40 = .ok (.aload_n 0, 1) := by decide +kernel
theorem dX7_giveHeld_41 : decode cX7_giveHeld 41 = .ok (.iload_n 1, 1) := by decide +kernel
theorem dX7_giveHeld_42 : decode cX7_giveHeld 42 = .ok (.iload_n 2, 1) := by decide +kernel
theorem dX7_giveHeld_43 : decode cX7_giveHeld 43 = .ok (.invokevirtual 98, 3) := by decide +kernel
theorem dX7_giveHeld_46 : decode cX7_giveHeld 46 = .ok (.ifCond .ge 7, 3) := by decide +kernel
theorem dX7_giveHeld_49 : decode cX7_giveHeld 49 = .ok (.iconst 1, 1) := by decide +kernel
theorem dX7_giveHeld_50 : decode cX7_giveHeld 50 = .ok (.goto 4, 3) := by decide +kernel
theorem dX7_giveHeld_53 : decode cX7_giveHeld 53 = .ok (.iconst 0, 1) := by decide +kernel
theorem dX7_giveHeld_54 : decode cX7_giveHeld 54 = .ok (.istore 7, 2) := by decide +kernel
theorem dX7_giveHeld_56 : decode cX7_giveHeld 56 = .ok (.iload 7, 2) := by decide +kernel
theorem dX7_giveHeld_58 : decode cX7_giveHeld 58 = .ok (.ifCond .eq 25, 3) := by decide +kernel
theorem dX7_giveHeld_61 : decode cX7_giveHeld 61 = .ok (.iload 5, 2) := by decide +kernel
theorem dX7_giveHeld_63 : decode cX7_giveHeld 63 = .ok (.ifCond .eq 18, 3) := by decide +kernel
theorem dX7_giveHeld_66 : decode cX7_giveHeld 66 = .ok (.aload_n 0, 1) := by decide +kernel
theorem dX7_giveHeld_67 : decode cX7_giveHeld 67 = .ok (.iload 6, 2) := by decide +kernel
theorem dX7_giveHeld_69 : decode cX7_giveHeld 69 = .ok (.iload_n 2, 1) := by decide +kernel
theorem dX7_giveHeld_70 : decode cX7_giveHeld 70 = .ok (.iload_n 3, 1) := by decide +kernel
theorem dX7_giveHeld_71 : decode cX7_giveHeld 71 = .ok (.invokevirtual 129, 3) := by decide +kernel
theorem dX7_giveHeld_74 : decode cX7_giveHeld 74 = .ok (.ifCond .eq 7, 3) := by decide +kernel
theorem dX7_giveHeld_77 : decode cX7_giveHeld 77 = .ok (.iconst 1, 1) := by decide +kernel
theorem dX7_giveHeld_78 : decode cX7_giveHeld 78 = .ok (.goto 4, 3) := by decide +kernel
theorem dX7_giveHeld_81 : decode cX7_giveHeld 81 = .ok (.iconst 2, 1) := by decide +kernel
theorem dX7_giveHeld_82 : decode cX7_giveHeld 82 = .ok (.ireturn, 1) := by decide +kernel
theorem dX7_giveHeld_83 : decode cX7_giveHeld 83 = .ok (.aload_n 0, 1) := by decide +kernel
theorem dX7_giveHeld_84 : decode cX7_giveHeld 84 = .ok (.iload_n 1, 1) := by decide +kernel
theorem dX7_giveHeld_85 : decode cX7_giveHeld 85 = .ok (.iload_n 2, 1) := by decide +kernel
theorem dX7_giveHeld_86 : decode cX7_giveHeld 86 = .ok (.iload_n 3, 1) := by decide +kernel
theorem dX7_giveHeld_87 : decode cX7_giveHeld 87 = .ok (.iload 4, 2) := by decide +kernel
theorem dX7_giveHeld_89 : decode cX7_giveHeld 89 = .ok (.invokevirtual 125, 3) := by decide +kernel
theorem dX7_giveHeld_92 : decode cX7_giveHeld 92 = .ok (.iload 5, 2) := by decide +kernel
theorem dX7_giveHeld_94 : decode cX7_giveHeld 94 = .ok (.ifCond .eq 18, 3) := by decide +kernel
theorem dX7_giveHeld_97 : decode cX7_giveHeld 97 = .ok (.aload_n 0, 1) := by decide +kernel
theorem dX7_giveHeld_98 : decode cX7_giveHeld 98 = .ok (.iload 6, 2) := by decide +kernel
theorem dX7_giveHeld_100 : decode cX7_giveHeld 100 = .ok (.iconst 1, 1) := by decide +kernel
theorem dX7_giveHeld_101 : decode cX7_giveHeld 101 = .ok (.iadd, 1) := by decide +kernel
theorem dX7_giveHeld_102 : decode cX7_giveHeld 102 = .ok (.iload 6, 2) := by decide +kernel
theorem dX7_giveHeld_104 : decode cX7_giveHeld 104 = .ok (.iconst 1, 1) := by decide +kernel
theorem dX7_giveHeld_105 : decode cX7_giveHeld 105 = .ok (.iadd, 1) := by decide +kernel
theorem dX7_giveHeld_106 : decode cX7_giveHeld 106 = .ok (.invokevirtual 132, 3) := by decide +kernel
theorem dX7_giveHeld_109 : decode cX7_giveHeld 109 = .ok (.goto 4, 3) := by decide +kernel
theorem dX7_giveHeld_112 : decode cX7_giveHeld 112 = .ok (.iconst 0, 1) := by decide +kernel
theorem dX7_giveHeld_113 : decode cX7_giveHeld 113 = .ok (.ireturn, 1) := by decide +kernel
theorem dX7_wouldHoldProtected_0 : decode cX7_wouldHoldProtected 0 = .ok (.iload_n 1, 1) := by decide +kernel
theorem dX7_wouldHoldProtected_1 : decode cX7_wouldHoldProtected 1 = .ok (.iconst 1, 1) := by decide +kernel
theorem dX7_wouldHoldProtected_2 : decode cX7_wouldHoldProtected 2 = .ok (.iadd, 1) := by decide +kernel
theorem dX7_wouldHoldProtected_3 : decode cX7_wouldHoldProtected 3 = .ok (.istore 4, 2) := by decide +kernel
theorem dX7_wouldHoldProtected_5 : decode cX7_wouldHoldProtected 5 = .ok (.iload 4, 2) := by decide +kernel
theorem dX7_wouldHoldProtected_7 : decode cX7_wouldHoldProtected 7 = .ok (.aload_n 0, 1) := by decide +kernel
theorem dX7_wouldHoldProtected_8 : decode cX7_wouldHoldProtected 8 = .ok (.getfield 9, 3) := by decide +kernel
theorem dX7_wouldHoldProtected_11 : decode cX7_wouldHoldProtected 11 = .ok (.iconst 0, 1) := by decide +kernel
theorem dX7_wouldHoldProtected_12 : decode cX7_wouldHoldProtected 12 = .ok (.iaload, 1) := by decide +kernel
theorem dX7_wouldHoldProtected_13 : decode cX7_wouldHoldProtected 13 = .ok (.if_icmp .ge 50, 3) := by decide +kernel
theorem dX7_wouldHoldProtected_16 : decode cX7_wouldHoldProtected 16 = .ok (.aload_n 0, 1) := by decide +kernel
theorem dX7_wouldHoldProtected_17 : decode cX7_wouldHoldProtected 17 = .ok (.getfield 9, 3) := by decide +kernel
theorem dX7_wouldHoldProtected_20 : decode cX7_wouldHoldProtected 20 = .ok (.iload 4, 2) := by decide +kernel
theorem dX7_wouldHoldProtected_22 : decode cX7_wouldHoldProtected 22 = .ok (.invokestatic 63, 3) := by decide +kernel
theorem dX7_wouldHoldProtected_25 : decode cX7_wouldHoldProtected 25 = .ok (.iconst 3, 1) := by decide +kernel
theorem dX7_wouldHoldProtected_26 : decode cX7_wouldHoldProtected 26 = .ok (.iadd, 1) := by decide +kernel
theorem dX7_wouldHoldProtected_27 : decode cX7_wouldHoldProtected 27 = .ok (.iaload, 1) := by decide +kernel
theorem dX7_wouldHoldProtected_28 : decode cX7_wouldHoldProtected 28 = .ok (.iconst 1, 1) := by decide +kernel
theorem dX7_wouldHoldProtected_29 : decode cX7_wouldHoldProtected 29 = .ok (.if_icmp .ne 34, 3) := by decide +kernel
theorem dX7_wouldHoldProtected_32 : decode cX7_wouldHoldProtected 32 = .ok (.aload_n 0, 1) := by decide +kernel
theorem dX7_wouldHoldProtected_33 : decode cX7_wouldHoldProtected 33 = .ok (.iload 4, 2) := by decide +kernel
theorem dX7_wouldHoldProtected_35 : decode cX7_wouldHoldProtected 35 = .ok (.invokevirtual 101, 3) := by decide +kernel
theorem dX7_wouldHoldProtected_38 : decode cX7_wouldHoldProtected 38 = .ok (.ifCond .ne 25, 3) := by decide +kernel
theorem dX7_wouldHoldProtected_41 : decode cX7_wouldHoldProtected 41 = .ok (.aload_n 0, 1) := by decide +kernel
theorem dX7_wouldHoldProtected_42 : decode cX7_wouldHoldProtected 42 = .ok (.aload_n 0, 1) := by decide +kernel
theorem dX7_wouldHoldProtected_43 : decode cX7_wouldHoldProtected 43 = .ok (.getfield 9, 3) := by decide +kernel
theorem dX7_wouldHoldProtected_46 : decode cX7_wouldHoldProtected 46 = .ok (.iload 4, 2) := by decide +kernel
theorem dX7_wouldHoldProtected_48 : decode cX7_wouldHoldProtected 48 = .ok (.invokestatic 63, 3) := by decide +kernel
theorem dX7_wouldHoldProtected_51 : decode cX7_wouldHoldProtected 51 = .ok (.iaload, 1) := by decide +kernel
theorem dX7_wouldHoldProtected_52 : decode cX7_wouldHoldProtected 52 = .ok (.iload_n 2, 1) := by decide +kernel
theorem dX7_wouldHoldProtected_53 : decode cX7_wouldHoldProtected 53 = .ok (.invokevirtual 98, 3) := by decide +kernel
theorem dX7_wouldHoldProtected_56 : decode cX7_wouldHoldProtected 56 = .ok (.ifCond .ge 7, 3) := by decide +kernel
theorem dX7_wouldHoldProtected_59 : decode cX7_wouldHoldProtected 59 = .ok (.iconst 1, 1) := by decide +kernel
theorem dX7_wouldHoldProtected_60 : decode cX7_wouldHoldProtected 60 = .ok (.goto 4, 3) := by decide +kernel
theorem dX7_wouldHoldProtected_63 : decode cX7_wouldHoldProtected 63 = .ok (.iconst 0, 1) := by decide +kernel
theorem dX7_wouldHoldProtected_64 : decode cX7_wouldHoldProtected 64 = .ok (.istore 5, 2) := by decide +kernel
theorem dX7_wouldHoldProtected_66 : decode cX7_wouldHoldProtected 66 = .ok (.iload_n 3, 1) := by decide +kernel
theorem dX7_wouldHoldProtected_67 : decode cX7_wouldHoldProtected 67 = .ok (.iconst (-1), 1) := by decide +kernel
theorem dX7_wouldHoldProtected_68 : decode cX7_wouldHoldProtected 68 = .ok (.if_icmp .ne 15, 3) := by decide +kernel
theorem dX7_wouldHoldProtected_71 : decode cX7_wouldHoldProtected 71 = .ok (.aload_n 0, 1) := by decide +kernel
theorem dX7_wouldHoldProtected_72 : decode cX7_wouldHoldProtected 72 = .ok (.getfield 9, 3) := by decide +kernel
theorem dX7_wouldHoldProtected_75 : decode cX7_wouldHoldProtected 75 = .ok (.bipush 6, 2) := by decide +kernel
theorem dX7_wouldHoldProtected_77 : decode cX7_wouldHoldProtected 77 = .ok (.iload_n 2, 1) := by decide +kernel
theorem dX7_wouldHoldProtected_78 : decode cX7_wouldHoldProtected 78 = .ok (.iadd, 1) := by decide +kernel
theorem dX7_wouldHoldProtected_79 : decode cX7_wouldHoldProtected 79 = .ok (.iaload, 1) := by decide +kernel
theorem dX7_wouldHoldProtected_80 : decode cX7_wouldHoldProtected 80 = .ok (.goto 4, 3) := by decide +kernel
theorem dX7_wouldHoldProtected_83 : decode cX7_wouldHoldProtected 83 = .ok (.iload_n 3, 1) := by decide +kernel
theorem dX7_wouldHoldProtected_84 : decode cX7_wouldHoldProtected 84 = .ok (.istore 6, 2) := by decide +kernel
theorem dX7_wouldHoldProtected_86 : decode cX7_wouldHoldProtected 86 = .ok (.iload 5, 2) := by decide +kernel
theorem dX7_wouldHoldProtected_88 : decode cX7_wouldHoldProtected 88 = .ok (.ifCond .eq 18, 3) := by decide +kernel
theorem dX7_wouldHoldProtected_91 : decode cX7_wouldHoldProtected 91 = .ok (.iload 6, 2) := by decide +kernel
theorem dX7_wouldHoldProtected_93 : decode cX7_wouldHoldProtected 93 = .ok (.aload_n 0, 1) := by decide +kernel
theorem dX7_wouldHoldProtected_94 : decode cX7_wouldHoldProtected 94 = .ok (.iload_n 1, 1) := by decide +kernel
theorem dX7_wouldHoldProtected_95 : decode cX7_wouldHoldProtected 95 = .ok (.iload_n 2, 1) := by decide +kernel
theorem dX7_wouldHoldProtected_96 : decode cX7_wouldHoldProtected 96 = .ok (.invokevirtual 84, 3) := by decide +kernel
theorem dX7_wouldHoldProtected_99 : decode cX7_wouldHoldProtected 99 = .ok (.if_icmp .eq 7, 3) := by decide +kernel
theorem dX7_wouldHoldProtected_102 : decode cX7_wouldHoldProtected 102 = .ok (.iconst 1, 1) := by decide +kernel
theorem dX7_wouldHoldProtected_103 : decode cX7_wouldHoldProtected 103 = .ok (.goto 4, 3) := by decide +kernel
theorem dX7_wouldHoldProtected_106 : decode cX7_wouldHoldProtected 106 = .ok (.iconst 0, 1) := by decide +kernel
theorem dX7_wouldHoldProtected_107 : decode cX7_wouldHoldProtected 107 = .ok (.ireturn, 1) := by decide +kernel
theorem dX7_doGive_0 : decode cX7_doGive 0 = .ok (.aload_n 0, 1) := by decide +kernel
theorem dX7_doGive_1 : decode cX7_doGive 1 = .ok (.iload_n 1, 1) := by decide +kernel
theorem dX7_doGive_2 : decode cX7_doGive 2 = .ok (.iload_n 2, 1) := by decide +kernel
theorem dX7_doGive_3 : decode cX7_doGive 3 = .ok (.iload_n 3, 1) := by decide +kernel
theorem dX7_doGive_4 : decode cX7_doGive 4 = .ok (.iload 4, 2) := by decide +kernel
theorem dX7_doGive_6 : decode cX7_doGive 6 = .ok (.iload 5, 2) := by decide +kernel
theorem dX7_doGive_8 : decode cX7_doGive 8 = .ok (.invokevirtual 135, 3) := by decide +kernel
theorem dX7_doGive_11 : decode cX7_doGive 11 = .ok (.istore 6, 2) := by decide +kernel
theorem dX7_doGive_13 : decode cX7_doGive 13 = .ok (.iload 6, 2) := by decide +kernel
theorem dX7_doGive_15 : decode cX7_doGive 15 = .ok (.ifCond .le 12, 3) := by decide +kernel
theorem dX7_doGive_18 : decode cX7_doGive 18 = .ok (.aload_n 0, 1) := by decide +kernel
theorem dX7_doGive_19 : decode cX7_doGive 19 = .ok (.iload 6, 2) := by decide +kernel
theorem dX7_doGive_21 : decode cX7_doGive 21 = .ok (.invokevirtual 139, 3) := by decide +kernel
theorem dX7_doGive_24 : decode cX7_doGive 24 = .ok (.goto 4, 3) := by decide +kernel
theorem dX7_doGive_27 : decode cX7_doGive 27 = .ok (.iconst 0, 1) := by decide +kernel
theorem dX7_doGive_28 : decode cX7_doGive 28 = .ok (.ireturn, 1) := by decide +kernel
theorem dX7_set_0 : decode cX7_set 0 = .ok (.aload_n 0, 1) := by decide +kernel
theorem dX7_set_1 : decode cX7_set 1 = .ok (.aload_n 0, 1) := by decide +kernel
theorem dX7_set_2 : decode cX7_set 2 = .ok (.iload_n 1, 1) := by decide +kernel
theorem dX7_set_3 : decode cX7_set 3 = .ok (.invokevirtual 74, 3) := by decide +kernel
theorem dX7_set_6 : decode cX7_set 6 = .ok (.ifCond .eq 18, 3) := by decide +kernel
theorem dX7_set_9 : decode cX7_set 9 = .ok (.iload_n 2, 1) := by decide +kernel
theorem dX7_set_10 : decode cX7_set 10 = .ok (.invokestatic 122, 3) := by decide +kernel
theorem dX7_set_13 : decode cX7_set 13 = .ok (.ifCond .eq 11, 3) := by decide +kernel
theorem dX7_set_16 : decode cX7_set 16 = .ok (.iload 4, 2) := by decide +kernel
theorem dX7_set_18 : decode cX7_set 18 = .ok (.invokestatic 91, 3) := by decide +kernel
theorem dX7_set_21 : decode cX7_set 21 = .ok (.ifCond .ne 7, 3) := by decide +kernel
theorem dX7_set_24 : decode cX7_set 24 = .ok (.iconst 1, 1) := by decide +kernel
theorem dX7_set_25 : decode cX7_set 25 = .ok (.goto 18, 3) := by decide +kernel
theorem dX7_set_28 : decode cX7_set 28 = .ok (.iload_n 3, 1) := by decide +kernel
theorem dX7_set_29 : decode cX7_set 29 = .ok (.iconst 0, 1) := by decide +kernel
theorem dX7_set_30 : decode cX7_set 30 = .ok (.bipush 100, 2) := by decide +kernel
theorem dX7_set_32 : decode cX7_set 32 = .ok (.invokestatic 70, 3) := by decide +kernel
theorem dX7_set_35 : decode cX7_set 35 = .ok (.ifCond .ne 7, 3) := by decide +kernel
theorem dX7_set_38 : decode cX7_set 38 = .ok (.iconst 2, 1) := by decide +kernel
theorem dX7_set_39 : decode cX7_set 39 = .ok (.goto 4, 3) := by decide +kernel
theorem dX7_set_42 : decode cX7_set 42 = .ok (.iconst 0, 1) := by decide +kernel
theorem dX7_set_43 : decode cX7_set 43 = .ok (.putfield 42, 3) := by decide +kernel
theorem dX7_set_46 : decode cX7_set 46 = .ok (.aload_n 0, 1) := by decide +kernel
theorem dX7_set_47 : decode cX7_set 47 = .ok (.getfield 42, 3) := by decide +kernel
theorem dX7_set_50 : decode cX7_set 50 = .ok (.ifCond .le 5, 3) := by decide +kernel
theorem dX7_set_53 : decode cX7_set 53 = .ok (.iconst 0, 1) := by decide +kernel
theorem dX7_set_54 : decode cX7_set 54 = .ok (.ireturn, 1) := by decide +kernel
theorem dX7_set_55 : decode cX7_set 55 = .ok (.aload_n 0, 1) := by decide +kernel
theorem dX7_set_56 : decode cX7_set 56 = .ok (.invokevirtual 54, 3) := by decide +kernel
theorem dX7_set_59 : decode cX7_set 59 = .ok (.aload_n 0, 1) := by decide +kernel
theorem dX7_set_60 : decode cX7_set 60 = .ok (.iload_n 1, 1) := by decide +kernel
theorem dX7_set_61 : decode cX7_set 61 = .ok (.iload_n 2, 1) := by decide +kernel
theorem dX7_set_62 : decode cX7_set 62 = .ok (.iload_n 3, 1) := by decide +kernel
theorem dX7_set_63 : decode cX7_set 63 = .ok (.iload 4, 2) := by decide +kernel
theorem dX7_set_65 : decode cX7_set 65 = .ok (.iload 5, 2) := by decide +kernel
theorem dX7_set_67 : decode cX7_set 67 = .ok (.invokevirtual 142, 3) := by decide +kernel
theorem dX7_set_70 : decode cX7_set 70 = .ok (.ifCond .le 10, 3) := by decide +kernel
theorem dX7_set_73 : decode cX7_set 73 = .ok (.aload_n 0, 1) := by decide +kernel
theorem dX7_set_74 : decode cX7_set 74 = .ok (.iconst 3, 1) := by decide +kernel
theorem dX7_set_75 : decode cX7_set 75 = .ok (.putfield 42, 3) := by decide +kernel
theorem dX7_set_78 : decode cX7_set 78 = .ok (.iconst 0, 1) := by decide +kernel
theorem dX7_set_79 : decode cX7_set 79 = .ok (.ireturn, 1) := by decide +kernel
theorem dX7_set_80 : decode cX7_set 80 = .ok (.aload_n 0, 1) := by decide +kernel
theorem dX7_set_81 : decode cX7_set 81 = .ok (.invokevirtual 57, 3) := by decide +kernel
theorem dX7_set_84 : decode cX7_set 84 = .ok (.aload_n 0, 1) := by decide +kernel
theorem dX7_set_85 : decode cX7_set 85 = .ok (.iload_n 2, 1) := by decide +kernel
theorem dX7_set_86 : decode cX7_set 86 = .ok (.invokevirtual 145, 3) := by decide +kernel
theorem dX7_set_89 : decode cX7_set 89 = .ok (.ireturn, 1) := by decide +kernel
theorem dX7_release_0 : decode cX7_release 0 = .ok (.aload_n 0, 1) := by decide +kernel
theorem dX7_release_1 : decode cX7_release 1 = .ok (.aload_n 0, 1) := by decide +kernel
theorem dX7_release_2 : decode cX7_release 2 = .ok (.iload_n 1, 1) := by decide +kernel
theorem dX7_release_3 : decode cX7_release 3 = .ok (.invokevirtual 74, 3) := by decide +kernel
theorem dX7_release_6 : decode cX7_release 6 = .ok (.ifCond .eq 21, 3) := by decide +kernel
theorem dX7_release_9 : decode cX7_release 9 = .ok (.iload_n 2, 1) := by decide +kernel
theorem dX7_release_10 : decode cX7_release 10 = .ok (.invokestatic 122, 3) := by decide +kernel
theorem dX7_release_13 : decode cX7_release 13 = .ok (.ifCond .eq 14, 3) := by decide +kernel
theorem dX7_release_16 : decode cX7_release 16 = .ok (.iload_n 3, 1) := by decide +kernel
theorem dX7_release_17 : decode cX7_release 17 = .ok (.invokestatic 91, 3) := by decide +kernel
theorem dX7_release_20 : decode cX7_release 20 = .ok (.ifCond .eq 7, 3) := by decide +kernel
theorem dX7_release_23 : decode cX7_release 23 = .ok (.iconst 0, 1) := by decide +kernel
theorem dX7_release_24 : decode cX7_release 24 = .ok (.goto 4, 3) := by decide +kernel
theorem dX7_release_27 : decode cX7_release 27 = .ok (.iconst 1, 1) := by decide +kernel
theorem dX7_release_28 : decode cX7_release 28 = .ok (.putfield 42, 3) := by decide +kernel
theorem dX7_release_31 : decode cX7_release 31 = .ok (.aload_n 0, 1) := by decide +kernel
theorem dX7_release_32 : decode cX7_release 32 = .ok (.getfield 42, 3) := by decide +kernel
theorem dX7_release_35 : decode cX7_release 35 = .ok (.ifCond .le 5, 3) := by decide +kernel
theorem dX7_release_38 : decode cX7_release 38 = .ok (.iconst 0, 1) := by decide +kernel
theorem dX7_release_39 : decode cX7_release 39 = .ok (.ireturn, 1) := by decide +kernel
theorem dX7_release_40 : decode cX7_release 40 = .ok (.aload_n 0, 1) := by decide +kernel
theorem dX7_release_41 : decode cX7_release 41 = .ok (.invokevirtual 54, 3) := by decide +kernel
theorem dX7_release_44 : decode cX7_release 44 = .ok (.aload_n 0, 1) := by decide +kernel
theorem dX7_release_45 : decode cX7_release 45 = .ok (.iload_n 1, 1) := by decide +kernel
theorem dX7_release_46 : decode cX7_release 46 = .ok (.iload_n 2, 1) := by decide +kernel
theorem dX7_release_47 : decode cX7_release 47 = .ok (.iconst (-1), 1) := by decide +kernel
theorem dX7_release_48 : decode cX7_release 48 = .ok (.iload_n 3, 1) := by decide +kernel
theorem dX7_release_49 : decode cX7_release 49 = .ok (.iload 4, 2) := by decide +kernel
theorem dX7_release_51 : decode cX7_release 51 = .ok (.invokevirtual 142, 3) := by decide +kernel
theorem dX7_release_54 : decode cX7_release 54 = .ok (.ifCond .le 10, 3) := by decide +kernel
theorem dX7_release_57 : decode cX7_release 57 = .ok (.aload_n 0, 1) := by decide +kernel
theorem dX7_release_58 : decode cX7_release 58 = .ok (.iconst 2, 1) := by decide +kernel
theorem dX7_release_59 : decode cX7_release 59 = .ok (.putfield 42, 3) := by decide +kernel
theorem dX7_release_62 : decode cX7_release 62 = .ok (.iconst 0, 1) := by decide +kernel
theorem dX7_release_63 : decode cX7_release 63 = .ok (.ireturn, 1) := by decide +kernel
theorem dX7_release_64 : decode cX7_release 64 = .ok (.aload_n 0, 1) := by decide +kernel
theorem dX7_release_65 : decode cX7_release 65 = .ok (.invokevirtual 57, 3) := by decide +kernel
theorem dX7_release_68 : decode cX7_release 68 = .ok (.aload_n 0, 1) := by decide +kernel
theorem dX7_release_69 : decode cX7_release 69 = .ok (.iload_n 2, 1) := by decide +kernel
theorem dX7_release_70 : decode cX7_release 70 = .ok (.invokevirtual 145, 3) := by decide +kernel
theorem dX7_release_73 : decode cX7_release 73 = .ok (.ireturn, 1) := by decide +kernel
theorem dX7_takeHeld_0 : decode cX7_takeHeld 0 = .ok (.aload_n 0, 1) := by decide +kernel
theorem dX7_takeHeld_1 : decode cX7_takeHeld 1 = .ok (.iload_n 1, 1) := by decide +kernel
theorem dX7_takeHeld_2 : decode cX7_takeHeld 2 = .ok (.invokevirtual 67, 3) := by decide +kernel
theorem dX7_takeHeld_5 : decode cX7_takeHeld 5 = .ok (.istore 4, 2) := by decide +kernel
theorem dX7_takeHeld_7 : decode cX7_takeHeld 7 = .ok (.aload_n 0, 1) := by decide +kernel
theorem dX7_takeHeld_8 : decode cX7_takeHeld 8 = .ok (.iload_n 1, 1) := by decide +kernel
theorem dX7_takeHeld_9 : decode cX7_takeHeld 9 = .ok (.iload_n 2, 1) := by decide +kernel
theorem dX7_takeHeld_10 : decode cX7_takeHeld 10 = .ok (.invokevirtual 98, 3) := by decide +kernel
theorem dX7_takeHeld_13 : decode cX7_takeHeld 13 = .ok (.istore 5, 2) := by decide +kernel
theorem dX7_takeHeld_15 : decode cX7_takeHeld 15 = .ok (.aload_n 0, 1) := by decide +kernel
theorem dX7_takeHeld_16 : decode cX7_takeHeld 16 = .ok (.getfield 9, 3) := by decide +kernel
theorem dX7_takeHeld_19 : decode cX7_takeHeld 19 = .ok (.iload 4, 2) := by decide +kernel
theorem dX7_takeHeld_21 : decode cX7_takeHeld 21 = .ok (.invokestatic 63, 3) := by decide +kernel
theorem dX7_takeHeld_24 : decode cX7_takeHeld 24 = .ok (.iconst 3, 1) := by decide +kernel
theorem dX7_takeHeld_25 : decode cX7_takeHeld 25 = .ok (.iadd, 1) := by decide +kernel
theorem dX7_takeHeld_26 : decode cX7_takeHeld 26 = .ok (.iaload, 1) := by decide +kernel
theorem dX7_takeHeld_27 : decode cX7_takeHeld 27 = .ok (.iconst 1, 1) := by decide +kernel
theorem dX7_takeHeld_28 : decode cX7_takeHeld 28 = .ok (.if_icmp .ne 5, 3) := by decide +kernel
theorem dX7_takeHeld_31 : decode cX7_takeHeld 31 = .ok (.iconst 1, 1) := by decide +kernel
theorem dX7_takeHeld_32 : decode cX7_takeHeld 32 = .ok (.ireturn, 1) := by decide +kernel
theorem dX7_takeHeld_33 : decode cX7_takeHeld 33 = .ok (.iload 5, 2) := by decide +kernel
theorem dX7_takeHeld_35 : decode cX7_takeHeld 35 = .ok (.ifCond .ge 5, 3) := by decide +kernel
theorem dX7_takeHeld_38 : decode cX7_takeHeld 38 = .ok (.iconst 3, 1) := by decide +kernel
theorem dX7_takeHeld_39 : decode cX7_takeHeld 39 = .ok (.ireturn, 1) := by decide +kernel
theorem dX7_takeHeld_40 : decode cX7_takeHeld 40 = .ok (.aload_n 0, 1) := by decide +kernel
theorem dX7_takeHeld_41 : decode cX7_takeHeld 41 = .ok (.invokevirtual 88, 3) := by decide +kernel
theorem dX7_takeHeld_44 : decode cX7_takeHeld 44 = .ok (.aload_n 0, 1) := by decide +kernel
theorem dX7_takeHeld_45 : decode cX7_takeHeld 45 = .ok (.iload 5, 2) := by decide +kernel
theorem dX7_takeHeld_47 : decode cX7_takeHeld 47 = .ok (.invokevirtual 148, 3) := by decide +kernel
theorem dX7_takeHeld_50 : decode cX7_takeHeld 50 = .ok (.iload_n 3, 1) := by decide +kernel
theorem dX7_takeHeld_51 : decode cX7_takeHeld 51 = .ok (.ifCond .eq 18, 3) := by decide +kernel
theorem dX7_takeHeld_54 : decode cX7_takeHeld 54 = .ok (.aload_n 0, 1) := by decide +kernel
theorem dX7_takeHeld_55 : decode cX7_takeHeld 55 = .ok (.iload 4, 2) := by decide +kernel
theorem dX7_takeHeld_57 : decode cX7_takeHeld 57 = .ok (.iconst 1, 1) := by decide +kernel
theorem dX7_takeHeld_58 : decode cX7_takeHeld 58 = .ok (.iadd, 1) := by decide +kernel
theorem dX7_takeHeld_59 : decode cX7_takeHeld 59 = .ok (.iload 4, 2) := by decide +kernel
theorem dX7_takeHeld_61 : decode cX7_takeHeld 61 = .ok (.iconst 1, 1) := by decide +kernel
theorem dX7_takeHeld_62 : decode cX7_takeHeld 62 = .ok (.iadd, 1) := by decide +kernel
theorem dX7_takeHeld_63 : decode cX7_takeHeld 63 = .ok (.invokevirtual 132, 3) := by decide +kernel
theorem dX7_takeHeld_66 : decode cX7_takeHeld 66 = .ok (.goto 4, 3) := by decide +kernel
theorem dX7_takeHeld_69 : decode cX7_takeHeld 69 = .ok (.iconst 0, 1) := by decide +kernel
theorem dX7_takeHeld_70 : decode cX7_takeHeld 70 = .ok (.ireturn, 1) := by decide +kernel
theorem dX7_unset_0 : decode cX7_unset 0 = .ok (.aload_n 0, 1) := by decide +kernel
theorem dX7_unset_1 : decode cX7_unset 1 = .ok (.aload_n 0, 1) := by decide +kernel
theorem dX7_unset_2 : decode cX7_unset 2 = .ok (.iload_n 1, 1) := by decide +kernel
theorem dX7_unset_3 : decode cX7_unset 3 = .ok (.invokevirtual 74, 3) := by decide +kernel
theorem dX7_unset_6 : decode cX7_unset 6 = .ok (.ifCond .eq 14, 3) := by decide +kernel
theorem dX7_unset_9 : decode cX7_unset 9 = .ok (.iload_n 2, 1) := by decide +kernel
theorem dX7_unset_10 : decode cX7_unset 10 = .ok (.invokestatic 122, 3) := by decide +kernel
theorem dX7_unset_13 : decode cX7_unset 13 = .ok (.ifCond .eq 7, 3) := by decide +kernel
theorem dX7_unset_16 : decode cX7_unset 16 = .ok (.iconst 0, 1) := by decide +kernel
theorem dX7_unset_17 : decode cX7_unset 17 = .ok (.goto 4, 3) := by decide +kernel
theorem dX7_unset_20 : decode cX7_unset 20 = .ok (.iconst 1, 1) := by decide +kernel
theorem dX7_unset_21 : decode cX7_unset 21 = .ok (.putfield 42, 3) := by decide +kernel
theorem dX7_unset_24 : decode cX7_unset 24 = .ok (.aload_n 0, 1) := by decide +kernel
theorem dX7_unset_25 : decode cX7_unset 25 = .ok (.getfield 42, 3) := by decide +kernel
theorem dX7_unset_28 : decode cX7_unset 28 = .ok (.ifCond .le 5, 3) := by decide +kernel
theorem dX7_unset_31 : decode cX7_unset 31 = .ok (.iconst 0, 1) := by decide +kernel
theorem dX7_unset_32 : decode cX7_unset 32 = .ok (.ireturn, 1) := by decide +kernel
theorem dX7_unset_33 : decode cX7_unset 33 = .ok (.aload_n 0, 1) := by decide +kernel
theorem dX7_unset_34 : decode cX7_unset 34 = .ok (.invokevirtual 54, 3) := by decide +kernel
theorem dX7_unset_37 : decode cX7_unset 37 = .ok (.aload_n 0, 1) := by decide +kernel
theorem dX7_unset_38 : decode cX7_unset 38 = .ok (.iload_n 1, 1) := by decide +kernel
theorem dX7_unset_39 : decode cX7_unset 39 = .ok (.iload_n 2, 1) := by decide +kernel
theorem dX7_unset_40 : decode cX7_unset 40 = .ok (.iload_n 3, 1) := by decide +kernel
theorem dX7_unset_41 : decode cX7_unset 41 = .ok (.invokevirtual 152, 3) := by decide +kernel
theorem dX7_unset_44 : decode cX7_unset 44 = .ok (.istore 4, 2) := by decide +kernel
theorem dX7_unset_46 : decode cX7_unset 46 = .ok (.iload 4, 2) := by decide +kernel
theorem dX7_unset_48 : decode cX7_unset 48 = .ok (.ifCond .le 17, 3) := by decide +kernel
theorem dX7_unset_51 : decode cX7_unset 51 = .ok (.aload_n 0, 1) := by decide +kernel
theorem dX7_unset_52 : decode cX7_unset 52 = .ok (.iload 4, 2) := by decide +kernel
theorem dX7_unset_54 : decode cX7_unset 54 = .ok (.invokevirtual 139, 3) := by decide +kernel
theorem dX7_unset_57 : decode cX7_unset 57 = .ok (.pop, 1) := by decide +kernel
theorem dX7_unset_58 : decode cX7_unset 58 = .ok (.aload_n 0, 1) := by decide +kernel
theorem dX7_unset_59 : decode cX7_unset 59 = .ok (.iconst 2, 1) := by decide +kernel
theorem dX7_unset_60 : decode cX7_unset 60 = .ok (.putfield 42, 3) := by decide +kernel
theorem dX7_unset_63 : decode cX7_unset 63 = .ok (.iconst 0, 1) := by decide +kernel
theorem dX7_unset_64 : decode cX7_unset 64 = .ok (.ireturn, 1) := by decide +kernel
theorem dX7_unset_65 : decode cX7_unset 65 = .ok (.aload_n 0, 1) := by decide +kernel
theorem dX7_unset_66 : decode cX7_unset 66 = .ok (.invokevirtual 57, 3) := by decide +kernel
theorem dX7_unset_69 : decode cX7_unset 69 = .ok (.aload_n 0, 1) := by decide +kernel
theorem dX7_unset_70 : decode cX7_unset 70 = .ok (.iload_n 2, 1) := by decide +kernel
theorem dX7_unset_71 : decode cX7_unset 71 = .ok (.invokevirtual 145, 3) := by decide +kernel
theorem dX7_unset_74 : decode cX7_unset 74 = .ok (.ireturn, 1) := by decide +kernel
theorem dX7_doRemove_0 : decode cX7_doRemove 0 = .ok (.aload_n 0, 1) := by decide +kernel
theorem dX7_doRemove_1 : decode cX7_doRemove 1 = .ok (.iload_n 1, 1) := by decide +kernel
theorem dX7_doRemove_2 : decode cX7_doRemove 2 = .ok (.invokevirtual 67, 3) := by decide +kernel
theorem dX7_doRemove_5 : decode cX7_doRemove 5 = .ok (.istore_n 3, 1) := by decide +kernel
theorem dX7_doRemove_6 : decode cX7_doRemove 6 = .ok (.iload_n 3, 1) := by decide +kernel
theorem dX7_doRemove_7 : decode cX7_doRemove 7 = .ok (.ifCond .ge 5, 3) := by decide +kernel
theorem dX7_doRemove_10 : decode cX7_doRemove 10 = .ok (.iconst 1, 1) := by decide +kernel
theorem dX7_doRemove_11 : decode cX7_doRemove 11 = .ok (.ireturn, 1) := by decide +kernel
theorem dX7_doRemove_12 : decode cX7_doRemove 12 = .ok (.aload_n 0, 1) := by decide +kernel
theorem dX7_doRemove_13 : decode cX7_doRemove 13 = .ok (.getfield 9, 3) := by decide +kernel
theorem dX7_doRemove_16 : decode cX7_doRemove 16 = .ok (.iload_n 3, 1) := by decide +kernel
theorem dX7_doRemove_17 : decode cX7_doRemove 17 = .ok (.invokestatic 63, 3) := by decide +kernel
theorem dX7_doRemove_20 : decode cX7_doRemove 20 = .ok (.iconst 3, 1) := by decide +kernel
theorem dX7_doRemove_21 : decode cX7_doRemove 21 = .ok (.iadd, 1) := by decide +kernel
theorem dX7_doRemove_22 : decode cX7_doRemove 22 = .ok (.iaload, 1) := by decide +kernel
theorem dX7_doRemove_23 : decode cX7_doRemove 23 = .ok (.iconst 1, 1) := by decide +kernel
theorem dX7_doRemove_24 : decode cX7_doRemove 24 = .ok (.if_icmp .ne 11, 3) := by decide +kernel
theorem dX7_doRemove_27 : decode cX7_doRemove 27 = .ok (.aload_n 0, 1) := by decide +kernel
theorem dX7_doRemove_28 : decode cX7_doRemove 28 = .ok (.iconst 1, 1) := by decide +kernel
theorem dX7_doRemove_29 : decode cX7_doRemove 29 = .ok (.invokevirtual 139, 3) := by decide +kernel
theorem dX7_doRemove_32 : decode cX7_doRemove 32 = .ok (.pop, 1) := by decide +kernel
theorem dX7_doRemove_33 : decode cX7_doRemove 33 = .ok (.iconst 2, 1) := by decide +kernel
theorem dX7_doRemove_34 : decode cX7_doRemove 34 = .ok (.ireturn, 1) := by decide +kernel
theorem dX7_doRemove_35 : decode cX7_doRemove 35 = .ok (.aload_n 0, 1) := by decide +kernel
theorem dX7_doRemove_36 : decode cX7_doRemove 36 = .ok (.invokevirtual 88, 3) := by decide +kernel
theorem dX7_doRemove_39 : decode cX7_doRemove 39 = .ok (.aload_n 0, 1) := by decide +kernel
theorem dX7_doRemove_40 : decode cX7_doRemove 40 = .ok (.getfield 9, 3) := by decide +kernel
theorem dX7_doRemove_43 : decode cX7_doRemove 43 = .ok (.iconst 1, 1) := by decide +kernel
theorem dX7_doRemove_44 : decode cX7_doRemove 44 = .ok (.iaload, 1) := by decide +kernel
theorem dX7_doRemove_45 : decode cX7_doRemove 45 = .ok (.iconst 1, 1) := by decide +kernel
theorem dX7_doRemove_46 : decode cX7_doRemove 46 = .ok (.isub, 1) := by decide +kernel
theorem dX7_doRemove_47 : decode cX7_doRemove 47 = .ok (.istore 4, 2) := by decide +kernel
theorem dX7_doRemove_49 : decode cX7_doRemove 49 = .ok (.iload 4, 2) := by decide +kernel
theorem dX7_doRemove_51 : decode cX7_doRemove 51 = .ok (.ifCond .lt 32, 3) := by decide +kernel
theorem dX7_doRemove_54 : decode cX7_doRemove 54 = .ok (.aload_n 0, 1) := by decide +kernel
theorem dX7_doRemove_55 : decode cX7_doRemove 55 = .ok (.getfield 9, 3) := by decide +kernel
theorem dX7_doRemove_58 : decode cX7_doRemove 58 = .ok (.sipush 162, 3) := by decide +kernel
theorem dX7_doRemove_61 : decode cX7_doRemove 61 = .ok (.iconst 4, 1) := by decide +kernel
theorem dX7_doRemove_62 : decode cX7_doRemove 62 = .ok (.iload 4, 2) := by decide +kernel
theorem dX7_doRemove_64 : decode cX7_doRemove 64 = .ok (.imul, 1) := by decide +kernel
theorem dX7_doRemove_65 : decode cX7_doRemove 65 = .ok (.iadd, 1) := by decide +kernel
theorem dX7_doRemove_66 : decode cX7_doRemove 66 = .ok (.iaload, 1) := by decide +kernel
theorem dX7_doRemove_67 : decode cX7_doRemove 67 = .ok (.iload_n 1, 1) := by decide +kernel
theorem dX7_doRemove_68 : decode cX7_doRemove 68 = .ok (.if_icmp .ne 9, 3) := by decide +kernel
theorem dX7_doRemove_71 : decode cX7_doRemove 71 = .ok (.aload_n 0, 1) := by decide +kernel
theorem dX7_doRemove_72 : decode cX7_doRemove 72 = .ok (.iload 4, 2) := by decide +kernel
theorem dX7_doRemove_74 : decode cX7_doRemove 74 = .ok (.invokevirtual 148, 3) := by decide +kernel
theorem dX7_doRemove_77 : decode cX7_doRemove 77 = .ok (.iinc 4 (-1), 3) := by decide +kernel
theorem dX7_doRemove_80 : decode cX7_doRemove 80 = .ok (.goto (-31), 3) := by decide +kernel
theorem dX7_doRemove_83 : decode cX7_doRemove 83 = .ok (.aload_n 0, 1) := by decide +kernel
theorem dX7_doRemove_84 : decode cX7_doRemove 84 = .ok (.getfield 9, 3) := by decide +kernel
theorem dX7_doRemove_87 : decode cX7_doRemove 87 = .ok (.iconst 0, 1) := by decide +kernel
theorem dX7_doRemove_88 : decode cX7_doRemove 88 = .ok (.dup2, 1) := by decide +kernel
theorem dX7_doRemove_89 : decode cX7_doRemove 89 = .ok (.iaload, 1) := by decide +kernel
theorem dX7_doRemove_90 : decode cX7_doRemove 90 = .ok (.iconst 1, 1) := by decide +kernel
theorem dX7_doRemove_91 : decode cX7_doRemove 91 = .ok (.isub, 1) := by decide +kernel
theorem dX7_doRemove_92 : decode cX7_doRemove 92 = .ok (.iastore, 1) := by decide +kernel
theorem dX7_doRemove_93 : decode cX7_doRemove 93 = .ok (.aload_n 0, 1) := by decide +kernel
theorem dX7_doRemove_94 : decode cX7_doRemove 94 = .ok (.getfield 9, 3) := by decide +kernel
theorem dX7_doRemove_97 : decode cX7_doRemove 97 = .ok (.iload_n 3, 1) := by decide +kernel
theorem dX7_doRemove_98 : decode cX7_doRemove 98 = .ok (.iconst 1, 1) := by decide +kernel
theorem dX7_doRemove_99 : decode cX7_doRemove 99 = .ok (.iadd, 1) := by decide +kernel
theorem dX7_doRemove_100 : decode cX7_doRemove 100 = .ok (.invokestatic 63, 3) := by decide +kernel
theorem dX7_doRemove_103 : decode cX7_doRemove 103 = .ok (.aload_n 0, 1) := by decide +kernel
theorem dX7_doRemove_104 : decode cX7_doRemove 104 = .ok (.getfield 9, 3) := by decide +kernel
theorem dX7_doRemove_107 : decode cX7_doRemove 107 = .ok (.iload_n 3, 1) := by decide +kernel
theorem dX7_doRemove_108 : decode cX7_doRemove 108 = .ok (.invokestatic 63, 3) := by decide +kernel
theorem dX7_doRemove_111 : decode cX7_doRemove 111 = .ok (.bipush 12, 2) := by decide +kernel
theorem dX7_doRemove_113 : decode cX7_doRemove 113 = .ok (.aload_n 0, 1) := by decide +kernel
theorem dX7_doRemove_114 : decode cX7_doRemove 114 = .ok (.getfield 9, 3) := by decide +kernel
theorem dX7_doRemove_117 : decode cX7_doRemove 117 = .ok (.iconst 0, 1) := by decide +kernel
theorem dX7_doRemove_118 : decode cX7_doRemove 118 = .ok (.iaload, 1) := by decide +kernel
theorem dX7_doRemove_119 : decode cX7_doRemove 119 = .ok (.iload_n 3, 1) := by decide +kernel
theorem dX7_doRemove_120 : decode cX7_doRemove 120 = .ok (.isub, 1) := by decide +kernel
theorem dX7_doRemove_121 : decode cX7_doRemove 121 = .ok (.imul, 1) := by decide +kernel
theorem dX7_doRemove_122 : decode cX7_doRemove 122 = .ok (.invokestatic 48, 3) := by decide +kernel
theorem dX7_doRemove_125 : decode cX7_doRemove 125 = .ok (.iload_n 2, 1) := by decide +kernel
theorem dX7_doRemove_126 : decode cX7_doRemove 126 = .ok (.ifCond .eq 14, 3) := by decide +kernel
theorem dX7_doRemove_129 : decode cX7_doRemove 129 = .ok (.aload_n 0, 1) := by decide +kernel
theorem dX7_doRemove_130 : decode cX7_doRemove 130 = .ok (.iload_n 3, 1) := by decide +kernel
theorem dX7_doRemove_131 : decode cX7_doRemove 131 = .ok (.iload_n 3, 1) := by decide +kernel
theorem dX7_doRemove_132 : decode cX7_doRemove 132 = .ok (.iconst 1, 1) := by decide +kernel
theorem dX7_doRemove_133 : decode cX7_doRemove 133 = .ok (.iadd, 1) := by decide +kernel
theorem dX7_doRemove_134 : decode cX7_doRemove 134 = .ok (.invokevirtual 132, 3) := by decide +kernel
theorem dX7_doRemove_137 : decode cX7_doRemove 137 = .ok (.goto 4, 3) := by decide +kernel
theorem dX7_doRemove_140 : decode cX7_doRemove 140 = .ok (.iconst 0, 1) := by decide +kernel
theorem dX7_doRemove_141 : decode cX7_doRemove 141 = .ok (.istore 4, 2) := by decide +kernel
theorem dX7_doRemove_143 : decode cX7_doRemove 143 = .ok (.iload 4, 2) := by decide +kernel
theorem dX7_doRemove_145 : decode cX7_doRemove 145 = .ok (.ifCond .le 12, 3) := by decide +kernel
theorem dX7_doRemove_148 : decode cX7_doRemove 148 = .ok (.aload_n 0, 1) := by decide +kernel
theorem dX7_doRemove_149 : decode cX7_doRemove 149 = .ok (.iload 4, 2) := by decide +kernel
theorem dX7_doRemove_151 : decode cX7_doRemove 151 = .ok (.invokevirtual 139, 3) := by decide +kernel
theorem dX7_doRemove_154 : decode cX7_doRemove 154 = .ok (.pop, 1) := by decide +kernel
theorem dX7_doRemove_155 : decode cX7_doRemove 155 = .ok (.iconst 2, 1) := by decide +kernel
theorem dX7_doRemove_156 : decode cX7_doRemove 156 = .ok (.ireturn, 1) := by decide +kernel
theorem dX7_doRemove_157 : decode cX7_doRemove 157 = .ok (.iconst 0, 1) := by decide +kernel
theorem dX7_doRemove_158 : decode cX7_doRemove 158 = .ok (.ireturn, 1) := by decide +kernel
theorem dX7_removeCue_0 : decode cX7_removeCue 0 = .ok (.aload_n 0, 1) := by decide +kernel
theorem dX7_removeCue_1 : decode cX7_removeCue 1 = .ok (.iload_n 1, 1) := by decide +kernel
theorem dX7_removeCue_2 : decode cX7_removeCue 2 = .ok (.invokevirtual 107, 3) := by decide +kernel
theorem dX7_removeCue_5 : decode cX7_removeCue 5 = .ok (.istore_n 3, 1) := by decide +kernel
theorem dX7_removeCue_6 : decode cX7_removeCue 6 = .ok (.aload_n 0, 1) := by decide +kernel
theorem dX7_removeCue_7 : decode cX7_removeCue 7 = .ok (.invokevirtual 54, 3) := by decide +kernel
theorem dX7_removeCue_10 : decode cX7_removeCue 10 = .ok (.aload_n 0, 1) := by decide +kernel
theorem dX7_removeCue_11 : decode cX7_removeCue 11 = .ok (.aload_n 0, 1) := by decide +kernel
theorem dX7_removeCue_12 : decode cX7_removeCue 12 = .ok (.iload_n 1, 1) := by decide +kernel
theorem dX7_removeCue_13 : decode cX7_removeCue 13 = .ok (.iload_n 2, 1) := by decide +kernel
theorem dX7_removeCue_14 : decode cX7_removeCue 14 = .ok (.invokevirtual 155, 3) := by decide +kernel
theorem dX7_removeCue_17 : decode cX7_removeCue 17 = .ok (.putfield 42, 3) := by decide +kernel
theorem dX7_removeCue_20 : decode cX7_removeCue 20 = .ok (.aload_n 0, 1) := by decide +kernel
theorem dX7_removeCue_21 : decode cX7_removeCue 21 = .ok (.getfield 42, 3) := by decide +kernel
theorem dX7_removeCue_24 : decode cX7_removeCue 24 = .ok (.ifCond .le 5, 3) := by decide +kernel
theorem dX7_removeCue_27 : decode cX7_removeCue 27 = .ok (.iconst 0, 1) := by decide +kernel
theorem dX7_removeCue_28 : decode cX7_removeCue 28 = .ok (.ireturn, 1) := by decide +kernel
theorem dX7_removeCue_29 : decode cX7_removeCue 29 = .ok (.aload_n 0, 1) := by decide +kernel
theorem dX7_removeCue_30 : decode cX7_removeCue 30 = .ok (.invokevirtual 57, 3) := by decide +kernel
theorem dX7_removeCue_33 : decode cX7_removeCue 33 = .ok (.iload_n 3, 1) := by decide +kernel
theorem dX7_removeCue_34 : decode cX7_removeCue 34 = .ok (.ireturn, 1) := by decide +kernel
theorem dX7_instruction_0 : decode cX7_instruction 0 = .ok (.aload_n 0, 1) := by decide +kernel
theorem dX7_instruction_1 : decode cX7_instruction 1 = .ok (.iload_n 1, 1) := by decide +kernel
theorem dX7_instruction_2 : decode cX7_instruction 2 = .ok (.iconst 0, 1) := by decide +kernel
theorem dX7_instruction_3 : decode cX7_instruction 3 = .ok (.aload_n 0, 1) := by decide +kernel
theorem dX7_instruction_4 : decode cX7_instruction 4 = .ok (.getfield 9, 3) := by decide +kernel
theorem dX7_instruction_7 : decode cX7_instruction 7 = .ok (.iconst 1, 1) := by decide +kernel
theorem dX7_instruction_8 : decode cX7_instruction 8 = .ok (.iaload, 1) := by decide +kernel
theorem dX7_instruction_9 : decode cX7_instruction 9 = .ok (.iconst 1, 1) := by decide +kernel
theorem dX7_instruction_10 : decode cX7_instruction 10 = .ok (.isub, 1) := by decide +kernel
theorem dX7_instruction_11 : decode cX7_instruction 11 = .ok (.invokestatic 70, 3) := by decide +kernel
theorem dX7_instruction_14 : decode cX7_instruction 14 = .ok (.ifCond .ne 7, 3) := by decide +kernel
theorem dX7_instruction_17 : decode cX7_instruction 17 = .ok (.iconst 1, 1) := by decide +kernel
theorem dX7_instruction_18 : decode cX7_instruction 18 = .ok (.goto 17, 3) := by decide +kernel
theorem dX7_instruction_21 : decode cX7_instruction 21 = .ok (.iload_n 2, 1) := by decide +kernel
theorem dX7_instruction_22 : decode cX7_instruction 22 = .ok (.iconst 0, 1) := by decide +kernel
theorem dX7_instruction_23 : decode cX7_instruction 23 = .ok (.iconst 3, 1) := by decide +kernel
theorem dX7_instruction_24 : decode cX7_instruction 24 = .ok (.invokestatic 70, 3) := by decide +kernel
theorem dX7_instruction_27 : decode cX7_instruction 27 = .ok (.ifCond .ne 7, 3) := by decide +kernel
theorem dX7_instruction_30 : decode cX7_instruction 30 = .ok (.iconst 2, 1) := by decide +kernel
theorem dX7_instruction_31 : decode cX7_instruction 31 = .ok (.goto 4, 3) := by decide +kernel
theorem dX7_instruction_34 : decode cX7_instruction 34 = .ok (.iconst 0, 1) := by decide +kernel
theorem dX7_instruction_35 : decode cX7_instruction 35 = .ok (.putfield 42, 3) := by decide +kernel
theorem dX7_instruction_38 : decode cX7_instruction 38 = .ok (.aload_n 0, 1) := by decide +kernel
theorem dX7_instruction_39 : decode cX7_instruction 39 = .ok (.getfield 42, 3) := by decide +kernel
theorem dX7_instruction_42 : decode cX7_instruction 42 = .ok (.ifCond .le 7, 3) := by decide +kernel
theorem dX7_instruction_45 : decode cX7_instruction 45 = .ok (.iconst 0, 1) := by decide +kernel
theorem dX7_instruction_46 : decode cX7_instruction 46 = .ok (.goto 17, 3) := by decide +kernel
theorem dX7_instruction_49 : decode cX7_instruction 49 = .ok (.aload_n 0, 1) := by decide +kernel
theorem dX7_instruction_50 : decode cX7_instruction 50 = .ok (.getfield 9, 3) := by decide +kernel
theorem dX7_instruction_53 : decode cX7_instruction 53 = .ok (.sipush 162, 3) := by decide +kernel
theorem dX7_instruction_56 : decode cX7_instruction 56 = .ok (.iconst 4, 1) := by decide +kernel
theorem dX7_instruction_57 : decode cX7_instruction 57 = .ok (.iload_n 1, 1) := by decide +kernel
theorem dX7_instruction_58 : decode cX7_instruction 58 = .ok (.imul, 1) := by decide +kernel
theorem dX7_instruction_59 : decode cX7_instruction 59 = .ok (.iadd, 1) := by decide +kernel
theorem dX7_instruction_60 : decode cX7_instruction 60 = .ok (.iload_n 2, 1) := by decide +kernel
theorem dX7_instruction_61 : decode cX7_instruction 61 = .ok (.iadd, 1) := by decide +kernel
theorem dX7_instruction_62 : decode cX7_instruction 62 = .ok (.iaload, 1) := by decide +kernel
theorem dX7_instruction_63 : decode cX7_instruction 63 = .ok (.ireturn, 1) := by decide +kernel
theorem dX7_level_0 : decode cX7_level 0 = .ok (.aload_n 0, 1) := by decide +kernel
theorem dX7_level_1 : decode cX7_level 1 = .ok (.aload_n 0, 1) := by decide +kernel
theorem dX7_level_2 : decode cX7_level 2 = .ok (.iload_n 1, 1) := by decide +kernel
theorem dX7_level_3 : decode cX7_level 3 = .ok (.invokevirtual 74, 3) := by decide +kernel
theorem dX7_level_6 : decode cX7_level 6 = .ok (.ifCond .eq 14, 3) := by decide +kernel
theorem dX7_level_9 : decode cX7_level 9 = .ok (.iload_n 2, 1) := by decide +kernel
theorem dX7_level_10 : decode cX7_level 10 = .ok (.invokestatic 122, 3) := by decide +kernel
theorem dX7_level_13 : decode cX7_level 13 = .ok (.ifCond .eq 7, 3) := by decide +kernel
theorem dX7_level_16 : decode cX7_level 16 = .ok (.iconst 0, 1) := by decide +kernel
theorem dX7_level_17 : decode cX7_level 17 = .ok (.goto 4, 3) := by decide +kernel
theorem dX7_level_20 : decode cX7_level 20 = .ok (.iconst 1, 1) := by decide +kernel
theorem dX7_level_21 : decode cX7_level 21 = .ok (.putfield 42, 3) := by decide +kernel
theorem dX7_level_24 : decode cX7_level 24 = .ok (.aload_n 0, 1) := by decide +kernel
theorem dX7_level_25 : decode cX7_level 25 = .ok (.getfield 42, 3) := by decide +kernel
theorem dX7_level_28 : decode cX7_level 28 = .ok (.ifCond .le 7, 3) := by decide +kernel
theorem dX7_level_31 : decode cX7_level 31 = .ok (.iconst 0, 1) := by decide +kernel
theorem dX7_level_32 : decode cX7_level 32 = .ok (.goto 13, 3) := by decide +kernel
theorem dX7_level_35 : decode cX7_level 35 = .ok (.aload_n 0, 1) := by decide +kernel
theorem dX7_level_36 : decode cX7_level 36 = .ok (.aload_n 0, 1) := by decide +kernel
theorem dX7_level_37 : decode cX7_level 37 = .ok (.iload_n 1, 1) := by decide +kernel
theorem dX7_level_38 : decode cX7_level 38 = .ok (.invokevirtual 67, 3) := by decide +kernel
theorem dX7_level_41 : decode cX7_level 41 = .ok (.iload_n 2, 1) := by decide +kernel
theorem dX7_level_42 : decode cX7_level 42 = .ok (.invokevirtual 84, 3) := by decide +kernel
theorem dX7_level_45 : decode cX7_level 45 = .ok (.ireturn, 1) := by decide +kernel
theorem dX7_levelAgain_0 : decode cX7_levelAgain 0 = .ok (.aload_n 0, 1) := by decide +kernel
theorem dX7_levelAgain_1 : decode cX7_levelAgain 1 = .ok (.iload_n 1, 1) := by decide +kernel
theorem dX7_levelAgain_2 : decode cX7_levelAgain 2 = .ok (.iload_n 2, 1) := by decide +kernel
theorem dX7_levelAgain_3 : decode cX7_levelAgain 3 = .ok (.invokevirtual 159, 3) := by decide +kernel
theorem dX7_levelAgain_6 : decode cX7_levelAgain 6 = .ok (.ireturn, 1) := by decide +kernel
theorem dX7_source_0 : decode cX7_source 0 = .ok (.aload_n 0, 1) := by decide +kernel
theorem dX7_source_1 : decode cX7_source 1 = .ok (.aload_n 0, 1) := by decide +kernel
theorem dX7_source_2 : decode cX7_source 2 = .ok (.iload_n 1, 1) := by decide +kernel
theorem dX7_source_3 : decode cX7_source 3 = .ok (.invokevirtual 74, 3) := by decide +kernel
theorem dX7_source_6 : decode cX7_source 6 = .ok (.ifCond .eq 14, 3) := by decide +kernel
theorem dX7_source_9 : decode cX7_source 9 = .ok (.iload_n 2, 1) := by decide +kernel
theorem dX7_source_10 : decode cX7_source 10 = .ok (.invokestatic 122, 3) := by decide +kernel
theorem dX7_source_13 : decode cX7_source 13 = .ok (.ifCond .eq 7, 3) := by decide +kernel
theorem dX7_source_16 : decode cX7_source 16 = .ok (.iconst 0, 1) := by decide +kernel
theorem dX7_source_17 : decode cX7_source 17 = .ok (.goto 4, 3) := by decide +kernel
theorem dX7_source_20 : decode cX7_source 20 = .ok (.iconst 1, 1) := by decide +kernel
theorem dX7_source_21 : decode cX7_source 21 = .ok (.putfield 42, 3) := by decide +kernel
theorem dX7_source_24 : decode cX7_source 24 = .ok (.aload_n 0, 1) := by decide +kernel
theorem dX7_source_25 : decode cX7_source 25 = .ok (.getfield 42, 3) := by decide +kernel
theorem dX7_source_28 : decode cX7_source 28 = .ok (.ifCond .le 5, 3) := by decide +kernel
theorem dX7_source_31 : decode cX7_source 31 = .ok (.iconst 0, 1) := by decide +kernel
theorem dX7_source_32 : decode cX7_source 32 = .ok (.ireturn, 1) := by decide +kernel
theorem dX7_source_33 : decode cX7_source 33 = .ok (.aload_n 0, 1) := by decide +kernel
theorem dX7_source_34 : decode cX7_source 34 = .ok (.iload_n 1, 1) := by decide +kernel
theorem dX7_source_35 : decode cX7_source 35 = .ok (.invokevirtual 67, 3) := by decide +kernel
theorem dX7_source_38 : decode cX7_source 38 = .ok (.istore_n 3, 1) := by decide +kernel
theorem dX7_source_39 : decode cX7_source 39 = .ok (.iload_n 3, 1) := by decide +kernel
theorem dX7_source_40 : decode cX7_source 40 = .ok (.ifCond .le 34, 3) := by decide +kernel
theorem dX7_source_43 : decode cX7_source 43 = .ok (.aload_n 0, 1) := by decide +kernel
theorem dX7_source_44 : decode cX7_source 44 = .ok (.aload_n 0, 1) := by decide +kernel
theorem dX7_source_45 : decode cX7_source 45 = .ok (.getfield 9, 3) := by decide +kernel
theorem dX7_source_48 : decode cX7_source 48 = .ok (.iload_n 3, 1) := by decide +kernel
theorem dX7_source_49 : decode cX7_source 49 = .ok (.invokestatic 63, 3) := by decide +kernel
theorem dX7_source_52 : decode cX7_source 52 = .ok (.iaload, 1) := by decide +kernel
theorem dX7_source_53 : decode cX7_source 53 = .ok (.iload_n 2, 1) := by decide +kernel
theorem dX7_source_54 : decode cX7_source 54 = .ok (.invokevirtual 98, 3) := by decide +kernel
theorem dX7_source_57 : decode cX7_source 57 = .ok (.ifCond .ge 17, 3) := by decide +kernel
theorem dX7_source_60 : decode cX7_source 60 = .ok (.aload_n 0, 1) := by decide +kernel
theorem dX7_source_61 : decode cX7_source 61 = .ok (.iload_n 3, 1) := by decide +kernel
theorem dX7_source_62 : decode cX7_source 62 = .ok (.invokevirtual 101, 3) := by decide +kernel
theorem dX7_source_65 : decode cX7_source 65 = .ok (.ifCond .ne 9, 3) := by decide +kernel
theorem dX7_source_68 : decode cX7_source 68 = .ok (.iinc 3 (-1), 3) := by decide +kernel
theorem dX7_source_71 : decode cX7_source 71 = .ok (.goto (-32), 3) := by decide +kernel
theorem dX7_source_74 : decode cX7_source 74 = .ok (.aload_n 0, 1) := by decide +kernel
theorem dX7_source_75 : decode cX7_source 75 = .ok (.getfield 9, 3) := by decide +kernel
theorem dX7_source_78 : decode cX7_source 78 = .ok (.iload_n 3, 1) := by decide +kernel
theorem dX7_source_79 : decode cX7_source 79 = .ok (.invokestatic 63, 3) := by decide +kernel
theorem dX7_source_82 : decode cX7_source 82 = .ok (.iaload, 1) := by decide +kernel
theorem dX7_source_83 : decode cX7_source 83 = .ok (.ireturn, 1) := by decide +kernel
theorem dX7_sum_0 : decode cX7_sum 0 = .ok (.aload_n 0, 1) := by decide +kernel
theorem dX7_sum_1 : decode cX7_sum 1 = .ok (.aload_n 0, 1) := by decide +kernel
theorem dX7_sum_2 : decode cX7_sum 2 = .ok (.iload_n 1, 1) := by decide +kernel
theorem dX7_sum_3 : decode cX7_sum 3 = .ok (.invokevirtual 74, 3) := by decide +kernel
theorem dX7_sum_6 : decode cX7_sum 6 = .ok (.ifCond .eq 7, 3) := by decide +kernel
theorem dX7_sum_9 : decode cX7_sum 9 = .ok (.iconst 0, 1) := by decide +kernel
theorem dX7_sum_10 : decode cX7_sum 10 = .ok (.goto 4, 3) := by decide +kernel
theorem dX7_sum_13 : decode cX7_sum 13 = .ok (.iconst 1, 1) := by decide +kernel
theorem dX7_sum_14 : decode cX7_sum 14 = .ok (.putfield 42, 3) := by decide +kernel
theorem dX7_sum_17 : decode cX7_sum 17 = .ok (.iconst 0, 1) := by decide +kernel
theorem dX7_sum_18 : decode cX7_sum 18 = .ok (.istore_n 2, 1) := by decide +kernel
theorem dX7_sum_19 : decode cX7_sum 19 = .ok (.iconst 0, 1) := by decide +kernel
theorem dX7_sum_20 : decode cX7_sum 20 = .ok (.istore_n 3, 1) := by decide +kernel
theorem dX7_sum_21 : decode cX7_sum 21 = .ok (.iload_n 3, 1) := by decide +kernel
theorem dX7_sum_22 : decode cX7_sum 22 = .ok (.bipush 12, 2) := by decide +kernel
theorem dX7_sum_24 : decode cX7_sum 24 = .ok (.if_icmp .ge 29, 3) := by decide +kernel
theorem dX7_sum_27 : decode cX7_sum 27 = .ok (.aload_n 0, 1) := by decide +kernel
theorem dX7_sum_28 : decode cX7_sum 28 = .ok (.getfield 42, 3) := by decide +kernel
theorem dX7_sum_31 : decode cX7_sum 31 = .ok (.ifCond .ne 22, 3) := by decide +kernel
theorem dX7_sum_34 : decode cX7_sum 34 = .ok (.iload_n 2, 1) := by decide +kernel
theorem dX7_sum_35 : decode cX7_sum 35 = .ok (.aload_n 0, 1) := by decide +kernel
theorem dX7_sum_36 : decode cX7_sum 36 = .ok (.aload_n 0, 1) := by decide +kernel
theorem dX7_sum_37 : decode cX7_sum 37 = .ok (.iload_n 1, 1) := by decide +kernel
theorem dX7_sum_38 : decode cX7_sum 38 = .ok (.invokevirtual 67, 3) := by decide +kernel
theorem dX7_sum_41 : decode cX7_sum 41 = .ok (.iload_n 3, 1) := by decide +kernel
theorem dX7_sum_42 : decode cX7_sum 42 = .ok (.invokevirtual 84, 3) := by decide +kernel
theorem dX7_sum_45 : decode cX7_sum 45 = .ok (.iadd, 1) := by decide +kernel
theorem dX7_sum_46 : decode cX7_sum 46 = .ok (.istore_n 2, 1) := by decide +kernel
theorem dX7_sum_47 : decode cX7_sum 47 = .ok (.iinc 3 1, 3) := by decide +kernel
theorem dX7_sum_50 : decode cX7_sum 50 = .ok (.goto (-29), 3) := by decide +kernel
theorem dX7_sum_53 : decode cX7_sum 53 = .ok (.iload_n 2, 1) := by decide +kernel
theorem dX7_sum_54 : decode cX7_sum 54 = .ok (.ireturn, 1) := by decide +kernel
theorem dX7_apart_0 : decode cX7_apart 0 = .ok (.aload_n 0, 1) := by decide +kernel
theorem dX7_apart_1 : decode cX7_apart 1 = .ok (.aload_n 0, 1) := by decide +kernel
theorem dX7_apart_2 : decode cX7_apart 2 = .ok (.iload_n 1, 1) := by decide +kernel
theorem dX7_apart_3 : decode cX7_apart 3 = .ok (.invokevirtual 74, 3) := by decide +kernel
theorem dX7_apart_6 : decode cX7_apart 6 = .ok (.ifCond .eq 15, 3) := by decide +kernel
theorem dX7_apart_9 : decode cX7_apart 9 = .ok (.aload_n 0, 1) := by decide +kernel
theorem dX7_apart_10 : decode cX7_apart 10 = .ok (.iload_n 2, 1) := by decide +kernel
theorem dX7_apart_11 : decode cX7_apart 11 = .ok (.invokevirtual 74, 3) := by decide +kernel
theorem dX7_apart_14 : decode cX7_apart 14 = .ok (.ifCond .eq 7, 3) := by decide +kernel
theorem dX7_apart_17 : decode cX7_apart 17 = .ok (.iconst 0, 1) := by decide +kernel
theorem dX7_apart_18 : decode cX7_apart 18 = .ok (.goto 4, 3) := by decide +kernel
theorem dX7_apart_21 : decode cX7_apart 21 = .ok (.iconst 1, 1) := by decide +kernel
theorem dX7_apart_22 : decode cX7_apart 22 = .ok (.putfield 42, 3) := by decide +kernel
theorem dX7_apart_25 : decode cX7_apart 25 = .ok (.iconst 0, 1) := by decide +kernel
theorem dX7_apart_26 : decode cX7_apart 26 = .ok (.istore_n 3, 1) := by decide +kernel
theorem dX7_apart_27 : decode cX7_apart 27 = .ok (.iconst 0, 1) := by decide +kernel
theorem dX7_apart_28 : decode cX7_apart 28 = .ok (.istore 4, 2) := by decide +kernel
theorem dX7_apart_30 : decode cX7_apart 30 = .ok (.iload 4, 2) := by decide +kernel
theorem dX7_apart_32 : decode cX7_apart 32 = .ok (.bipush 12, 2) := by decide +kernel
theorem dX7_apart_34 : decode cX7_apart 34 = .ok (.if_icmp .ge 49, 3) := by decide +kernel
theorem dX7_apart_37 : decode cX7_apart 37 = .ok (.aload_n 0, 1) := by decide +kernel
theorem dX7_apart_38 : decode cX7_apart 38 = .ok (.getfield 42, 3) := by decide +kernel
theorem dX7_apart_41 : decode cX7_apart 41 = .ok (.ifCond .ne 42, 3) := by decide +kernel
theorem dX7_apart_44 : decode cX7_apart 44 = .ok (.iload_n 3, 1) := by decide +kernel
theorem dX7_apart_45 : decode cX7_apart 45 = .ok (.aload_n 0, 1) := by decide +kernel
theorem dX7_apart_46 : decode cX7_apart 46 = .ok (.aload_n 0, 1) := by decide +kernel
theorem dX7_apart_47 : decode cX7_apart 47 = .ok (.iload_n 1, 1) := by decide +kernel
theorem dX7_apart_48 : decode cX7_apart 48 = .ok (.invokevirtual 67, 3) := by decide +kernel
theorem dX7_apart_51 : decode cX7_apart 51 = .ok (.iload 4, 2) := by decide +kernel
theorem dX7_apart_53 : decode cX7_apart 53 = .ok (.invokevirtual 84, 3) := by decide +kernel
theorem dX7_apart_56 : decode cX7_apart 56 = .ok (.aload_n 0, 1) := by decide +kernel
theorem dX7_apart_57 : decode cX7_apart 57 = .ok (.aload_n 0, 1) := by decide +kernel
theorem dX7_apart_58 : decode cX7_apart 58 = .ok (.iload_n 2, 1) := by decide +kernel
theorem dX7_apart_59 : decode cX7_apart 59 = .ok (.invokevirtual 67, 3) := by decide +kernel
theorem dX7_apart_62 : decode cX7_apart 62 = .ok (.iload 4, 2) := by decide +kernel
theorem dX7_apart_64 : decode cX7_apart 64 = .ok (.invokevirtual 84, 3) := by decide +kernel
theorem dX7_apart_67 : decode cX7_apart 67 = .ok (.if_icmp .eq 7, 3) := by decide +kernel
theorem dX7_apart_70 : decode cX7_apart 70 = .ok (.iconst 1, 1) := by decide +kernel
theorem dX7_apart_71 : decode cX7_apart 71 = .ok (.goto 4, 3) := by decide +kernel
theorem dX7_apart_74 : decode cX7_apart 74 = .ok (.iconst 0, 1) := by decide +kernel
theorem dX7_apart_75 : decode cX7_apart 75 = .ok (.iadd, 1) := by decide +kernel
theorem dX7_apart_76 : decode cX7_apart 76 = .ok (.istore_n 3, 1) := by decide +kernel
theorem dX7_apart_77 : decode cX7_apart 77 = .ok (.iinc 4 1, 3) := by decide +kernel
theorem dX7_apart_80 : decode cX7_apart 80 = .ok (.goto (-50), 3) := by decide +kernel
theorem dX7_apart_83 : decode cX7_apart 83 = .ok (.iload_n 3, 1) := by decide +kernel
theorem dX7_apart_84 : decode cX7_apart 84 = .ok (.ireturn, 1) := by decide +kernel
theorem dX7_reason_0 : decode cX7_reason 0 = .ok (.aload_n 0, 1) := by decide +kernel
theorem dX7_reason_1 : decode cX7_reason 1 = .ok (.aload_n 0, 1) := by decide +kernel
theorem dX7_reason_2 : decode cX7_reason 2 = .ok (.getfield 60, 3) := by decide +kernel
theorem dX7_reason_5 : decode cX7_reason 5 = .ok (.ifCond .ne 7, 3) := by decide +kernel
theorem dX7_reason_8 : decode cX7_reason 8 = .ok (.iconst 1, 1) := by decide +kernel
theorem dX7_reason_9 : decode cX7_reason 9 = .ok (.goto 4, 3) := by decide +kernel
theorem dX7_reason_12 : decode cX7_reason 12 = .ok (.iconst 0, 1) := by decide +kernel
theorem dX7_reason_13 : decode cX7_reason 13 = .ok (.putfield 42, 3) := by decide +kernel
theorem dX7_reason_16 : decode cX7_reason 16 = .ok (.aload_n 0, 1) := by decide +kernel
theorem dX7_reason_17 : decode cX7_reason 17 = .ok (.getfield 60, 3) := by decide +kernel
theorem dX7_reason_20 : decode cX7_reason 20 = .ok (.ireturn, 1) := by decide +kernel
theorem dX7_fade_0 : decode cX7_fade 0 = .ok (.sipush 402, 3) := by decide +kernel
theorem dX7_fade_3 : decode cX7_fade 3 = .ok (.iconst 5, 1) := by decide +kernel
theorem dX7_fade_4 : decode cX7_fade 4 = .ok (.iload_n 0, 1) := by decide +kernel
theorem dX7_fade_5 : decode cX7_fade 5 = .ok (.imul, 1) := by decide +kernel
theorem dX7_fade_6 : decode cX7_fade 6 = .ok (.iadd, 1) := by decide +kernel
theorem dX7_fade_7 : decode cX7_fade 7 = .ok (.ireturn, 1) := by decide +kernel
theorem dX7_nowOf_0 : decode cX7_nowOf 0 = .ok (.iload_n 1, 1) := by decide +kernel
theorem dX7_nowOf_1 : decode cX7_nowOf 1 = .ok (.invokestatic 162, 3) := by decide +kernel
theorem dX7_nowOf_4 : decode cX7_nowOf 4 = .ok (.istore_n 2, 1) := by decide +kernel
theorem dX7_nowOf_5 : decode cX7_nowOf 5 = .ok (.aload_n 0, 1) := by decide +kernel
theorem dX7_nowOf_6 : decode cX7_nowOf 6 = .ok (.getfield 9, 3) := by decide +kernel
theorem dX7_nowOf_9 : decode cX7_nowOf 9 = .ok (.iload_n 2, 1) := by decide +kernel
theorem dX7_nowOf_10 : decode cX7_nowOf 10 = .ok (.iaload, 1) := by decide +kernel
theorem dX7_nowOf_11 : decode cX7_nowOf 11 = .ok (.istore_n 3, 1) := by decide +kernel
theorem dX7_nowOf_12 : decode cX7_nowOf 12 = .ok (.aload_n 0, 1) := by decide +kernel
theorem dX7_nowOf_13 : decode cX7_nowOf 13 = .ok (.getfield 9, 3) := by decide +kernel
theorem dX7_nowOf_16 : decode cX7_nowOf 16 = .ok (.iload_n 2, 1) := by decide +kernel
theorem dX7_nowOf_17 : decode cX7_nowOf 17 = .ok (.iconst 1, 1) := by decide +kernel
theorem dX7_nowOf_18 : decode cX7_nowOf 18 = .ok (.iadd, 1) := by decide +kernel
theorem dX7_nowOf_19 : decode cX7_nowOf 19 = .ok (.iaload, 1) := by decide +kernel
theorem dX7_nowOf_20 : decode cX7_nowOf 20 = .ok (.istore 4, 2) := by decide +kernel
theorem dX7_nowOf_22 : decode cX7_nowOf 22 = .ok (.aload_n 0, 1) := by decide +kernel
theorem dX7_nowOf_23 : decode cX7_nowOf 23 = .ok (.getfield 9, 3) := by decide +kernel
theorem dX7_nowOf_26 : decode cX7_nowOf 26 = .ok (.iload_n 2, 1) := by decide +kernel
theorem dX7_nowOf_27 : decode cX7_nowOf 27 = .ok (.iconst 2, 1) := by decide +kernel
theorem dX7_nowOf_28 : decode cX7_nowOf 28 = .ok (.iadd, 1) := by decide +kernel
theorem dX7_nowOf_29 : decode cX7_nowOf 29 = .ok (.iaload, 1) := by decide +kernel
theorem dX7_nowOf_30 : decode cX7_nowOf 30 = .ok (.istore 5, 2) := by decide +kernel
theorem dX7_nowOf_32 : decode cX7_nowOf 32 = .ok (.aload_n 0, 1) := by decide +kernel
theorem dX7_nowOf_33 : decode cX7_nowOf 33 = .ok (.getfield 9, 3) := by decide +kernel
theorem dX7_nowOf_36 : decode cX7_nowOf 36 = .ok (.iload_n 2, 1) := by decide +kernel
theorem dX7_nowOf_37 : decode cX7_nowOf 37 = .ok (.iconst 3, 1) := by decide +kernel
theorem dX7_nowOf_38 : decode cX7_nowOf 38 = .ok (.iadd, 1) := by decide +kernel
theorem dX7_nowOf_39 : decode cX7_nowOf 39 = .ok (.iaload, 1) := by decide +kernel
theorem dX7_nowOf_40 : decode cX7_nowOf 40 = .ok (.istore 6, 2) := by decide +kernel
theorem dX7_nowOf_42 : decode cX7_nowOf 42 = .ok (.aload_n 0, 1) := by decide +kernel
theorem dX7_nowOf_43 : decode cX7_nowOf 43 = .ok (.getfield 9, 3) := by decide +kernel
theorem dX7_nowOf_46 : decode cX7_nowOf 46 = .ok (.iload_n 2, 1) := by decide +kernel
theorem dX7_nowOf_47 : decode cX7_nowOf 47 = .ok (.iconst 4, 1) := by decide +kernel
theorem dX7_nowOf_48 : decode cX7_nowOf 48 = .ok (.iadd, 1) := by decide +kernel
theorem dX7_nowOf_49 : decode cX7_nowOf 49 = .ok (.iaload, 1) := by decide +kernel
theorem dX7_nowOf_50 : decode cX7_nowOf 50 = .ok (.istore 7, 2) := by decide +kernel
theorem dX7_nowOf_52 : decode cX7_nowOf 52 = .ok (.iload 5, 2) := by decide +kernel
theorem dX7_nowOf_54 : decode cX7_nowOf 54 = .ok (.iload 6, 2) := by decide +kernel
theorem dX7_nowOf_56 : decode cX7_nowOf 56 = .ok (.iload 7, 2) := by decide +kernel
theorem dX7_nowOf_58 : decode cX7_nowOf 58 = .ok (.iadd, 1) := by decide +kernel
theorem dX7_nowOf_59 : decode cX7_nowOf 59 = .ok (.if_icmp .lt 6, 3) := by decide +kernel
theorem dX7_nowOf_62 : decode cX7_nowOf 62 = .ok (.iload 4, 2) := by decide +kernel
theorem dX7_nowOf_64 : decode cX7_nowOf 64 = .ok (.ireturn, 1) := by decide +kernel
theorem dX7_nowOf_65 : decode cX7_nowOf 65 = .ok (.iload 5, 2) := by decide +kernel
theorem dX7_nowOf_67 : decode cX7_nowOf 67 = .ok (.iload 6, 2) := by decide +kernel
theorem dX7_nowOf_69 : decode cX7_nowOf 69 = .ok (.if_icmp .gt 7, 3) := by decide +kernel
theorem dX7_nowOf_72 : decode cX7_nowOf 72 = .ok (.iload_n 3, 1) := by decide +kernel
theorem dX7_nowOf_73 : decode cX7_nowOf 73 = .ok (.goto 18, 3) := by decide +kernel
theorem dX7_nowOf_76 : decode cX7_nowOf 76 = .ok (.iload_n 3, 1) := by decide +kernel
theorem dX7_nowOf_77 : decode cX7_nowOf 77 = .ok (.iload 4, 2) := by decide +kernel
theorem dX7_nowOf_79 : decode cX7_nowOf 79 = .ok (.iload_n 3, 1) := by decide +kernel
theorem dX7_nowOf_80 : decode cX7_nowOf 80 = .ok (.isub, 1) := by decide +kernel
theorem dX7_nowOf_81 : decode cX7_nowOf 81 = .ok (.iload 5, 2) := by decide +kernel
theorem dX7_nowOf_83 : decode cX7_nowOf 83 = .ok (.iload 6, 2) := by decide +kernel
theorem dX7_nowOf_85 : decode cX7_nowOf 85 = .ok (.isub, 1) := by decide +kernel
theorem dX7_nowOf_86 : decode cX7_nowOf 86 = .ok (.imul, 1) := by decide +kernel
theorem dX7_nowOf_87 : decode cX7_nowOf 87 = .ok (.iload 7, 2) := by decide +kernel
theorem dX7_nowOf_89 : decode cX7_nowOf 89 = .ok (.idiv, 1) := by decide +kernel
theorem dX7_nowOf_90 : decode cX7_nowOf 90 = .ok (.iadd, 1) := by decide +kernel
theorem dX7_nowOf_91 : decode cX7_nowOf 91 = .ok (.ireturn, 1) := by decide +kernel
theorem dX7_isFading_0 : decode cX7_isFading 0 = .ok (.iload_n 1, 1) := by decide +kernel
theorem dX7_isFading_1 : decode cX7_isFading 1 = .ok (.invokestatic 162, 3) := by decide +kernel
theorem dX7_isFading_4 : decode cX7_isFading 4 = .ok (.istore_n 2, 1) := by decide +kernel
theorem dX7_isFading_5 : decode cX7_isFading 5 = .ok (.aload_n 0, 1) := by decide +kernel
theorem dX7_isFading_6 : decode cX7_isFading 6 = .ok (.getfield 9, 3) := by decide +kernel
theorem dX7_isFading_9 : decode cX7_isFading 9 = .ok (.iload_n 2, 1) := by decide +kernel
theorem dX7_isFading_10 : decode cX7_isFading 10 = .ok (.iconst 2, 1) := by decide +kernel
theorem dX7_isFading_11 : decode cX7_isFading 11 = .ok (.iadd, 1) := by decide +kernel
theorem dX7_isFading_12 : decode cX7_isFading 12 = .ok (.iaload, 1) := by decide +kernel
theorem dX7_isFading_13 : decode cX7_isFading 13 = .ok (.aload_n 0, 1) := by decide +kernel
theorem dX7_isFading_14 : decode cX7_isFading 14 = .ok (.getfield 9, 3) := by decide +kernel
theorem dX7_isFading_17 : decode cX7_isFading 17 = .ok (.iload_n 2, 1) := by decide +kernel
theorem dX7_isFading_18 : decode cX7_isFading 18 = .ok (.iconst 3, 1) := by decide +kernel
theorem dX7_isFading_19 : decode cX7_isFading 19 = .ok (.iadd, 1) := by decide +kernel
theorem dX7_isFading_20 : decode cX7_isFading 20 = .ok (.iaload, 1) := by decide +kernel
theorem dX7_isFading_21 : decode cX7_isFading 21 = .ok (.aload_n 0, 1) := by decide +kernel
theorem dX7_isFading_22 : decode cX7_isFading 22 = .ok (.getfield 9, 3) := by decide +kernel
theorem dX7_isFading_25 : decode cX7_isFading 25 = .ok (.iload_n 2, 1) := by decide +kernel
theorem dX7_isFading_26 : decode cX7_isFading 26 = .ok (.iconst 4, 1) := by decide +kernel
theorem dX7_isFading_27 : decode cX7_isFading 27 = .ok (.iadd, 1) := by decide +kernel
theorem dX7_isFading_28 : decode cX7_isFading 28 = .ok (.iaload, 1) := by decide +kernel
theorem dX7_isFading_29 : decode cX7_isFading 29 = .ok (.iadd, 1) := by decide +kernel
theorem dX7_isFading_30 : decode cX7_isFading 30 = .ok (.if_icmp .ge 7, 3) := by decide +kernel
theorem dX7_isFading_33 : decode cX7_isFading 33 = .ok (.iconst 1, 1) := by decide +kernel
theorem dX7_isFading_34 : decode cX7_isFading 34 = .ok (.goto 4, 3) := by decide +kernel
theorem dX7_isFading_37 : decode cX7_isFading 37 = .ok (.iconst 0, 1) := by decide +kernel
theorem dX7_isFading_38 : decode cX7_isFading 38 = .ok (.ireturn, 1) := by decide +kernel
theorem dX7_goes_0 : decode cX7_goes 0 = .ok (.iconst 0, 1) := by decide +kernel
theorem dX7_goes_1 : decode cX7_goes 1 = .ok (.istore_n 2, 1) := by decide +kernel
theorem dX7_goes_2 : decode cX7_goes 2 = .ok (.aload_n 0, 1) := by decide +kernel
theorem dX7_goes_3 : decode cX7_goes 3 = .ok (.iload_n 1, 1) := by decide +kernel
theorem dX7_goes_4 : decode cX7_goes 4 = .ok (.invokevirtual 67, 3) := by decide +kernel
theorem dX7_goes_7 : decode cX7_goes 7 = .ok (.istore_n 3, 1) := by decide +kernel
theorem dX7_goes_8 : decode cX7_goes 8 = .ok (.iconst 0, 1) := by decide +kernel
theorem dX7_goes_9 : decode cX7_goes 9 = .ok (.istore 4, 2) := by decide +kernel
theorem dX7_goes_11 : decode cX7_goes 11 = .ok (.iload 4, 2) := by decide +kernel
theorem dX7_goes_13 : decode cX7_goes 13 = .ok (.bipush 12, 2) := by decide +kernel
theorem dX7_goes_15 : decode cX7_goes 15 = .ok (.if_icmp .ge 129, 3) := by decide +kernel
theorem dX7_goes_18 : decode cX7_goes 18 = .ok (.aload_n 0, 1) := by decide +kernel
theorem dX7_goes_19 : decode cX7_goes 19 = .ok (.iload_n 3, 1) := by decide +kernel
theorem dX7_goes_20 : decode cX7_goes 20 = .ok (.iload 4, 2) := by decide +kernel
theorem dX7_goes_22 : decode cX7_goes 22 = .ok (.invokevirtual 84, 3) := by decide +kernel
theorem dX7_goes_25 : decode cX7_goes 25 = .ok (.istore 5, 2) := by decide +kernel
theorem dX7_goes_27 : decode cX7_goes 27 = .ok (.iload 4, 2) := by decide +kernel
theorem dX7_goes_29 : decode cX7_goes 29 = .ok (.invokestatic 162, 3) := by decide +kernel
theorem dX7_goes_32 : decode cX7_goes 32 = .ok (.istore 6, 2) := by decide +kernel
theorem dX7_goes_34 : decode cX7_goes 34 = .ok (.iload 5, 2) := by decide +kernel
theorem dX7_goes_36 : decode cX7_goes 36 = .ok (.aload_n 0, 1) := by decide +kernel
theorem dX7_goes_37 : decode cX7_goes 37 = .ok (.getfield 9, 3) := by decide +kernel
theorem dX7_goes_40 : decode cX7_goes 40 = .ok (.iload 6, 2) := by decide +kernel
theorem dX7_goes_42 : decode cX7_goes 42 = .ok (.iconst 1, 1) := by decide +kernel
theorem dX7_goes_43 : decode cX7_goes 43 = .ok (.iadd, 1) := by decide +kernel
theorem dX7_goes_44 : decode cX7_goes 44 = .ok (.iaload, 1) := by decide +kernel
theorem dX7_goes_45 : decode cX7_goes 45 = .ok (.if_icmp .eq 93, 3) := by decide +kernel
theorem dX7_goes_48 : decode cX7_goes 48 = .ok (.aload_n 0, 1) := by decide +kernel
theorem dX7_goes_49 : decode cX7_goes 49 = .ok (.iload_n 1, 1) := by decide +kernel
theorem dX7_goes_50 : decode cX7_goes 50 = .ok (.iload 4, 2) := by decide +kernel
theorem dX7_goes_52 : decode cX7_goes 52 = .ok (.invokevirtual 104, 3) := by decide +kernel
theorem dX7_goes_55 : decode cX7_goes 55 = .ok (.istore 7, 2) := by decide +kernel
theorem dX7_goes_57 : decode cX7_goes 57 = .ok (.aload_n 0, 1) := by decide +kernel
theorem dX7_goes_58 : decode cX7_goes 58 = .ok (.getfield 9, 3) := by decide +kernel
theorem dX7_goes_61 : decode cX7_goes 61 = .ok (.iload 6, 2) := by decide +kernel
theorem dX7_goes_63 : decode cX7_goes 63 = .ok (.aload_n 0, 1) := by decide +kernel
theorem dX7_goes_64 : decode cX7_goes 64 = .ok (.iload 4, 2) := by decide +kernel
theorem dX7_goes_66 : decode cX7_goes 66 = .ok (.invokevirtual 165, 3) := by decide +kernel
theorem dX7_goes_69 : decode cX7_goes 69 = .ok (.iastore, 1) := by decide +kernel
theorem dX7_goes_70 : decode cX7_goes 70 = .ok (.aload_n 0, 1) := by decide +kernel
theorem dX7_goes_71 : decode cX7_goes 71 = .ok (.getfield 9, 3) := by decide +kernel
theorem dX7_goes_74 : decode cX7_goes 74 = .ok (.iload 6, 2) := by decide +kernel
theorem dX7_goes_76 : decode cX7_goes 76 = .ok (.iconst 1, 1) := by decide +kernel
theorem dX7_goes_77 : decode cX7_goes 77 = .ok (.iadd, 1) := by decide +kernel
theorem dX7_goes_78 : decode cX7_goes 78 = .ok (.iload 5, 2) := by decide +kernel
theorem dX7_goes_80 : decode cX7_goes 80 = .ok (.iastore, 1) := by decide +kernel
theorem dX7_goes_81 : decode cX7_goes 81 = .ok (.aload_n 0, 1) := by decide +kernel
theorem dX7_goes_82 : decode cX7_goes 82 = .ok (.getfield 9, 3) := by decide +kernel
theorem dX7_goes_85 : decode cX7_goes 85 = .ok (.iload 6, 2) := by decide +kernel
theorem dX7_goes_87 : decode cX7_goes 87 = .ok (.iconst 2, 1) := by decide +kernel
theorem dX7_goes_88 : decode cX7_goes 88 = .ok (.iadd, 1) := by decide +kernel
theorem dX7_goes_89 : decode cX7_goes 89 = .ok (.iconst 0, 1) := by decide +kernel
theorem dX7_goes_90 : decode cX7_goes 90 = .ok (.iastore, 1) := by decide +kernel
theorem dX7_goes_91 : decode cX7_goes 91 = .ok (.aload_n 0, 1) := by decide +kernel
theorem dX7_goes_92 : decode cX7_goes 92 = .ok (.getfield 9, 3) := by decide +kernel
theorem dX7_goes_95 : decode cX7_goes 95 = .ok (.iload 6, 2) := by decide +kernel
theorem dX7_goes_97 : decode cX7_goes 97 = .ok (.iconst 3, 1) := by decide +kernel
theorem dX7_goes_98 : decode cX7_goes 98 = .ok (.iadd, 1) := by decide +kernel
theorem dX7_goes_99 : decode cX7_goes 99 = .ok (.aload_n 0, 1) := by decide +kernel
theorem dX7_goes_100 : decode cX7_goes 100 = .ok (.getfield 9, 3) := by decide +kernel
theorem dX7_goes_103 : decode cX7_goes 103 = .ok (.aload_n 0, 1) := by decide +kernel
theorem dX7_goes_104 : decode cX7_goes 104 = .ok (.iload_n 1, 1) := by decide +kernel
theorem dX7_goes_105 : decode cX7_goes 105 = .ok (.iload 7, 2) := by decide +kernel
theorem dX7_goes_107 : decode cX7_goes 107 = .ok (.iconst 1, 1) := by decide +kernel
theorem dX7_goes_108 : decode cX7_goes 108 = .ok (.invokevirtual 94, 3) := by decide +kernel
theorem dX7_goes_111 : decode cX7_goes 111 = .ok (.iaload, 1) := by decide +kernel
theorem dX7_goes_112 : decode cX7_goes 112 = .ok (.iastore, 1) := by decide +kernel
theorem dX7_goes_113 : decode cX7_goes 113 = .ok (.aload_n 0, 1) := by decide +kernel
theorem dX7_goes_114 : decode cX7_goes 114 = .ok (.getfield 9, 3) := by decide +kernel
theorem dX7_goes_117 : decode cX7_goes 117 = .ok (.iload 6, 2) := by decide +kernel
theorem dX7_goes_119 : decode cX7_goes 119 = .ok (.iconst 4, 1) := by decide +kernel
theorem dX7_goes_120 : decode cX7_goes 120 = .ok (.iadd, 1) := by decide +kernel
theorem dX7_goes_121 : decode cX7_goes 121 = .ok (.aload_n 0, 1) := by decide +kernel
theorem dX7_goes_122 : decode cX7_goes 122 = .ok (.getfield 9, 3) := by decide +kernel
theorem dX7_goes_125 : decode cX7_goes 125 = .ok (.aload_n 0, 1) := by decide +kernel
theorem dX7_goes_126 : decode cX7_goes 126 = .ok (.iload_n 1, 1) := by decide +kernel
theorem dX7_goes_127 : decode cX7_goes 127 = .ok (.iload 7, 2) := by decide +kernel
theorem dX7_goes_129 : decode cX7_goes 129 = .ok (.iconst 0, 1) := by decide +kernel
theorem dX7_goes_130 : decode cX7_goes 130 = .ok (.invokevirtual 94, 3) := by decide +kernel
theorem dX7_goes_133 : decode cX7_goes 133 = .ok (.iaload, 1) := by decide +kernel
theorem dX7_goes_134 : decode cX7_goes 134 = .ok (.iastore, 1) := by decide +kernel
theorem dX7_goes_135 : decode cX7_goes 135 = .ok (.iinc 2 1, 3) := by decide +kernel
theorem dX7_goes_138 : decode cX7_goes 138 = .ok (.iinc 4 1, 3) := by decide +kernel
theorem dX7_goes_141 : decode cX7_goes 141 = .ok (.goto (-130), 3) := by decide +kernel
theorem dX7_goes_144 : decode cX7_goes 144 = .ok (.aload_n 0, 1) := by decide +kernel
theorem dX7_goes_145 : decode cX7_goes 145 = .ok (.getfield 9, 3) := by decide +kernel
theorem dX7_goes_148 : decode cX7_goes 148 = .ok (.iconst 2, 1) := by decide +kernel
theorem dX7_goes_149 : decode cX7_goes 149 = .ok (.iload_n 1, 1) := by decide +kernel
theorem dX7_goes_150 : decode cX7_goes 150 = .ok (.iastore, 1) := by decide +kernel
theorem dX7_goes_151 : decode cX7_goes 151 = .ok (.aload_n 0, 1) := by decide +kernel
theorem dX7_goes_152 : decode cX7_goes 152 = .ok (.getfield 9, 3) := by decide +kernel
theorem dX7_goes_155 : decode cX7_goes 155 = .ok (.iconst 3, 1) := by decide +kernel
theorem dX7_goes_156 : decode cX7_goes 156 = .ok (.iconst 0, 1) := by decide +kernel
theorem dX7_goes_157 : decode cX7_goes 157 = .ok (.iastore, 1) := by decide +kernel
theorem dX7_goes_158 : decode cX7_goes 158 = .ok (.aload_n 0, 1) := by decide +kernel
theorem dX7_goes_159 : decode cX7_goes 159 = .ok (.getfield 9, 3) := by decide +kernel
theorem dX7_goes_162 : decode cX7_goes 162 = .ok (.iconst 4, 1) := by decide +kernel
theorem dX7_goes_163 : decode cX7_goes 163 = .ok (.dup2, 1) := by decide +kernel
theorem dX7_goes_164 : decode cX7_goes 164 = .ok (.iaload, 1) := by decide +kernel
theorem dX7_goes_165 : decode cX7_goes 165 = .ok (.iconst 1, 1) := by decide +kernel
theorem dX7_goes_166 : decode cX7_goes 166 = .ok (.iadd, 1) := by decide +kernel
theorem dX7_goes_167 : decode cX7_goes 167 = .ok (.iastore, 1) := by decide +kernel
theorem dX7_goes_168 : decode cX7_goes 168 = .ok (.iload_n 2, 1) := by decide +kernel
theorem dX7_goes_169 : decode cX7_goes 169 = .ok (.ireturn, 1) := by decide +kernel
theorem dX7_nextCue_0 : decode cX7_nextCue 0 = .ok (.iconst 0, 1) := by decide +kernel
theorem dX7_nextCue_1 : decode cX7_nextCue 1 = .ok (.istore_n 2, 1) := by decide +kernel
theorem dX7_nextCue_2 : decode cX7_nextCue 2 = .ok (.iload_n 2, 1) := by decide +kernel
theorem dX7_nextCue_3 : decode cX7_nextCue 3 = .ok (.aload_n 0, 1) := by decide +kernel
theorem dX7_nextCue_4 : decode cX7_nextCue 4 = .ok (.getfield 9, 3) := by decide +kernel
theorem dX7_nextCue_7 : decode cX7_nextCue 7 = .ok (.iconst 0, 1) := by decide +kernel
theorem dX7_nextCue_8 : decode cX7_nextCue 8 = .ok (.iaload, 1) := by decide +kernel
theorem dX7_nextCue_9 : decode cX7_nextCue 9 = .ok (.if_icmp .ge 32, 3) := by decide +kernel
theorem dX7_nextCue_12 : decode cX7_nextCue 12 = .ok (.aload_n 0, 1) := by decide +kernel
theorem dX7_nextCue_13 : decode cX7_nextCue 13 = .ok (.getfield 9, 3) := by decide +kernel
theorem dX7_nextCue_16 : decode cX7_nextCue 16 = .ok (.iload_n 2, 1) := by decide +kernel
theorem dX7_nextCue_17 : decode cX7_nextCue 17 = .ok (.invokestatic 63, 3) := by decide +kernel
theorem dX7_nextCue_20 : decode cX7_nextCue 20 = .ok (.iaload, 1) := by decide +kernel
theorem dX7_nextCue_21 : decode cX7_nextCue 21 = .ok (.iload_n 1, 1) := by decide +kernel
theorem dX7_nextCue_22 : decode cX7_nextCue 22 = .ok (.if_icmp .le 13, 3) := by decide +kernel
theorem dX7_nextCue_25 : decode cX7_nextCue 25 = .ok (.aload_n 0, 1) := by decide +kernel
theorem dX7_nextCue_26 : decode cX7_nextCue 26 = .ok (.getfield 9, 3) := by decide +kernel
theorem dX7_nextCue_29 : decode cX7_nextCue 29 = .ok (.iload_n 2, 1) := by decide +kernel
theorem dX7_nextCue_30 : decode cX7_nextCue 30 = .ok (.invokestatic 63, 3) := by decide +kernel
theorem dX7_nextCue_33 : decode cX7_nextCue 33 = .ok (.iaload, 1) := by decide +kernel
theorem dX7_nextCue_34 : decode cX7_nextCue 34 = .ok (.ireturn, 1) := by decide +kernel
theorem dX7_nextCue_35 : decode cX7_nextCue 35 = .ok (.iinc 2 1, 3) := by decide +kernel
theorem dX7_nextCue_38 : decode cX7_nextCue 38 = .ok (.goto (-36), 3) := by decide +kernel
theorem dX7_nextCue_41 : decode cX7_nextCue 41 = .ok (.iconst 0, 1) := by decide +kernel
theorem dX7_nextCue_42 : decode cX7_nextCue 42 = .ok (.ireturn, 1) := by decide +kernel
theorem dX7_cueAhead_0 : decode cX7_cueAhead 0 = .ok (.iconst 0, 1) := by decide +kernel
theorem dX7_cueAhead_1 : decode cX7_cueAhead 1 = .ok (.istore_n 2, 1) := by decide +kernel
theorem dX7_cueAhead_2 : decode cX7_cueAhead 2 = .ok (.iconst 0, 1) := by decide +kernel
theorem dX7_cueAhead_3 : decode cX7_cueAhead 3 = .ok (.istore_n 3, 1) := by decide +kernel
theorem dX7_cueAhead_4 : decode cX7_cueAhead 4 = .ok (.iload_n 3, 1) := by decide +kernel
theorem dX7_cueAhead_5 : decode cX7_cueAhead 5 = .ok (.aload_n 0, 1) := by decide +kernel
theorem dX7_cueAhead_6 : decode cX7_cueAhead 6 = .ok (.getfield 9, 3) := by decide +kernel
theorem dX7_cueAhead_9 : decode cX7_cueAhead 9 = .ok (.iconst 0, 1) := by decide +kernel
theorem dX7_cueAhead_10 : decode cX7_cueAhead 10 = .ok (.iaload, 1) := by decide +kernel
theorem dX7_cueAhead_11 : decode cX7_cueAhead 11 = .ok (.if_icmp .ge 36, 3) := by decide +kernel
theorem dX7_cueAhead_14 : decode cX7_cueAhead 14 = .ok (.aload_n 0, 1) := by decide +kernel
theorem dX7_cueAhead_15 : decode cX7_cueAhead 15 = .ok (.getfield 9, 3) := by decide +kernel
theorem dX7_cueAhead_18 : decode cX7_cueAhead 18 = .ok (.iload_n 3, 1) := by decide +kernel
theorem dX7_cueAhead_19 : decode cX7_cueAhead 19 = .ok (.invokestatic 63, 3) := by decide +kernel
theorem dX7_cueAhead_22 : decode cX7_cueAhead 22 = .ok (.iaload, 1) := by decide +kernel
theorem dX7_cueAhead_23 : decode cX7_cueAhead 23 = .ok (.iload_n 1, 1) := by decide +kernel
theorem dX7_cueAhead_24 : decode cX7_cueAhead 24 = .ok (.if_icmp .ge 15, 3) := by decide +kernel
theorem dX7_cueAhead_27 : decode cX7_cueAhead 27 = .ok (.aload_n 0, 1) := by decide +kernel
theorem dX7_cueAhead_28 : decode cX7_cueAhead 28 = .ok (.getfield 9, 3) := by decide +kernel
theorem dX7_cueAhead_31 : decode cX7_cueAhead 31 = .ok (.iload_n 3, 1) := by decide +kernel
theorem dX7_cueAhead_32 : decode cX7_cueAhead 32 = .ok (.invokestatic 63, 3) := by decide +kernel
theorem dX7_cueAhead_35 : decode cX7_cueAhead 35 = .ok (.iaload, 1) := by decide +kernel
theorem dX7_cueAhead_36 : decode cX7_cueAhead 36 = .ok (.goto 4, 3) := by decide +kernel
theorem dX7_cueAhead_39 : decode cX7_cueAhead 39 = .ok (.iload_n 2, 1) := by decide +kernel
theorem dX7_cueAhead_40 : decode cX7_cueAhead 40 = .ok (.istore_n 2, 1) := by decide +kernel
theorem dX7_cueAhead_41 : decode cX7_cueAhead 41 = .ok (.iinc 3 1, 3) := by decide +kernel
theorem dX7_cueAhead_44 : decode cX7_cueAhead 44 = .ok (.goto (-40), 3) := by decide +kernel
theorem dX7_cueAhead_47 : decode cX7_cueAhead 47 = .ok (.iload_n 2, 1) := by decide +kernel
theorem dX7_cueAhead_48 : decode cX7_cueAhead 48 = .ok (.ireturn, 1) := by decide +kernel
theorem dX7_doGo_0 : decode cX7_doGo 0 = .ok (.iload_n 1, 1) := by decide +kernel
theorem dX7_doGo_1 : decode cX7_doGo 1 = .ok (.ifCond .eq 16, 3) := by decide +kernel
theorem dX7_doGo_4 : decode cX7_doGo 4 = .ok (.aload_n 0, 1) := by decide +kernel
theorem dX7_doGo_5 : decode cX7_doGo 5 = .ok (.aload_n 0, 1) := by decide +kernel
theorem dX7_doGo_6 : decode cX7_doGo 6 = .ok (.getfield 9, 3) := by decide +kernel
theorem dX7_doGo_9 : decode cX7_doGo 9 = .ok (.iconst 2, 1) := by decide +kernel
theorem dX7_doGo_10 : decode cX7_doGo 10 = .ok (.iaload, 1) := by decide +kernel
theorem dX7_doGo_11 : decode cX7_doGo 11 = .ok (.invokevirtual 168, 3) := by decide +kernel
theorem dX7_doGo_14 : decode cX7_doGo 14 = .ok (.goto 13, 3) := by decide +kernel
theorem dX7_doGo_17 : decode cX7_doGo 17 = .ok (.aload_n 0, 1) := by decide +kernel
theorem dX7_doGo_18 : decode cX7_doGo 18 = .ok (.aload_n 0, 1) := by decide +kernel
theorem dX7_doGo_19 : decode cX7_doGo 19 = .ok (.getfield 9, 3) := by decide +kernel
theorem dX7_doGo_22 : decode cX7_doGo 22 = .ok (.iconst 2, 1) := by decide +kernel
theorem dX7_doGo_23 : decode cX7_doGo 23 = .ok (.iaload, 1) := by decide +kernel
theorem dX7_doGo_24 : decode cX7_doGo 24 = .ok (.invokevirtual 171, 3) := by decide +kernel
theorem dX7_doGo_27 : decode cX7_doGo 27 = .ok (.istore_n 2, 1) := by decide +kernel
theorem dX7_doGo_28 : decode cX7_doGo 28 = .ok (.iload_n 2, 1) := by decide +kernel
theorem dX7_doGo_29 : decode cX7_doGo 29 = .ok (.ifCond .ne 17, 3) := by decide +kernel
theorem dX7_doGo_32 : decode cX7_doGo 32 = .ok (.aload_n 0, 1) := by decide +kernel
theorem dX7_doGo_33 : decode cX7_doGo 33 = .ok (.iload_n 1, 1) := by decide +kernel
theorem dX7_doGo_34 : decode cX7_doGo 34 = .ok (.ifCond .eq 7, 3) := by decide +kernel
theorem dX7_doGo_37 : decode cX7_doGo 37 = .ok (.iconst 5, 1) := by decide +kernel
theorem dX7_doGo_38 : decode cX7_doGo 38 = .ok (.goto 4, 3) := by decide +kernel
theorem dX7_doGo_41 : decode cX7_doGo 41 = .ok (.iconst 4, 1) := by decide +kernel
theorem dX7_doGo_42 : decode cX7_doGo 42 = .ok (.invokevirtual 139, 3) := by decide +kernel
theorem dX7_doGo_45 : decode cX7_doGo 45 = .ok (.ireturn, 1) := by decide +kernel
theorem dX7_doGo_46 : decode cX7_doGo 46 = .ok (.aload_n 0, 1) := by decide +kernel
theorem dX7_doGo_47 : decode cX7_doGo 47 = .ok (.iload_n 2, 1) := by decide +kernel
theorem dX7_doGo_48 : decode cX7_doGo 48 = .ok (.invokevirtual 174, 3) := by decide +kernel
theorem dX7_doGo_51 : decode cX7_doGo 51 = .ok (.pop, 1) := by decide +kernel
theorem dX7_doGo_52 : decode cX7_doGo 52 = .ok (.iconst 0, 1) := by decide +kernel
theorem dX7_doGo_53 : decode cX7_doGo 53 = .ok (.ireturn, 1) := by decide +kernel
theorem dX7_steps_0 : decode cX7_steps 0 = .ok (.aload_n 0, 1) := by decide +kernel
theorem dX7_steps_1 : decode cX7_steps 1 = .ok (.invokevirtual 54, 3) := by decide +kernel
theorem dX7_steps_4 : decode cX7_steps 4 = .ok (.aload_n 0, 1) := by decide +kernel
theorem dX7_steps_5 : decode cX7_steps 5 = .ok (.aload_n 0, 1) := by decide +kernel
theorem dX7_steps_6 : decode cX7_steps 6 = .ok (.iload_n 1, 1) := by decide +kernel
theorem dX7_steps_7 : decode cX7_steps 7 = .ok (.invokevirtual 177, 3) := by decide +kernel
theorem dX7_steps_10 : decode cX7_steps 10 = .ok (.ifCond .le 7, 3) := by decide +kernel
theorem dX7_steps_13 : decode cX7_steps 13 = .ok (.iconst 1, 1) := by decide +kernel
theorem dX7_steps_14 : decode cX7_steps 14 = .ok (.goto 4, 3) := by decide +kernel
theorem dX7_steps_17 : decode cX7_steps 17 = .ok (.iconst 0, 1) := by decide +kernel
theorem dX7_steps_18 : decode cX7_steps 18 = .ok (.putfield 42, 3) := by decide +kernel
theorem dX7_steps_21 : decode cX7_steps 21 = .ok (.aload_n 0, 1) := by decide +kernel
theorem dX7_steps_22 : decode cX7_steps 22 = .ok (.getfield 42, 3) := by decide +kernel
theorem dX7_steps_25 : decode cX7_steps 25 = .ok (.ifCond .le 5, 3) := by decide +kernel
theorem dX7_steps_28 : decode cX7_steps 28 = .ok (.iconst 0, 1) := by decide +kernel
theorem dX7_steps_29 : decode cX7_steps 29 = .ok (.ireturn, 1) := by decide +kernel
theorem dX7_steps_30 : decode cX7_steps 30 = .ok (.aload_n 0, 1) := by decide +kernel
theorem dX7_steps_31 : decode cX7_steps 31 = .ok (.invokevirtual 57, 3) := by decide +kernel
theorem dX7_steps_34 : decode cX7_steps 34 = .ok (.aload_n 0, 1) := by decide +kernel
theorem dX7_steps_35 : decode cX7_steps 35 = .ok (.getfield 9, 3) := by decide +kernel
theorem dX7_steps_38 : decode cX7_steps 38 = .ok (.iconst 2, 1) := by decide +kernel
theorem dX7_steps_39 : decode cX7_steps 39 = .ok (.iaload, 1) := by decide +kernel
theorem dX7_steps_40 : decode cX7_steps 40 = .ok (.ireturn, 1) := by decide +kernel
theorem dX7_go_0 : decode cX7_go 0 = .ok (.aload_n 0, 1) := by decide +kernel
theorem dX7_go_1 : decode cX7_go 1 = .ok (.iconst 0, 1) := by decide +kernel
theorem dX7_go_2 : decode cX7_go 2 = .ok (.invokevirtual 181, 3) := by decide +kernel
theorem dX7_go_5 : decode cX7_go 5 = .ok (.ireturn, 1) := by decide +kernel
theorem dX7_back_0 : decode cX7_back 0 = .ok (.aload_n 0, 1) := by decide +kernel
theorem dX7_back_1 : decode cX7_back 1 = .ok (.iconst 1, 1) := by decide +kernel
theorem dX7_back_2 : decode cX7_back 2 = .ok (.invokevirtual 181, 3) := by decide +kernel
theorem dX7_back_5 : decode cX7_back 5 = .ok (.ireturn, 1) := by decide +kernel
theorem dX7_jump_0 : decode cX7_jump 0 = .ok (.aload_n 0, 1) := by decide +kernel
theorem dX7_jump_1 : decode cX7_jump 1 = .ok (.aload_n 0, 1) := by decide +kernel
theorem dX7_jump_2 : decode cX7_jump 2 = .ok (.iload_n 1, 1) := by decide +kernel
theorem dX7_jump_3 : decode cX7_jump 3 = .ok (.invokevirtual 74, 3) := by decide +kernel
theorem dX7_jump_6 : decode cX7_jump 6 = .ok (.ifCond .eq 7, 3) := by decide +kernel
theorem dX7_jump_9 : decode cX7_jump 9 = .ok (.iconst 0, 1) := by decide +kernel
theorem dX7_jump_10 : decode cX7_jump 10 = .ok (.goto 4, 3) := by decide +kernel
theorem dX7_jump_13 : decode cX7_jump 13 = .ok (.iconst 1, 1) := by decide +kernel
theorem dX7_jump_14 : decode cX7_jump 14 = .ok (.putfield 42, 3) := by decide +kernel
theorem dX7_jump_17 : decode cX7_jump 17 = .ok (.aload_n 0, 1) := by decide +kernel
theorem dX7_jump_18 : decode cX7_jump 18 = .ok (.getfield 42, 3) := by decide +kernel
theorem dX7_jump_21 : decode cX7_jump 21 = .ok (.ifCond .le 5, 3) := by decide +kernel
theorem dX7_jump_24 : decode cX7_jump 24 = .ok (.iconst 0, 1) := by decide +kernel
theorem dX7_jump_25 : decode cX7_jump 25 = .ok (.ireturn, 1) := by decide +kernel
theorem dX7_jump_26 : decode cX7_jump 26 = .ok (.aload_n 0, 1) := by decide +kernel
theorem dX7_jump_27 : decode cX7_jump 27 = .ok (.invokevirtual 81, 3) := by decide +kernel
theorem dX7_jump_30 : decode cX7_jump 30 = .ok (.aload_n 0, 1) := by decide +kernel
theorem dX7_jump_31 : decode cX7_jump 31 = .ok (.iload_n 1, 1) := by decide +kernel
theorem dX7_jump_32 : decode cX7_jump 32 = .ok (.invokevirtual 174, 3) := by decide +kernel
theorem dX7_jump_35 : decode cX7_jump 35 = .ok (.ireturn, 1) := by decide +kernel
theorem dX7_follows_0 : decode cX7_follows 0 = .ok (.aload_n 0, 1) := by decide +kernel
theorem dX7_follows_1 : decode cX7_follows 1 = .ok (.getfield 9, 3) := by decide +kernel
theorem dX7_follows_4 : decode cX7_follows 4 = .ok (.iconst 2, 1) := by decide +kernel
theorem dX7_follows_5 : decode cX7_follows 5 = .ok (.iaload, 1) := by decide +kernel
theorem dX7_follows_6 : decode cX7_follows 6 = .ok (.ifCond .ne 7, 3) := by decide +kernel
theorem dX7_follows_9 : decode cX7_follows 9 = .ok (.iconst (-1), 1) := by decide +kernel
theorem dX7_follows_10 : decode cX7_follows 10 = .ok (.goto 13, 3) := by decide +kernel
theorem dX7_follows_13 : decode cX7_follows 13 = .ok (.aload_n 0, 1) := by decide +kernel
theorem dX7_follows_14 : decode cX7_follows 14 = .ok (.aload_n 0, 1) := by decide +kernel
theorem dX7_follows_15 : decode cX7_follows 15 = .ok (.getfield 9, 3) := by decide +kernel
theorem dX7_follows_18 : decode cX7_follows 18 = .ok (.iconst 2, 1) := by decide +kernel
theorem dX7_follows_19 : decode cX7_follows 19 = .ok (.iaload, 1) := by decide +kernel
theorem dX7_follows_20 : decode cX7_follows 20 = .ok (.invokevirtual 67, 3) := by decide +kernel
theorem dX7_follows_23 : decode cX7_follows 23 = .ok (.istore_n 1, 1) := by decide +kernel
theorem dX7_follows_24 : decode cX7_follows 24 = .ok (.iload_n 1, 1) := by decide +kernel
theorem dX7_follows_25 : decode cX7_follows 25 = .ok (.ifCond .lt 34, 3) := by decide +kernel
theorem dX7_follows_28 : decode cX7_follows 28 = .ok (.aload_n 0, 1) := by decide +kernel
theorem dX7_follows_29 : decode cX7_follows 29 = .ok (.getfield 9, 3) := by decide +kernel
theorem dX7_follows_32 : decode cX7_follows 32 = .ok (.iload_n 1, 1) := by decide +kernel
theorem dX7_follows_33 : decode cX7_follows 33 = .ok (.invokestatic 63, 3) := by decide +kernel
theorem dX7_follows_36 : decode cX7_follows 36 = .ok (.iconst 1, 1) := by decide +kernel
theorem dX7_follows_37 : decode cX7_follows 37 = .ok (.iadd, 1) := by decide +kernel
theorem dX7_follows_38 : decode cX7_follows 38 = .ok (.iaload, 1) := by decide +kernel
theorem dX7_follows_39 : decode cX7_follows 39 = .ok (.ifCond .le 20, 3) := by decide +kernel
theorem dX7_follows_42 : decode cX7_follows 42 = .ok (.aload_n 0, 1) := by decide +kernel
theorem dX7_follows_43 : decode cX7_follows 43 = .ok (.aload_n 0, 1) := by decide +kernel
theorem dX7_follows_44 : decode cX7_follows 44 = .ok (.getfield 9, 3) := by decide +kernel
theorem dX7_follows_47 : decode cX7_follows 47 = .ok (.iconst 2, 1) := by decide +kernel
theorem dX7_follows_48 : decode cX7_follows 48 = .ok (.iaload, 1) := by decide +kernel
theorem dX7_follows_49 : decode cX7_follows 49 = .ok (.invokevirtual 171, 3) := by decide +kernel
theorem dX7_follows_52 : decode cX7_follows 52 = .ok (.ifCond .le 7, 3) := by decide +kernel
theorem dX7_follows_55 : decode cX7_follows 55 = .ok (.iconst 1, 1) := by decide +kernel
theorem dX7_follows_56 : decode cX7_follows 56 = .ok (.goto 4, 3) := by decide +kernel
theorem dX7_follows_59 : decode cX7_follows 59 = .ok (.iconst 0, 1) := by decide +kernel
theorem dX7_follows_60 : decode cX7_follows 60 = .ok (.ireturn, 1) := by decide +kernel
theorem dX7_doPass_0 : decode cX7_doPass 0 = .ok (.iload_n 1, 1) := by decide +kernel
theorem dX7_doPass_1 : decode cX7_doPass 1 = .ok (.iconst 0, 1) := by decide +kernel
theorem dX7_doPass_2 : decode cX7_doPass 2 = .ok (.sipush 6000, 3) := by decide +kernel
theorem dX7_doPass_5 : decode cX7_doPass 5 = .ok (.invokestatic 70, 3) := by decide +kernel
theorem dX7_doPass_8 : decode cX7_doPass 8 = .ok (.ifCond .ne 5, 3) := by decide +kernel
theorem dX7_doPass_11 : decode cX7_doPass 11 = .ok (.iconst 1, 1) := by decide +kernel
theorem dX7_doPass_12 : decode cX7_doPass 12 = .ok (.ireturn, 1) := by decide +kernel
theorem dX7_doPass_13 : decode cX7_doPass 13 = .ok (.aload_n 0, 1) := by decide +kernel
theorem dX7_doPass_14 : decode cX7_doPass 14 = .ok (.getfield 9, 3) := by decide +kernel
theorem dX7_doPass_17 : decode cX7_doPass 17 = .ok (.iconst 5, 1) := by decide +kernel
theorem dX7_doPass_18 : decode cX7_doPass 18 = .ok (.iaload, 1) := by decide +kernel
theorem dX7_doPass_19 : decode cX7_doPass 19 = .ok (.iload_n 1, 1) := by decide +kernel
theorem dX7_doPass_20 : decode cX7_doPass 20 = .ok (.iadd, 1) := by decide +kernel
theorem dX7_doPass_21 : decode cX7_doPass 21 = .ok (.ldc 184, 2) := by decide +kernel
theorem dX7_doPass_23 : decode cX7_doPass 23 = .ok (.if_icmp .le 5, 3) := by decide +kernel
theorem dX7_doPass_26 : decode cX7_doPass 26 = .ok (.iconst 2, 1) := by decide +kernel
theorem dX7_doPass_27 : decode cX7_doPass 27 = .ok (.ireturn, 1) := by decide +kernel
theorem dX7_doPass_28 : decode cX7_doPass 28 = .ok (.iconst 0, 1) := by decide +kernel
theorem dX7_doPass_29 : decode cX7_doPass 29 = .ok (.istore_n 2, 1) := by decide +kernel
theorem dX7_doPass_30 : decode cX7_doPass 30 = .ok (.iload_n 2, 1) := by decide +kernel
theorem dX7_doPass_31 : decode cX7_doPass 31 = .ok (.iload_n 1, 1) := by decide +kernel
theorem dX7_doPass_32 : decode cX7_doPass 32 = .ok (.if_icmp .ge 122, 3) := by decide +kernel
theorem dX7_doPass_35 : decode cX7_doPass 35 = .ok (.aload_n 0, 1) := by decide +kernel
theorem dX7_doPass_36 : decode cX7_doPass 36 = .ok (.getfield 9, 3) := by decide +kernel
theorem dX7_doPass_39 : decode cX7_doPass 39 = .ok (.iconst 5, 1) := by decide +kernel
theorem dX7_doPass_40 : decode cX7_doPass 40 = .ok (.dup2, 1) := by decide +kernel
theorem dX7_doPass_41 : decode cX7_doPass 41 = .ok (.iaload, 1) := by decide +kernel
theorem dX7_doPass_42 : decode cX7_doPass 42 = .ok (.iconst 1, 1) := by decide +kernel
theorem dX7_doPass_43 : decode cX7_doPass 43 = .ok (.iadd, 1) := by decide +kernel
theorem dX7_doPass_44 : decode cX7_doPass 44 = .ok (.iastore, 1) := by decide +kernel
theorem dX7_doPass_45 : decode cX7_doPass 45 = .ok (.aload_n 0, 1) := by decide +kernel
theorem dX7_doPass_46 : decode cX7_doPass 46 = .ok (.getfield 9, 3) := by decide +kernel
theorem dX7_doPass_49 : decode cX7_doPass 49 = .ok (.iconst 3, 1) := by decide +kernel
theorem dX7_doPass_50 : decode cX7_doPass 50 = .ok (.dup2, 1) := by decide +kernel
theorem dX7_doPass_51 : decode cX7_doPass 51 = .ok (.iaload, 1) := by decide +kernel
theorem dX7_doPass_52 : decode cX7_doPass 52 = .ok (.aload_n 0, 1) := by decide +kernel
theorem dX7_doPass_53 : decode cX7_doPass 53 = .ok (.getfield 9, 3) := by decide +kernel
theorem dX7_doPass_56 : decode cX7_doPass 56 = .ok (.iconst 2, 1) := by decide +kernel
theorem dX7_doPass_57 : decode cX7_doPass 57 = .ok (.iaload, 1) := by decide +kernel
theorem dX7_doPass_58 : decode cX7_doPass 58 = .ok (.ifCond .le 7, 3) := by decide +kernel
theorem dX7_doPass_61 : decode cX7_doPass 61 = .ok (.iconst 1, 1) := by decide +kernel
theorem dX7_doPass_62 : decode cX7_doPass 62 = .ok (.goto 4, 3) := by decide +kernel
theorem dX7_doPass_65 : decode cX7_doPass 65 = .ok (.iconst 0, 1) := by decide +kernel
theorem dX7_doPass_66 : decode cX7_doPass 66 = .ok (.iadd, 1) := by decide +kernel
theorem dX7_doPass_67 : decode cX7_doPass 67 = .ok (.iastore, 1) := by decide +kernel
theorem dX7_doPass_68 : decode cX7_doPass 68 = .ok (.iconst 0, 1) := by decide +kernel
theorem dX7_doPass_69 : decode cX7_doPass 69 = .ok (.istore_n 3, 1) := by decide +kernel
theorem dX7_doPass_70 : decode cX7_doPass 70 = .ok (.iload_n 3, 1) := by decide +kernel
theorem dX7_doPass_71 : decode cX7_doPass 71 = .ok (.bipush 12, 2) := by decide +kernel
theorem dX7_doPass_73 : decode cX7_doPass 73 = .ok (.if_icmp .ge 24, 3) := by decide +kernel
theorem dX7_doPass_76 : decode cX7_doPass 76 = .ok (.aload_n 0, 1) := by decide +kernel
theorem dX7_doPass_77 : decode cX7_doPass 77 = .ok (.getfield 9, 3) := by decide +kernel
theorem dX7_doPass_80 : decode cX7_doPass 80 = .ok (.iload_n 3, 1) := by decide +kernel
theorem dX7_doPass_81 : decode cX7_doPass 81 = .ok (.invokestatic 162, 3) := by decide +kernel
theorem dX7_doPass_84 : decode cX7_doPass 84 = .ok (.iconst 2, 1) := by decide +kernel
theorem dX7_doPass_85 : decode cX7_doPass 85 = .ok (.iadd, 1) := by decide +kernel
theorem dX7_doPass_86 : decode cX7_doPass 86 = .ok (.dup2, 1) := by decide +kernel
theorem dX7_doPass_87 : decode cX7_doPass 87 = .ok (.iaload, 1) := by decide +kernel
theorem dX7_doPass_88 : decode cX7_doPass 88 = .ok (.iconst 1, 1) := by decide +kernel
theorem dX7_doPass_89 : decode cX7_doPass 89 = .ok (.iadd, 1) := by decide +kernel
theorem dX7_doPass_90 : decode cX7_doPass 90 = .ok (.iastore, 1) := by decide +kernel
theorem dX7_doPass_91 : decode cX7_doPass 91 = .ok (.iinc 3 1, 3) := by decide +kernel
theorem dX7_doPass_94 : decode cX7_doPass 94 = .ok (.goto (-24), 3) := by decide +kernel
theorem dX7_doPass_97 : decode cX7_doPass 97 = .ok (.aload_n 0, 1) := by decide +kernel
theorem dX7_doPass_98 : decode cX7_doPass 98 = .ok (.invokevirtual 185, 3) := by decide +kernel
theorem dX7_doPass_101 : decode cX7_doPass 101 = .ok (.ifCond .eq 47, 3) := by decide +kernel
theorem dX7_doPass_104 : decode cX7_doPass 104 = .ok (.aload_n 0, 1) := by decide +kernel
theorem dX7_doPass_105 : decode cX7_doPass 105 = .ok (.getfield 9, 3) := by decide +kernel
theorem dX7_doPass_108 : decode cX7_doPass 108 = .ok (.aload_n 0, 1) := by decide +kernel
theorem dX7_doPass_109 : decode cX7_doPass 109 = .ok (.aload_n 0, 1) := by decide +kernel
theorem dX7_doPass_110 : decode cX7_doPass 110 = .ok (.getfield 9, 3) := by decide +kernel
theorem dX7_doPass_113 : decode cX7_doPass 113 = .ok (.iconst 2, 1) := by decide +kernel
theorem dX7_doPass_114 : decode cX7_doPass 114 = .ok (.iaload, 1) := by decide +kernel
theorem dX7_doPass_115 : decode cX7_doPass 115 = .ok (.invokevirtual 67, 3) := by decide +kernel
theorem dX7_doPass_118 : decode cX7_doPass 118 = .ok (.invokestatic 63, 3) := by decide +kernel
theorem dX7_doPass_121 : decode cX7_doPass 121 = .ok (.iconst 1, 1) := by decide +kernel
theorem dX7_doPass_122 : decode cX7_doPass 122 = .ok (.iadd, 1) := by decide +kernel
theorem dX7_doPass_123 : decode cX7_doPass 123 = .ok (.iaload, 1) := by decide +kernel
theorem dX7_doPass_124 : decode cX7_doPass 124 = .ok (.aload_n 0, 1) := by decide +kernel
theorem dX7_doPass_125 : decode cX7_doPass 125 = .ok (.getfield 9, 3) := by decide +kernel
theorem dX7_doPass_128 : decode cX7_doPass 128 = .ok (.iconst 3, 1) := by decide +kernel
theorem dX7_doPass_129 : decode cX7_doPass 129 = .ok (.iaload, 1) := by decide +kernel
theorem dX7_doPass_130 : decode cX7_doPass 130 = .ok (.if_icmp .gt 18, 3) := by decide +kernel
theorem dX7_doPass_133 : decode cX7_doPass 133 = .ok (.aload_n 0, 1) := by decide +kernel
theorem dX7_doPass_134 : decode cX7_doPass 134 = .ok (.aload_n 0, 1) := by decide +kernel
theorem dX7_doPass_135 : decode cX7_doPass 135 = .ok (.aload_n 0, 1) := by decide +kernel
theorem dX7_doPass_136 : decode cX7_doPass 136 = .ok (.getfield 9, 3) := by decide +kernel
theorem dX7_doPass_139 : decode cX7_doPass 139 = .ok (.iconst 2, 1) := by decide +kernel
theorem dX7_doPass_140 : decode cX7_doPass 140 = .ok (.iaload, 1) := by decide +kernel
theorem dX7_doPass_141 : decode cX7_doPass 141 = .ok (.invokevirtual 171, 3) := by decide +kernel
theorem dX7_doPass_144 : decode cX7_doPass 144 = .ok (.invokevirtual 174, 3) := by decide +kernel
theorem dX7_doPass_147 : decode cX7_doPass 147 = .ok (.pop, 1) := by decide +kernel
theorem dX7_doPass_148 : decode cX7_doPass 148 = .ok (.iinc 2 1, 3) := by decide +kernel
theorem dX7_doPass_151 : decode cX7_doPass 151 = .ok (.goto (-121), 3) := by decide +kernel
theorem dX7_doPass_154 : decode cX7_doPass 154 = .ok (.iconst 0, 1) := by decide +kernel
theorem dX7_doPass_155 : decode cX7_doPass 155 = .ok (.ireturn, 1) := by decide +kernel
theorem dX7_pass_0 : decode cX7_pass 0 = .ok (.aload_n 0, 1) := by decide +kernel
theorem dX7_pass_1 : decode cX7_pass 1 = .ok (.getfield 9, 3) := by decide +kernel
theorem dX7_pass_4 : decode cX7_pass 4 = .ok (.iconst 4, 1) := by decide +kernel
theorem dX7_pass_5 : decode cX7_pass 5 = .ok (.iaload, 1) := by decide +kernel
theorem dX7_pass_6 : decode cX7_pass 6 = .ok (.istore_n 2, 1) := by decide +kernel
theorem dX7_pass_7 : decode cX7_pass 7 = .ok (.aload_n 0, 1) := by decide +kernel
theorem dX7_pass_8 : decode cX7_pass 8 = .ok (.invokevirtual 54, 3) := by decide +kernel
theorem dX7_pass_11 : decode cX7_pass 11 = .ok (.aload_n 0, 1) := by decide +kernel
theorem dX7_pass_12 : decode cX7_pass 12 = .ok (.aload_n 0, 1) := by decide +kernel
theorem dX7_pass_13 : decode cX7_pass 13 = .ok (.iload_n 1, 1) := by decide +kernel
theorem dX7_pass_14 : decode cX7_pass 14 = .ok (.invokevirtual 189, 3) := by decide +kernel
theorem dX7_pass_17 : decode cX7_pass 17 = .ok (.putfield 42, 3) := by decide +kernel
theorem dX7_pass_20 : decode cX7_pass 20 = .ok (.aload_n 0, 1) := by decide +kernel
theorem dX7_pass_21 : decode cX7_pass 21 = .ok (.getfield 42, 3) := by decide +kernel
theorem dX7_pass_24 : decode cX7_pass 24 = .ok (.ifCond .le 5, 3) := by decide +kernel
theorem dX7_pass_27 : decode cX7_pass 27 = .ok (.iconst 0, 1) := by decide +kernel
theorem dX7_pass_28 : decode cX7_pass 28 = .ok (.ireturn, 1) := by decide +kernel
theorem dX7_pass_29 : decode cX7_pass 29 = .ok (.aload_n 0, 1) := by decide +kernel
theorem dX7_pass_30 : decode cX7_pass 30 = .ok (.invokevirtual 57, 3) := by decide +kernel
theorem dX7_pass_33 : decode cX7_pass 33 = .ok (.aload_n 0, 1) := by decide +kernel
theorem dX7_pass_34 : decode cX7_pass 34 = .ok (.getfield 9, 3) := by decide +kernel
theorem dX7_pass_37 : decode cX7_pass 37 = .ok (.iconst 4, 1) := by decide +kernel
theorem dX7_pass_38 : decode cX7_pass 38 = .ok (.iaload, 1) := by decide +kernel
theorem dX7_pass_39 : decode cX7_pass 39 = .ok (.iload_n 2, 1) := by decide +kernel
theorem dX7_pass_40 : decode cX7_pass 40 = .ok (.isub, 1) := by decide +kernel
theorem dX7_pass_41 : decode cX7_pass 41 = .ok (.ireturn, 1) := by decide +kernel
theorem dX7_now_0 : decode cX7_now 0 = .ok (.aload_n 0, 1) := by decide +kernel
theorem dX7_now_1 : decode cX7_now 1 = .ok (.iload_n 1, 1) := by decide +kernel
theorem dX7_now_2 : decode cX7_now 2 = .ok (.invokestatic 122, 3) := by decide +kernel
theorem dX7_now_5 : decode cX7_now 5 = .ok (.ifCond .eq 7, 3) := by decide +kernel
theorem dX7_now_8 : decode cX7_now 8 = .ok (.iconst 0, 1) := by decide +kernel
theorem dX7_now_9 : decode cX7_now 9 = .ok (.goto 4, 3) := by decide +kernel
theorem dX7_now_12 : decode cX7_now 12 = .ok (.iconst 1, 1) := by decide +kernel
theorem dX7_now_13 : decode cX7_now 13 = .ok (.putfield 42, 3) := by decide +kernel
theorem dX7_now_16 : decode cX7_now 16 = .ok (.aload_n 0, 1) := by decide +kernel
theorem dX7_now_17 : decode cX7_now 17 = .ok (.getfield 42, 3) := by decide +kernel
theorem dX7_now_20 : decode cX7_now 20 = .ok (.ifCond .le 7, 3) := by decide +kernel
theorem dX7_now_23 : decode cX7_now 23 = .ok (.iconst 0, 1) := by decide +kernel
theorem dX7_now_24 : decode cX7_now 24 = .ok (.goto 8, 3) := by decide +kernel
theorem dX7_now_27 : decode cX7_now 27 = .ok (.aload_n 0, 1) := by decide +kernel
theorem dX7_now_28 : decode cX7_now 28 = .ok (.iload_n 1, 1) := by decide +kernel
theorem dX7_now_29 : decode cX7_now 29 = .ok (.invokevirtual 165, 3) := by decide +kernel
theorem dX7_now_32 : decode cX7_now 32 = .ok (.ireturn, 1) := by decide +kernel
theorem dX7_target_0 : decode cX7_target 0 = .ok (.aload_n 0, 1) := by decide +kernel
theorem dX7_target_1 : decode cX7_target 1 = .ok (.iload_n 1, 1) := by decide +kernel
theorem dX7_target_2 : decode cX7_target 2 = .ok (.invokestatic 122, 3) := by decide +kernel
theorem dX7_target_5 : decode cX7_target 5 = .ok (.ifCond .eq 7, 3) := by decide +kernel
theorem dX7_target_8 : decode cX7_target 8 = .ok (.iconst 0, 1) := by decide +kernel
theorem dX7_target_9 : decode cX7_target 9 = .ok (.goto 4, 3) := by decide +kernel
theorem dX7_target_12 : decode cX7_target 12 = .ok (.iconst 1, 1) := by decide +kernel
theorem dX7_target_13 : decode cX7_target 13 = .ok (.putfield 42, 3) := by decide +kernel
theorem dX7_target_16 : decode cX7_target 16 = .ok (.aload_n 0, 1) := by decide +kernel
theorem dX7_target_17 : decode cX7_target 17 = .ok (.getfield 42, 3) := by decide +kernel
theorem dX7_target_20 : decode cX7_target 20 = .ok (.ifCond .le 7, 3) := by decide +kernel
theorem dX7_target_23 : decode cX7_target 23 = .ok (.iconst 0, 1) := by decide +kernel
theorem dX7_target_24 : decode cX7_target 24 = .ok (.goto 14, 3) := by decide +kernel
theorem dX7_target_27 : decode cX7_target 27 = .ok (.aload_n 0, 1) := by decide +kernel
theorem dX7_target_28 : decode cX7_target 28 = .ok (.getfield 9, 3) := by decide +kernel
theorem dX7_target_31 : decode cX7_target 31 = .ok (.iload_n 1, 1) := by decide +kernel
theorem dX7_target_32 : decode cX7_target 32 = .ok (.invokestatic 162, 3) := by decide +kernel
theorem dX7_target_35 : decode cX7_target 35 = .ok (.iconst 1, 1) := by decide +kernel
theorem dX7_target_36 : decode cX7_target 36 = .ok (.iadd, 1) := by decide +kernel
theorem dX7_target_37 : decode cX7_target 37 = .ok (.iaload, 1) := by decide +kernel
theorem dX7_target_38 : decode cX7_target 38 = .ok (.ireturn, 1) := by decide +kernel
theorem dX7_fading_0 : decode cX7_fading 0 = .ok (.iconst 0, 1) := by decide +kernel
theorem dX7_fading_1 : decode cX7_fading 1 = .ok (.istore_n 1, 1) := by decide +kernel
theorem dX7_fading_2 : decode cX7_fading 2 = .ok (.iconst 0, 1) := by decide +kernel
theorem dX7_fading_3 : decode cX7_fading 3 = .ok (.istore_n 2, 1) := by decide +kernel
theorem dX7_fading_4 : decode cX7_fading 4 = .ok (.iload_n 2, 1) := by decide +kernel
theorem dX7_fading_5 : decode cX7_fading 5 = .ok (.bipush 12, 2) := by decide +kernel
theorem dX7_fading_7 : decode cX7_fading 7 = .ok (.if_icmp .ge 27, 3) := by decide +kernel
theorem dX7_fading_10 : decode cX7_fading 10 = .ok (.iload_n 1, 1) := by decide +kernel
theorem dX7_fading_11 : decode cX7_fading 11 = .ok (.aload_n 0, 1) := by decide +kernel
theorem dX7_fading_12 : decode cX7_fading 12 = .ok (.iload_n 2, 1) := by decide +kernel
theorem dX7_fading_13 : decode cX7_fading 13 = .ok (.invokevirtual 192, 3) := by decide +kernel
theorem dX7_fading_16 : decode cX7_fading 16 = .ok (.ifCond .eq 9, 3) := by decide +kernel
theorem dX7_fading_19 : decode cX7_fading 19 = .ok (.iconst 1, 1) := by decide +kernel
theorem dX7_fading_20 : decode cX7_fading 20 = .ok (.iload_n 2, 1) := by decide +kernel
theorem dX7_fading_21 : decode cX7_fading 21 = .ok (.ishl, 1) := by decide +kernel
theorem dX7_fading_22 : decode cX7_fading 22 = .ok (.goto 4, 3) := by decide +kernel
theorem dX7_fading_25 : decode cX7_fading 25 = .ok (.iconst 0, 1) := by decide +kernel
theorem dX7_fading_26 : decode cX7_fading 26 = .ok (.ior, 1) := by decide +kernel
theorem dX7_fading_27 : decode cX7_fading 27 = .ok (.istore_n 1, 1) := by decide +kernel
theorem dX7_fading_28 : decode cX7_fading 28 = .ok (.iinc 2 1, 3) := by decide +kernel
theorem dX7_fading_31 : decode cX7_fading 31 = .ok (.goto (-27), 3) := by decide +kernel
theorem dX7_fading_34 : decode cX7_fading 34 = .ok (.iload_n 1, 1) := by decide +kernel
theorem dX7_fading_35 : decode cX7_fading 35 = .ok (.ireturn, 1) := by decide +kernel
theorem dX7_playing_0 : decode cX7_playing 0 = .ok (.aload_n 0, 1) := by decide +kernel
theorem dX7_playing_1 : decode cX7_playing 1 = .ok (.iload_n 1, 1) := by decide +kernel
theorem dX7_playing_2 : decode cX7_playing 2 = .ok (.iconst 0, 1) := by decide +kernel
theorem dX7_playing_3 : decode cX7_playing 3 = .ok (.iconst 4, 1) := by decide +kernel
theorem dX7_playing_4 : decode cX7_playing 4 = .ok (.invokestatic 70, 3) := by decide +kernel
theorem dX7_playing_7 : decode cX7_playing 7 = .ok (.ifCond .eq 7, 3) := by decide +kernel
theorem dX7_playing_10 : decode cX7_playing 10 = .ok (.iconst 0, 1) := by decide +kernel
theorem dX7_playing_11 : decode cX7_playing 11 = .ok (.goto 4, 3) := by decide +kernel
theorem dX7_playing_14 : decode cX7_playing 14 = .ok (.iconst 1, 1) := by decide +kernel
theorem dX7_playing_15 : decode cX7_playing 15 = .ok (.putfield 42, 3) := by decide +kernel
theorem dX7_playing_18 : decode cX7_playing 18 = .ok (.aload_n 0, 1) := by decide +kernel
theorem dX7_playing_19 : decode cX7_playing 19 = .ok (.getfield 42, 3) := by decide +kernel
theorem dX7_playing_22 : decode cX7_playing 22 = .ok (.ifCond .le 5, 3) := by decide +kernel
theorem dX7_playing_25 : decode cX7_playing 25 = .ok (.iconst 0, 1) := by decide +kernel
theorem dX7_playing_26 : decode cX7_playing 26 = .ok (.ireturn, 1) := by decide +kernel
theorem dX7_playing_27 : decode cX7_playing 27 = .ok (.iload_n 1, 1) := by decide +kernel
theorem dX7_playing_28 : decode cX7_playing 28 = .ok (.tableswitch 62 0 3 #[32, 39, 46, 57], 32) := by decide +kernel
theorem dX7_playing_60 : decode cX7_playing 60 = .ok (.aload_n 0, 1) := by decide +kernel
theorem dX7_playing_61 : decode cX7_playing 61 = .ok (.getfield 9, 3) := by decide +kernel
theorem dX7_playing_64 : decode cX7_playing 64 = .ok (.iconst 2, 1) := by decide +kernel
theorem dX7_playing_65 : decode cX7_playing 65 = .ok (.iaload, 1) := by decide +kernel
theorem dX7_playing_66 : decode cX7_playing 66 = .ok (.ireturn, 1) := by decide +kernel
theorem dX7_playing_67 : decode cX7_playing 67 = .ok (.aload_n 0, 1) := by decide +kernel
theorem dX7_playing_68 : decode cX7_playing 68 = .ok (.getfield 9, 3) := by decide +kernel
theorem dX7_playing_71 : decode cX7_playing 71 = .ok (.iconst 3, 1) := by decide +kernel
theorem dX7_playing_72 : decode cX7_playing 72 = .ok (.iaload, 1) := by decide +kernel
theorem dX7_playing_73 : decode cX7_playing 73 = .ok (.ireturn, 1) := by decide +kernel
theorem dX7_playing_74 : decode cX7_playing 74 = .ok (.aload_n 0, 1) := by decide +kernel
theorem dX7_playing_75 : decode cX7_playing 75 = .ok (.aload_n 0, 1) := by decide +kernel
theorem dX7_playing_76 : decode cX7_playing 76 = .ok (.getfield 9, 3) := by decide +kernel
theorem dX7_playing_79 : decode cX7_playing 79 = .ok (.iconst 2, 1) := by decide +kernel
theorem dX7_playing_80 : decode cX7_playing 80 = .ok (.iaload, 1) := by decide +kernel
theorem dX7_playing_81 : decode cX7_playing 81 = .ok (.invokevirtual 171, 3) := by decide +kernel
theorem dX7_playing_84 : decode cX7_playing 84 = .ok (.ireturn, 1) := by decide +kernel
theorem dX7_playing_85 : decode cX7_playing 85 = .ok (.aload_n 0, 1) := by decide +kernel
theorem dX7_playing_86 : decode cX7_playing 86 = .ok (.invokevirtual 195, 3) := by decide +kernel
theorem dX7_playing_89 : decode cX7_playing 89 = .ok (.ireturn, 1) := by decide +kernel
theorem dX7_playing_90 : decode cX7_playing 90 = .ok (.aload_n 0, 1) := by decide +kernel
theorem dX7_playing_91 : decode cX7_playing 91 = .ok (.invokevirtual 185, 3) := by decide +kernel
theorem dX7_playing_94 : decode cX7_playing 94 = .ok (.ifCond .eq 37, 3) := by decide +kernel
theorem dX7_playing_97 : decode cX7_playing 97 = .ok (.iconst 1, 1) := by decide +kernel
theorem dX7_playing_98 : decode cX7_playing 98 = .ok (.aload_n 0, 1) := by decide +kernel
theorem dX7_playing_99 : decode cX7_playing 99 = .ok (.getfield 9, 3) := by decide +kernel
theorem dX7_playing_102 : decode cX7_playing 102 = .ok (.aload_n 0, 1) := by decide +kernel
theorem dX7_playing_103 : decode cX7_playing 103 = .ok (.aload_n 0, 1) := by decide +kernel
theorem dX7_playing_104 : decode cX7_playing 104 = .ok (.getfield 9, 3) := by decide +kernel
theorem dX7_playing_107 : decode cX7_playing 107 = .ok (.iconst 2, 1) := by decide +kernel
theorem dX7_playing_108 : decode cX7_playing 108 = .ok (.iaload, 1) := by decide +kernel
theorem dX7_playing_109 : decode cX7_playing 109 = .ok (.invokevirtual 67, 3) := by decide +kernel
theorem dX7_playing_112 : decode cX7_playing 112 = .ok (.invokestatic 63, 3) := by decide +kernel
theorem dX7_playing_115 : decode cX7_playing 115 = .ok (.iconst 1, 1) := by decide +kernel
theorem dX7_playing_116 : decode cX7_playing 116 = .ok (.iadd, 1) := by decide +kernel
theorem dX7_playing_117 : decode cX7_playing 117 = .ok (.iaload, 1) := by decide +kernel
theorem dX7_playing_118 : decode cX7_playing 118 = .ok (.aload_n 0, 1) := by decide +kernel
theorem dX7_playing_119 : decode cX7_playing 119 = .ok (.getfield 9, 3) := by decide +kernel
theorem dX7_playing_122 : decode cX7_playing 122 = .ok (.iconst 3, 1) := by decide +kernel
theorem dX7_playing_123 : decode cX7_playing 123 = .ok (.iaload, 1) := by decide +kernel
theorem dX7_playing_124 : decode cX7_playing 124 = .ok (.isub, 1) := by decide +kernel
theorem dX7_playing_125 : decode cX7_playing 125 = .ok (.invokestatic 117, 3) := by decide +kernel
theorem dX7_playing_128 : decode cX7_playing 128 = .ok (.goto 4, 3) := by decide +kernel
theorem dX7_playing_131 : decode cX7_playing 131 = .ok (.iconst (-1), 1) := by decide +kernel
theorem dX7_playing_132 : decode cX7_playing 132 = .ok (.ireturn, 1) := by decide +kernel
theorem dX7_chain_0 : decode cX7_chain 0 = .ok (.aload_n 0, 1) := by decide +kernel
theorem dX7_chain_1 : decode cX7_chain 1 = .ok (.aload_n 0, 1) := by decide +kernel
theorem dX7_chain_2 : decode cX7_chain 2 = .ok (.iload_n 1, 1) := by decide +kernel
theorem dX7_chain_3 : decode cX7_chain 3 = .ok (.invokevirtual 74, 3) := by decide +kernel
theorem dX7_chain_6 : decode cX7_chain 6 = .ok (.ifCond .eq 7, 3) := by decide +kernel
theorem dX7_chain_9 : decode cX7_chain 9 = .ok (.iconst 0, 1) := by decide +kernel
theorem dX7_chain_10 : decode cX7_chain 10 = .ok (.goto 4, 3) := by decide +kernel
theorem dX7_chain_13 : decode cX7_chain 13 = .ok (.iconst 1, 1) := by decide +kernel
theorem dX7_chain_14 : decode cX7_chain 14 = .ok (.putfield 42, 3) := by decide +kernel
theorem dX7_chain_17 : decode cX7_chain 17 = .ok (.iconst 0, 1) := by decide +kernel
theorem dX7_chain_18 : decode cX7_chain 18 = .ok (.istore_n 2, 1) := by decide +kernel
theorem dX7_chain_19 : decode cX7_chain 19 = .ok (.iload_n 1, 1) := by decide +kernel
theorem dX7_chain_20 : decode cX7_chain 20 = .ok (.istore_n 3, 1) := by decide +kernel
theorem dX7_chain_21 : decode cX7_chain 21 = .ok (.aload_n 0, 1) := by decide +kernel
theorem dX7_chain_22 : decode cX7_chain 22 = .ok (.getfield 42, 3) := by decide +kernel
theorem dX7_chain_25 : decode cX7_chain 25 = .ok (.ifCond .ne 56, 3) := by decide +kernel
theorem dX7_chain_28 : decode cX7_chain 28 = .ok (.aload_n 0, 1) := by decide +kernel
theorem dX7_chain_29 : decode cX7_chain 29 = .ok (.getfield 9, 3) := by decide +kernel
theorem dX7_chain_32 : decode cX7_chain 32 = .ok (.aload_n 0, 1) := by decide +kernel
theorem dX7_chain_33 : decode cX7_chain 33 = .ok (.iload_n 3, 1) := by decide +kernel
theorem dX7_chain_34 : decode cX7_chain 34 = .ok (.invokevirtual 67, 3) := by decide +kernel
theorem dX7_chain_37 : decode cX7_chain 37 = .ok (.invokestatic 63, 3) := by decide +kernel
theorem dX7_chain_40 : decode cX7_chain 40 = .ok (.iconst 1, 1) := by decide +kernel
theorem dX7_chain_41 : decode cX7_chain 41 = .ok (.iadd, 1) := by decide +kernel
theorem dX7_chain_42 : decode cX7_chain 42 = .ok (.iaload, 1) := by decide +kernel
theorem dX7_chain_43 : decode cX7_chain 43 = .ok (.ifCond .le 38, 3) := by decide +kernel
theorem dX7_chain_46 : decode cX7_chain 46 = .ok (.aload_n 0, 1) := by decide +kernel
theorem dX7_chain_47 : decode cX7_chain 47 = .ok (.iload_n 3, 1) := by decide +kernel
theorem dX7_chain_48 : decode cX7_chain 48 = .ok (.invokevirtual 171, 3) := by decide +kernel
theorem dX7_chain_51 : decode cX7_chain 51 = .ok (.ifCond .le 30, 3) := by decide +kernel
theorem dX7_chain_54 : decode cX7_chain 54 = .ok (.iload_n 2, 1) := by decide +kernel
theorem dX7_chain_55 : decode cX7_chain 55 = .ok (.aload_n 0, 1) := by decide +kernel
theorem dX7_chain_56 : decode cX7_chain 56 = .ok (.getfield 9, 3) := by decide +kernel
theorem dX7_chain_59 : decode cX7_chain 59 = .ok (.aload_n 0, 1) := by decide +kernel
theorem dX7_chain_60 : decode cX7_chain 60 = .ok (.iload_n 3, 1) := by decide +kernel
theorem dX7_chain_61 : decode cX7_chain 61 = .ok (.invokevirtual 67, 3) := by decide +kernel
theorem dX7_chain_64 : decode cX7_chain 64 = .ok (.invokestatic 63, 3) := by decide +kernel
theorem dX7_chain_67 : decode cX7_chain 67 = .ok (.iconst 1, 1) := by decide +kernel
theorem dX7_chain_68 : decode cX7_chain 68 = .ok (.iadd, 1) := by decide +kernel
theorem dX7_chain_69 : decode cX7_chain 69 = .ok (.iaload, 1) := by decide +kernel
theorem dX7_chain_70 : decode cX7_chain 70 = .ok (.iadd, 1) := by decide +kernel
theorem dX7_chain_71 : decode cX7_chain 71 = .ok (.istore_n 2, 1) := by decide +kernel
theorem dX7_chain_72 : decode cX7_chain 72 = .ok (.aload_n 0, 1) := by decide +kernel
theorem dX7_chain_73 : decode cX7_chain 73 = .ok (.iload_n 3, 1) := by decide +kernel
theorem dX7_chain_74 : decode cX7_chain 74 = .ok (.invokevirtual 171, 3) := by decide +kernel
theorem dX7_chain_77 : decode cX7_chain 77 = .ok (.istore_n 3, 1) := by decide +kernel
theorem dX7_chain_78 : decode cX7_chain 78 = .ok (.goto (-57), 3) := by decide +kernel
theorem dX7_chain_81 : decode cX7_chain 81 = .ok (.iload_n 2, 1) := by decide +kernel
theorem dX7_chain_82 : decode cX7_chain 82 = .ok (.ireturn, 1) := by decide +kernel
theorem dX7_overChannels_0 : decode cX7_overChannels 0 = .ok (.iconst 0, 1) := by decide +kernel
theorem dX7_overChannels_1 : decode cX7_overChannels 1 = .ok (.istore_n 2, 1) := by decide +kernel
theorem dX7_overChannels_2 : decode cX7_overChannels 2 = .ok (.iconst 0, 1) := by decide +kernel
theorem dX7_overChannels_3 : decode cX7_overChannels 3 = .ok (.istore_n 3, 1) := by decide +kernel
theorem dX7_overChannels_4 : decode cX7_overChannels 4 = .ok (.iload_n 3, 1) := by decide +kernel
theorem dX7_overChannels_5 : decode cX7_overChannels 5 = .ok (.bipush 12, 2) := by decide +kernel
theorem dX7_overChannels_7 : decode cX7_overChannels 7 = .ok (.if_icmp .ge 57, 3) := by decide +kernel
theorem dX7_overChannels_10 : decode cX7_overChannels 10 = .ok (.iload_n 2, 1) := by decide +kernel
theorem dX7_overChannels_11 : decode cX7_overChannels 11 = .ok (.iload_n 1, 1) := by decide +kernel
theorem dX7_overChannels_12 : decode cX7_overChannels 12 = .ok (.iconst 2, 1) := by decide +kernel
theorem dX7_overChannels_13 : decode cX7_overChannels 13 = .ok (.if_icmp .ne 11, 3) := by decide +kernel
theorem dX7_overChannels_16 : decode cX7_overChannels 16 = .ok (.aload_n 0, 1) := by decide +kernel
theorem dX7_overChannels_17 : decode cX7_overChannels 17 = .ok (.iload_n 3, 1) := by decide +kernel
theorem dX7_overChannels_18 : decode cX7_overChannels 18 = .ok (.invokevirtual 165, 3) := by decide +kernel
theorem dX7_overChannels_21 : decode cX7_overChannels 21 = .ok (.goto 35, 3) := by decide +kernel
theorem dX7_overChannels_24 : decode cX7_overChannels 24 = .ok (.iload_n 1, 1) := by decide +kernel
theorem dX7_overChannels_25 : decode cX7_overChannels 25 = .ok (.iconst 3, 1) := by decide +kernel
theorem dX7_overChannels_26 : decode cX7_overChannels 26 = .ok (.if_icmp .ne 17, 3) := by decide +kernel
theorem dX7_overChannels_29 : decode cX7_overChannels 29 = .ok (.aload_n 0, 1) := by decide +kernel
theorem dX7_overChannels_30 : decode cX7_overChannels 30 = .ok (.getfield 9, 3) := by decide +kernel
theorem dX7_overChannels_33 : decode cX7_overChannels 33 = .ok (.iload_n 3, 1) := by decide +kernel
theorem dX7_overChannels_34 : decode cX7_overChannels 34 = .ok (.invokestatic 162, 3) := by decide +kernel
theorem dX7_overChannels_37 : decode cX7_overChannels 37 = .ok (.iconst 1, 1) := by decide +kernel
theorem dX7_overChannels_38 : decode cX7_overChannels 38 = .ok (.iadd, 1) := by decide +kernel
theorem dX7_overChannels_39 : decode cX7_overChannels 39 = .ok (.iaload, 1) := by decide +kernel
theorem dX7_overChannels_40 : decode cX7_overChannels 40 = .ok (.goto 16, 3) := by decide +kernel
theorem dX7_overChannels_43 : decode cX7_overChannels 43 = .ok (.aload_n 0, 1) := by decide +kernel
theorem dX7_overChannels_44 : decode cX7_overChannels 44 = .ok (.iload_n 3, 1) := by decide +kernel
theorem dX7_overChannels_45 : decode cX7_overChannels 45 = .ok (.invokevirtual 192, 3) := by decide +kernel
theorem dX7_overChannels_48 : decode cX7_overChannels 48 = .ok (.ifCond .eq 7, 3) := by decide +kernel
theorem dX7_overChannels_51 : decode cX7_overChannels 51 = .ok (.iconst 1, 1) := by decide +kernel
theorem dX7_overChannels_52 : decode cX7_overChannels 52 = .ok (.goto 4, 3) := by decide +kernel
theorem dX7_overChannels_55 : decode cX7_overChannels 55 = .ok (.iconst 0, 1) := by decide +kernel
theorem dX7_overChannels_56 : decode cX7_overChannels 56 = .ok (.iadd, 1) := by decide +kernel
theorem dX7_overChannels_57 : decode cX7_overChannels 57 = .ok (.istore_n 2, 1) := by decide +kernel
theorem dX7_overChannels_58 : decode cX7_overChannels 58 = .ok (.iinc 3 1, 3) := by decide +kernel
theorem dX7_overChannels_61 : decode cX7_overChannels 61 = .ok (.goto (-57), 3) := by decide +kernel
theorem dX7_overChannels_64 : decode cX7_overChannels 64 = .ok (.iload_n 2, 1) := by decide +kernel
theorem dX7_overChannels_65 : decode cX7_overChannels 65 = .ok (.ireturn, 1) := by decide +kernel
theorem dX7_overCues_0 : decode cX7_overCues 0 = .ok (.iconst 0, 1) := by decide +kernel
theorem dX7_overCues_1 : decode cX7_overCues 1 = .ok (.istore_n 2, 1) := by decide +kernel
theorem dX7_overCues_2 : decode cX7_overCues 2 = .ok (.iconst 0, 1) := by decide +kernel
theorem dX7_overCues_3 : decode cX7_overCues 3 = .ok (.istore_n 3, 1) := by decide +kernel
theorem dX7_overCues_4 : decode cX7_overCues 4 = .ok (.iload_n 3, 1) := by decide +kernel
theorem dX7_overCues_5 : decode cX7_overCues 5 = .ok (.aload_n 0, 1) := by decide +kernel
theorem dX7_overCues_6 : decode cX7_overCues 6 = .ok (.getfield 9, 3) := by decide +kernel
theorem dX7_overCues_9 : decode cX7_overCues 9 = .ok (.iconst 0, 1) := by decide +kernel
theorem dX7_overCues_10 : decode cX7_overCues 10 = .ok (.iaload, 1) := by decide +kernel
theorem dX7_overCues_11 : decode cX7_overCues 11 = .ok (.if_icmp .ge 93, 3) := by decide +kernel
theorem dX7_overCues_14 : decode cX7_overCues 14 = .ok (.iconst 0, 1) := by decide +kernel
theorem dX7_overCues_15 : decode cX7_overCues 15 = .ok (.istore 4, 2) := by decide +kernel
theorem dX7_overCues_17 : decode cX7_overCues 17 = .ok (.iload 4, 2) := by decide +kernel
theorem dX7_overCues_19 : decode cX7_overCues 19 = .ok (.bipush 12, 2) := by decide +kernel
theorem dX7_overCues_21 : decode cX7_overCues 21 = .ok (.if_icmp .ge 33, 3) := by decide +kernel
theorem dX7_overCues_24 : decode cX7_overCues 24 = .ok (.iload_n 1, 1) := by decide +kernel
theorem dX7_overCues_25 : decode cX7_overCues 25 = .ok (.bipush 7, 2) := by decide +kernel
theorem dX7_overCues_27 : decode cX7_overCues 27 = .ok (.if_icmp .ne 27, 3) := by decide +kernel
theorem dX7_overCues_30 : decode cX7_overCues 30 = .ok (.iload_n 2, 1) := by decide +kernel
theorem dX7_overCues_31 : decode cX7_overCues 31 = .ok (.aload_n 0, 1) := by decide +kernel
theorem dX7_overCues_32 : decode cX7_overCues 32 = .ok (.iload_n 3, 1) := by decide +kernel
theorem dX7_overCues_33 : decode cX7_overCues 33 = .ok (.iload 4, 2) := by decide +kernel
theorem dX7_overCues_35 : decode cX7_overCues 35 = .ok (.invokevirtual 110, 3) := by decide +kernel
theorem dX7_overCues_38 : decode cX7_overCues 38 = .ok (.ifCond .eq 7, 3) := by decide +kernel
theorem dX7_overCues_41 : decode cX7_overCues 41 = .ok (.iconst 1, 1) := by decide +kernel
theorem dX7_overCues_42 : decode cX7_overCues 42 = .ok (.goto 4, 3) := by decide +kernel
theorem dX7_overCues_45 : decode cX7_overCues 45 = .ok (.iconst 0, 1) := by decide +kernel
theorem dX7_overCues_46 : decode cX7_overCues 46 = .ok (.iadd, 1) := by decide +kernel
theorem dX7_overCues_47 : decode cX7_overCues 47 = .ok (.istore_n 2, 1) := by decide +kernel
theorem dX7_overCues_48 : decode cX7_overCues 48 = .ok (.iinc 4 1, 3) := by decide +kernel
theorem dX7_overCues_51 : decode cX7_overCues 51 = .ok (.goto (-34), 3) := by decide +kernel
theorem dX7_overCues_54 : decode cX7_overCues 54 = .ok (.iload_n 2, 1) := by decide +kernel
theorem dX7_overCues_55 : decode cX7_overCues 55 = .ok (.iload_n 1, 1) := by decide +kernel
theorem dX7_overCues_56 : decode cX7_overCues 56 = .ok (.bipush 8, 2) := by decide +kernel
theorem dX7_overCues_58 : decode cX7_overCues 58 = .ok (.if_icmp .ne 17, 3) := by decide +kernel
theorem dX7_overCues_61 : decode cX7_overCues 61 = .ok (.aload_n 0, 1) := by decide +kernel
theorem dX7_overCues_62 : decode cX7_overCues 62 = .ok (.getfield 9, 3) := by decide +kernel
theorem dX7_overCues_65 : decode cX7_overCues 65 = .ok (.iload_n 3, 1) := by decide +kernel
theorem dX7_overCues_66 : decode cX7_overCues 66 = .ok (.invokestatic 63, 3) := by decide +kernel
theorem dX7_overCues_69 : decode cX7_overCues 69 = .ok (.iconst 3, 1) := by decide +kernel
theorem dX7_overCues_70 : decode cX7_overCues 70 = .ok (.iadd, 1) := by decide +kernel
theorem dX7_overCues_71 : decode cX7_overCues 71 = .ok (.iaload, 1) := by decide +kernel
theorem dX7_overCues_72 : decode cX7_overCues 72 = .ok (.goto 24, 3) := by decide +kernel
theorem dX7_overCues_75 : decode cX7_overCues 75 = .ok (.iload_n 1, 1) := by decide +kernel
theorem dX7_overCues_76 : decode cX7_overCues 76 = .ok (.bipush 9, 2) := by decide +kernel
theorem dX7_overCues_78 : decode cX7_overCues 78 = .ok (.if_icmp .ne 17, 3) := by decide +kernel
theorem dX7_overCues_81 : decode cX7_overCues 81 = .ok (.aload_n 0, 1) := by decide +kernel
theorem dX7_overCues_82 : decode cX7_overCues 82 = .ok (.getfield 9, 3) := by decide +kernel
theorem dX7_overCues_85 : decode cX7_overCues 85 = .ok (.iload_n 3, 1) := by decide +kernel
theorem dX7_overCues_86 : decode cX7_overCues 86 = .ok (.invokestatic 63, 3) := by decide +kernel
theorem dX7_overCues_89 : decode cX7_overCues 89 = .ok (.iconst 2, 1) := by decide +kernel
theorem dX7_overCues_90 : decode cX7_overCues 90 = .ok (.iadd, 1) := by decide +kernel
theorem dX7_overCues_91 : decode cX7_overCues 91 = .ok (.iaload, 1) := by decide +kernel
theorem dX7_overCues_92 : decode cX7_overCues 92 = .ok (.goto 4, 3) := by decide +kernel
theorem dX7_overCues_95 : decode cX7_overCues 95 = .ok (.iconst 0, 1) := by decide +kernel
theorem dX7_overCues_96 : decode cX7_overCues 96 = .ok (.iadd, 1) := by decide +kernel
theorem dX7_overCues_97 : decode cX7_overCues 97 = .ok (.istore_n 2, 1) := by decide +kernel
theorem dX7_overCues_98 : decode cX7_overCues 98 = .ok (.iinc 3 1, 3) := by decide +kernel
theorem dX7_overCues_101 : decode cX7_overCues 101 = .ok (.goto (-97), 3) := by decide +kernel
theorem dX7_overCues_104 : decode cX7_overCues 104 = .ok (.iload_n 2, 1) := by decide +kernel
theorem dX7_overCues_105 : decode cX7_overCues 105 = .ok (.ireturn, 1) := by decide +kernel
theorem dX7_account_0 : decode cX7_account 0 = .ok (.aload_n 0, 1) := by decide +kernel
theorem dX7_account_1 : decode cX7_account 1 = .ok (.iload_n 1, 1) := by decide +kernel
theorem dX7_account_2 : decode cX7_account 2 = .ok (.iconst 0, 1) := by decide +kernel
theorem dX7_account_3 : decode cX7_account 3 = .ok (.bipush 10, 2) := by decide +kernel
theorem dX7_account_5 : decode cX7_account 5 = .ok (.invokestatic 70, 3) := by decide +kernel
theorem dX7_account_8 : decode cX7_account 8 = .ok (.ifCond .eq 7, 3) := by decide +kernel
theorem dX7_account_11 : decode cX7_account 11 = .ok (.iconst 0, 1) := by decide +kernel
theorem dX7_account_12 : decode cX7_account 12 = .ok (.goto 4, 3) := by decide +kernel
theorem dX7_account_15 : decode cX7_account 15 = .ok (.iconst 1, 1) := by decide +kernel
theorem dX7_account_16 : decode cX7_account 16 = .ok (.putfield 42, 3) := by decide +kernel
theorem dX7_account_19 : decode cX7_account 19 = .ok (.aload_n 0, 1) := by decide +kernel
theorem dX7_account_20 : decode cX7_account 20 = .ok (.getfield 42, 3) := by decide +kernel
theorem dX7_account_23 : decode cX7_account 23 = .ok (.ifCond .le 5, 3) := by decide +kernel
theorem dX7_account_26 : decode cX7_account 26 = .ok (.iconst 0, 1) := by decide +kernel
theorem dX7_account_27 : decode cX7_account 27 = .ok (.ireturn, 1) := by decide +kernel
theorem dX7_account_28 : decode cX7_account 28 = .ok (.iload_n 1, 1) := by decide +kernel
theorem dX7_account_29 : decode cX7_account 29 = .ok (.tableswitch 141 0 10 #[59, 66, 73, 73, 73, 79, 86, 141, 141, 141, 93], 59) := by decide +kernel
theorem dX7_account_88 : decode cX7_account 88 = .ok (.aload_n 0, 1) := by decide +kernel
theorem dX7_account_89 : decode cX7_account 89 = .ok (.getfield 9, 3) := by decide +kernel
theorem dX7_account_92 : decode cX7_account 92 = .ok (.iconst 0, 1) := by decide +kernel
theorem dX7_account_93 : decode cX7_account 93 = .ok (.iaload, 1) := by decide +kernel
theorem dX7_account_94 : decode cX7_account 94 = .ok (.ireturn, 1) := by decide +kernel
theorem dX7_account_95 : decode cX7_account 95 = .ok (.aload_n 0, 1) := by decide +kernel
theorem dX7_account_96 : decode cX7_account 96 = .ok (.getfield 9, 3) := by decide +kernel
theorem dX7_account_99 : decode cX7_account 99 = .ok (.iconst 1, 1) := by decide +kernel
theorem dX7_account_100 : decode cX7_account 100 = .ok (.iaload, 1) := by decide +kernel
theorem dX7_account_101 : decode cX7_account 101 = .ok (.ireturn, 1) := by decide +kernel
theorem dX7_account_102 : decode cX7_account 102 = .ok (.aload_n 0, 1) := by decide +kernel
theorem dX7_account_103 : decode cX7_account 103 = .ok (.iload_n 1, 1) := by decide +kernel
theorem dX7_account_104 : decode cX7_account 104 = .ok (.invokevirtual 199, 3) := by decide +kernel
theorem dX7_account_107 : decode cX7_account 107 = .ok (.ireturn, 1) := by decide +kernel
theorem dX7_account_108 : decode cX7_account 108 = .ok (.aload_n 0, 1) := by decide +kernel
theorem dX7_account_109 : decode cX7_account 109 = .ok (.getfield 9, 3) := by decide +kernel
theorem dX7_account_112 : decode cX7_account 112 = .ok (.iconst 4, 1) := by decide +kernel
theorem dX7_account_113 : decode cX7_account 113 = .ok (.iaload, 1) := by decide +kernel
theorem dX7_account_114 : decode cX7_account 114 = .ok (.ireturn, 1) := by decide +kernel
theorem dX7_account_115 : decode cX7_account 115 = .ok (.aload_n 0, 1) := by decide +kernel
theorem dX7_account_116 : decode cX7_account 116 = .ok (.getfield 9, 3) := by decide +kernel
theorem dX7_account_119 : decode cX7_account 119 = .ok (.iconst 5, 1) := by decide +kernel
theorem dX7_account_120 : decode cX7_account 120 = .ok (.iaload, 1) := by decide +kernel
theorem dX7_account_121 : decode cX7_account 121 = .ok (.ireturn, 1) := by decide +kernel
theorem dX7_account_122 : decode cX7_account 122 = .ok (.iconst 0, 1) := by decide +kernel
theorem dX7_account_123 : decode cX7_account 123 = .ok (.istore_n 2, 1) := by decide +kernel
theorem dX7_account_124 : decode cX7_account 124 = .ok (.iconst 0, 1) := by decide +kernel
theorem dX7_account_125 : decode cX7_account 125 = .ok (.istore_n 3, 1) := by decide +kernel
theorem dX7_account_126 : decode cX7_account 126 = .ok (.iload_n 3, 1) := by decide +kernel
theorem dX7_account_127 : decode cX7_account 127 = .ok (.aload_n 0, 1) := by decide +kernel
theorem dX7_account_128 : decode cX7_account 128 = .ok (.getfield 9, 3) := by decide +kernel
theorem dX7_account_131 : decode cX7_account 131 = .ok (.iconst 1, 1) := by decide +kernel
theorem dX7_account_132 : decode cX7_account 132 = .ok (.iaload, 1) := by decide +kernel
theorem dX7_account_133 : decode cX7_account 133 = .ok (.if_icmp .ge 35, 3) := by decide +kernel
theorem dX7_account_136 : decode cX7_account 136 = .ok (.iload_n 2, 1) := by decide +kernel
theorem dX7_account_137 : decode cX7_account 137 = .ok (.aload_n 0, 1) := by decide +kernel
theorem dX7_account_138 : decode cX7_account 138 = .ok (.getfield 9, 3) := by decide +kernel
theorem dX7_account_141 : decode cX7_account 141 = .ok (.sipush 162, 3) := by decide +kernel
theorem dX7_account_144 : decode cX7_account 144 = .ok (.iconst 4, 1) := by decide +kernel
theorem dX7_account_145 : decode cX7_account 145 = .ok (.iload_n 3, 1) := by decide +kernel
theorem dX7_account_146 : decode cX7_account 146 = .ok (.imul, 1) := by decide +kernel
theorem dX7_account_147 : decode cX7_account 147 = .ok (.iadd, 1) := by decide +kernel
theorem dX7_account_148 : decode cX7_account 148 = .ok (.iconst 2, 1) := by decide +kernel
theorem dX7_account_149 : decode cX7_account 149 = .ok (.iadd, 1) := by decide +kernel
theorem dX7_account_150 : decode cX7_account 150 = .ok (.iaload, 1) := by decide +kernel
theorem dX7_account_151 : decode cX7_account 151 = .ok (.iconst (-1), 1) := by decide +kernel
theorem dX7_account_152 : decode cX7_account 152 = .ok (.if_icmp .ne 7, 3) := by decide +kernel
theorem dX7_account_155 : decode cX7_account 155 = .ok (.iconst 1, 1) := by decide +kernel
theorem dX7_account_156 : decode cX7_account 156 = .ok (.goto 4, 3) := by decide +kernel
theorem dX7_account_159 : decode cX7_account 159 = .ok (.iconst 0, 1) := by decide +kernel
theorem dX7_account_160 : decode cX7_account 160 = .ok (.iadd, 1) := by decide +kernel
theorem dX7_account_161 : decode cX7_account 161 = .ok (.istore_n 2, 1) := by decide +kernel
theorem dX7_account_162 : decode cX7_account 162 = .ok (.iinc 3 1, 3) := by decide +kernel
theorem dX7_account_165 : decode cX7_account 165 = .ok (.goto (-39), 3) := by decide +kernel
theorem dX7_account_168 : decode cX7_account 168 = .ok (.iload_n 2, 1) := by decide +kernel
theorem dX7_account_169 : decode cX7_account 169 = .ok (.ireturn, 1) := by decide +kernel
theorem dX7_account_170 : decode cX7_account 170 = .ok (.aload_n 0, 1) := by decide +kernel
theorem dX7_account_171 : decode cX7_account 171 = .ok (.iload_n 1, 1) := by decide +kernel
theorem dX7_account_172 : decode cX7_account 172 = .ok (.invokevirtual 202, 3) := by decide +kernel
theorem dX7_account_175 : decode cX7_account 175 = .ok (.ireturn, 1) := by decide +kernel
theorem dX7_meanLevel_0 : decode cX7_meanLevel 0 = .ok (.aload_n 0, 1) := by decide +kernel
theorem dX7_meanLevel_1 : decode cX7_meanLevel 1 = .ok (.iconst 0, 1) := by decide +kernel
theorem dX7_meanLevel_2 : decode cX7_meanLevel 2 = .ok (.putfield 42, 3) := by decide +kernel
theorem dX7_meanLevel_5 : decode cX7_meanLevel 5 = .ok (.aload_n 0, 1) := by decide +kernel
theorem dX7_meanLevel_6 : decode cX7_meanLevel 6 = .ok (.iconst 2, 1) := by decide +kernel
theorem dX7_meanLevel_7 : decode cX7_meanLevel 7 = .ok (.invokevirtual 199, 3) := by decide +kernel
theorem dX7_meanLevel_10 : decode cX7_meanLevel 10 = .ok (.i2d, 1) := by decide +kernel
theorem dX7_meanLevel_11 : decode cX7_meanLevel 11 = .ok (.ldc2_w 205, 3) := by decide +kernel
theorem dX7_meanLevel_14 : decode cX7_meanLevel 14 = .ok (.ddiv, 1) := by decide +kernel
theorem dX7_meanLevel_15 : decode cX7_meanLevel 15 = .ok (.dreturn, 1) := by decide +kernel
theorem dX7_append_0 : decode cX7_append 0 = .ok (.aload_n 0, 1) := by decide +kernel
theorem dX7_append_1 : decode cX7_append 1 = .ok (.iload_n 1, 1) := by decide +kernel
theorem dX7_append_2 : decode cX7_append 2 = .ok (.bipush 32, 2) := by decide +kernel
theorem dX7_append_4 : decode cX7_append 4 = .ok (.bipush 126, 2) := by decide +kernel
theorem dX7_append_6 : decode cX7_append 6 = .ok (.invokestatic 70, 3) := by decide +kernel
theorem dX7_append_9 : decode cX7_append 9 = .ok (.ifCond .ne 7, 3) := by decide +kernel
theorem dX7_append_12 : decode cX7_append 12 = .ok (.iconst 1, 1) := by decide +kernel
theorem dX7_append_13 : decode cX7_append 13 = .ok (.goto 17, 3) := by decide +kernel
theorem dX7_append_16 : decode cX7_append 16 = .ok (.aload_n 0, 1) := by decide +kernel
theorem dX7_append_17 : decode cX7_append 17 = .ok (.getfield 207, 3) := by decide +kernel
theorem dX7_append_20 : decode cX7_append 20 = .ok (.bipush 60, 2) := by decide +kernel
theorem dX7_append_22 : decode cX7_append 22 = .ok (.if_icmp .ne 7, 3) := by decide +kernel
theorem dX7_append_25 : decode cX7_append 25 = .ok (.iconst 2, 1) := by decide +kernel
theorem dX7_append_26 : decode cX7_append 26 = .ok (.goto 4, 3) := by decide +kernel
theorem dX7_append_29 : decode cX7_append 29 = .ok (.iconst 0, 1) := by decide +kernel
theorem dX7_append_30 : decode cX7_append 30 = .ok (.putfield 42, 3) := by decide +kernel
theorem dX7_append_33 : decode cX7_append 33 = .ok (.aload_n 0, 1) := by decide +kernel
theorem dX7_append_34 : decode cX7_append 34 = .ok (.getfield 42, 3) := by decide +kernel
theorem dX7_append_37 : decode cX7_append 37 = .ok (.ifCond .le 5, 3) := by decide +kernel
theorem dX7_append_40 : decode cX7_append 40 = .ok (.iconst 0, 1) := by decide +kernel
theorem dX7_append_41 : decode cX7_append 41 = .ok (.ireturn, 1) := by decide +kernel
theorem dX7_append_42 : decode cX7_append 42 = .ok (.aload_n 0, 1) := by decide +kernel
theorem dX7_append_43 : decode cX7_append 43 = .ok (.getfield 25, 3) := by decide +kernel
theorem dX7_append_46 : decode cX7_append 46 = .ok (.aload_n 0, 1) := by decide +kernel
theorem dX7_append_47 : decode cX7_append 47 = .ok (.getfield 207, 3) := by decide +kernel
theorem dX7_append_50 : decode cX7_append 50 = .ok (.iload_n 1, 1) := by decide +kernel
theorem dX7_append_51 : decode cX7_append 51 = .ok (.castore, 1) := by decide +kernel
theorem dX7_append_52 : decode cX7_append 52 = .ok (.aload_n 0, 1) := by decide +kernel
theorem dX7_append_53 : decode cX7_append 53 = .ok (.dup, 1) := by decide +kernel
theorem dX7_append_54 : decode cX7_append 54 = .ok (.getfield 207, 3) := by decide +kernel
theorem dX7_append_57 : decode cX7_append 57 = .ok (.iconst 1, 1) := by decide +kernel
theorem dX7_append_58 : decode cX7_append 58 = .ok (.iadd, 1) := by decide +kernel
theorem dX7_append_59 : decode cX7_append 59 = .ok (.putfield 207, 3) := by decide +kernel
theorem dX7_append_62 : decode cX7_append 62 = .ok (.aload_n 0, 1) := by decide +kernel
theorem dX7_append_63 : decode cX7_append 63 = .ok (.getfield 207, 3) := by decide +kernel
theorem dX7_append_66 : decode cX7_append 66 = .ok (.ireturn, 1) := by decide +kernel
theorem dX7_isHere_0 : decode cX7_isHere 0 = .ok (.aload_n 0, 1) := by decide +kernel
theorem dX7_isHere_1 : decode cX7_isHere 1 = .ok (.getfield 210, 3) := by decide +kernel
theorem dX7_isHere_4 : decode cX7_isHere 4 = .ok (.ifCond .ne 35, 3) := by decide +kernel
theorem dX7_isHere_7 : decode cX7_isHere 7 = .ok (.aload_n 0, 1) := by decide +kernel
theorem dX7_isHere_8 : decode cX7_isHere 8 = .ok (.getfield 214, 3) := by decide +kernel
theorem dX7_isHere_11 : decode cX7_isHere 11 = .ok (.aload_n 0, 1) := by decide +kernel
theorem dX7_isHere_12 : decode cX7_isHere 12 = .ok (.getfield 207, 3) := by decide +kernel
theorem dX7_isHere_15 : decode cX7_isHere 15 = .ok (.if_icmp .ge 24, 3) := by decide +kernel
theorem dX7_isHere_18 : decode cX7_isHere 18 = .ok (.aload_n 0, 1) := by decide +kernel
theorem dX7_isHere_19 : decode cX7_isHere 19 = .ok (.getfield 25, 3) := by decide +kernel
theorem dX7_isHere_22 : decode cX7_isHere 22 = .ok (.aload_n 0, 1) := by decide +kernel
theorem dX7_isHere_23 : decode cX7_isHere 23 = .ok (.getfield 214, 3) := by decide +kernel
theorem dX7_isHere_26 : decode cX7_isHere 26 = .ok (.caload, 1) := by decide +kernel
theorem dX7_isHere_27 : decode cX7_isHere 27 = .ok (.iload_n 1, 1) := by decide +kernel
theorem dX7_isHere_28 : decode cX7_isHere 28 = .ok (.iload_n 2, 1) := by decide +kernel
theorem dX7_isHere_29 : decode cX7_isHere 29 = .ok (.invokestatic 70, 3) := by decide +kernel
theorem dX7_isHere_32 : decode cX7_isHere 32 = .ok (.ifCond .eq 7, 3) := by decide +kernel
theorem dX7_isHere_35 : decode cX7_isHere 35 = .ok (.iconst 1, 1) := by decide +kernel
theorem dX7_isHere_36 : decode cX7_isHere 36 = .ok (.goto 4, 3) := by decide +kernel
theorem dX7_isHere_39 : decode cX7_isHere 39 = .ok (.iconst 0, 1) := by decide +kernel
theorem dX7_isHere_40 : decode cX7_isHere 40 = .ok (.ireturn, 1) := by decide +kernel
theorem dX7_sign_0 : decode cX7_sign 0 = .ok (.aload_n 0, 1) := by decide +kernel
theorem dX7_sign_1 : decode cX7_sign 1 = .ok (.aload_n 0, 1) := by decide +kernel
theorem dX7_sign_2 : decode cX7_sign 2 = .ok (.iload_n 1, 1) := by decide +kernel
theorem dX7_sign_3 : decode cX7_sign 3 = .ok (.iload_n 1, 1) := by decide +kernel
theorem dX7_sign_4 : decode cX7_sign 4 = .ok (.invokevirtual 217, 3) := by decide +kernel
theorem dX7_sign_7 : decode cX7_sign 7 = .ok (.ifCond .ne 7, 3) := by decide +kernel
theorem dX7_sign_10 : decode cX7_sign 10 = .ok (.iconst 1, 1) := by decide +kernel
theorem dX7_sign_11 : decode cX7_sign 11 = .ok (.goto 4, 3) := by decide +kernel
theorem dX7_sign_14 : decode cX7_sign 14 = .ok (.iconst 0, 1) := by decide +kernel
theorem dX7_sign_15 : decode cX7_sign 15 = .ok (.putfield 210, 3) := by decide +kernel
theorem dX7_sign_18 : decode cX7_sign 18 = .ok (.aload_n 0, 1) := by decide +kernel
theorem dX7_sign_19 : decode cX7_sign 19 = .ok (.dup, 1) := by decide +kernel
theorem dX7_sign_20 : decode cX7_sign 20 = .ok (.getfield 214, 3) := by decide +kernel
theorem dX7_sign_23 : decode cX7_sign 23 = .ok (.aload_n 0, 1) := by decide +kernel
theorem dX7_sign_24 : decode cX7_sign 24 = .ok (.getfield 210, 3) := by decide +kernel
theorem dX7_sign_27 : decode cX7_sign 27 = .ok (.ifCond .eq 7, 3) := by decide +kernel
theorem dX7_sign_30 : decode cX7_sign 30 = .ok (.iconst 0, 1) := by decide +kernel
theorem dX7_sign_31 : decode cX7_sign 31 = .ok (.goto 4, 3) := by decide +kernel
theorem dX7_sign_34 : decode cX7_sign 34 = .ok (.iconst 1, 1) := by decide +kernel
theorem dX7_sign_35 : decode cX7_sign 35 = .ok (.iadd, 1) := by decide +kernel
theorem dX7_sign_36 : decode cX7_sign 36 = .ok (.putfield 214, 3) := by decide +kernel
theorem dX7_sign_39 : decode cX7_sign 39 = .ok (.return_, 1) := by decide +kernel
theorem dX7_number_0 : decode cX7_number 0 = .ok (.aload_n 0, 1) := by decide +kernel
theorem dX7_number_1 : decode cX7_number 1 = .ok (.aload_n 0, 1) := by decide +kernel
theorem dX7_number_2 : decode cX7_number 2 = .ok (.bipush 48, 2) := by decide +kernel
theorem dX7_number_4 : decode cX7_number 4 = .ok (.bipush 57, 2) := by decide +kernel
theorem dX7_number_6 : decode cX7_number 6 = .ok (.invokevirtual 217, 3) := by decide +kernel
theorem dX7_number_9 : decode cX7_number 9 = .ok (.ifCond .ne 7, 3) := by decide +kernel
theorem dX7_number_12 : decode cX7_number 12 = .ok (.iconst 1, 1) := by decide +kernel
theorem dX7_number_13 : decode cX7_number 13 = .ok (.goto 4, 3) := by decide +kernel
theorem dX7_number_16 : decode cX7_number 16 = .ok (.iconst 0, 1) := by decide +kernel
theorem dX7_number_17 : decode cX7_number 17 = .ok (.putfield 210, 3) := by decide +kernel
theorem dX7_number_20 : decode cX7_number 20 = .ok (.iconst 0, 1) := by decide +kernel
theorem dX7_number_21 : decode cX7_number 21 = .ok (.istore_n 2, 1) := by decide +kernel
theorem dX7_number_22 : decode cX7_number 22 = .ok (.iconst 0, 1) := by decide +kernel
theorem dX7_number_23 : decode cX7_number 23 = .ok (.istore_n 3, 1) := by decide +kernel
theorem dX7_number_24 : decode cX7_number 24 = .ok (.iload_n 3, 1) := by decide +kernel
theorem dX7_number_25 : decode cX7_number 25 = .ok (.iload_n 1, 1) := by decide +kernel
theorem dX7_number_26 : decode cX7_number 26 = .ok (.if_icmp .ge 48, 3) := by decide +kernel
theorem dX7_number_29 : decode cX7_number 29 = .ok (.aload_n 0, 1) := by decide +kernel
theorem dX7_number_30 : decode cX7_number 30 = .ok (.bipush 48, 2) := by decide +kernel
theorem dX7_number_32 : decode cX7_number 32 = .ok (.bipush 57, 2) := by decide +kernel
theorem dX7_number_34 : decode cX7_number 34 = .ok (.invokevirtual 217, 3) := by decide +kernel
theorem dX7_number_37 : decode cX7_number 37 = .ok (.ifCond .eq 37, 3) := by decide +kernel
theorem dX7_number_40 : decode cX7_number 40 = .ok (.bipush 10, 2) := by decide +kernel
theorem dX7_number_42 : decode cX7_number 42 = .ok (.iload_n 2, 1) := by decide +kernel
theorem dX7_number_43 : decode cX7_number 43 = .ok (.imul, 1) := by decide +kernel
theorem dX7_number_44 : decode cX7_number 44 = .ok (.aload_n 0, 1) := by decide +kernel
theorem dX7_number_45 : decode cX7_number 45 = .ok (.getfield 25, 3) := by decide +kernel
theorem dX7_number_48 : decode cX7_number 48 = .ok (.aload_n 0, 1) := by decide +kernel
theorem dX7_number_49 : decode cX7_number 49 = .ok (.getfield 214, 3) := by decide +kernel
theorem dX7_number_52 : decode cX7_number 52 = .ok (.caload, 1) := by decide +kernel
theorem dX7_number_53 : decode cX7_number 53 = .ok (.iadd, 1) := by decide +kernel
theorem dX7_number_54 : decode cX7_number 54 = .ok (.bipush 48, 2) := by decide +kernel
theorem dX7_number_56 : decode cX7_number 56 = .ok (.isub, 1) := by decide +kernel
theorem dX7_number_57 : decode cX7_number 57 = .ok (.istore_n 2, 1) := by decide +kernel
theorem dX7_number_58 : decode cX7_number 58 = .ok (.aload_n 0, 1) := by decide +kernel
theorem dX7_number_59 : decode cX7_number 59 = .ok (.dup, 1) := by decide +kernel
theorem dX7_number_60 : decode cX7_number 60 = .ok (.getfield 214, 3) := by decide +kernel
theorem dX7_number_63 : decode cX7_number 63 = .ok (.iconst 1, 1) := by decide +kernel
theorem dX7_number_64 : decode cX7_number 64 = .ok (.iadd, 1) := by decide +kernel
theorem dX7_number_65 : decode cX7_number 65 = .ok (.putfield 214, 3) := by decide +kernel
theorem dX7_number_68 : decode cX7_number 68 = .ok (.iinc 3 1, 3) := by decide +kernel
theorem dX7_number_71 : decode cX7_number 71 = .ok (.goto (-47), 3) := by decide +kernel
theorem dX7_number_74 : decode cX7_number 74 = .ok (.iload_n 2, 1) := by decide +kernel
theorem dX7_number_75 : decode cX7_number 75 = .ok (.ireturn, 1) := by decide +kernel
theorem dX7_behind_0 : decode cX7_behind 0 = .ok (.aload_n 0, 1) := by decide +kernel
theorem dX7_behind_1 : decode cX7_behind 1 = .ok (.iload_n 1, 1) := by decide +kernel
theorem dX7_behind_2 : decode cX7_behind 2 = .ok (.invokevirtual 221, 3) := by decide +kernel
theorem dX7_behind_5 : decode cX7_behind 5 = .ok (.aload_n 0, 1) := by decide +kernel
theorem dX7_behind_6 : decode cX7_behind 6 = .ok (.iload_n 2, 1) := by decide +kernel
theorem dX7_behind_7 : decode cX7_behind 7 = .ok (.invokevirtual 225, 3) := by decide +kernel
theorem dX7_behind_10 : decode cX7_behind 10 = .ok (.ireturn, 1) := by decide +kernel
theorem dX7_readEntry_0 : decode cX7_readEntry 0 = .ok (.iconst 3, 1) := by decide +kernel
theorem dX7_readEntry_1 : decode cX7_readEntry 1 = .ok (.aload_n 0, 1) := by decide +kernel
theorem dX7_readEntry_2 : decode cX7_readEntry 2 = .ok (.getfield 228, 3) := by decide +kernel
theorem dX7_readEntry_5 : decode cX7_readEntry 5 = .ok (.imul, 1) := by decide +kernel
theorem dX7_readEntry_6 : decode cX7_readEntry 6 = .ok (.istore_n 1, 1) := by decide +kernel
theorem dX7_readEntry_7 : decode cX7_readEntry 7 = .ok (.aload_n 0, 1) := by decide +kernel
theorem dX7_readEntry_8 : decode cX7_readEntry 8 = .ok (.getfield 214, 3) := by decide +kernel
theorem dX7_readEntry_11 : decode cX7_readEntry 11 = .ok (.aload_n 0, 1) := by decide +kernel
theorem dX7_readEntry_12 : decode cX7_readEntry 12 = .ok (.getfield 207, 3) := by decide +kernel
theorem dX7_readEntry_15 : decode cX7_readEntry 15 = .ok (.if_icmp .ge 15, 3) := by decide +kernel
theorem dX7_readEntry_18 : decode cX7_readEntry 18 = .ok (.aload_n 0, 1) := by decide +kernel
theorem dX7_readEntry_19 : decode cX7_readEntry 19 = .ok (.getfield 25, 3) := by decide +kernel
theorem dX7_readEntry_22 : decode cX7_readEntry 22 = .ok (.aload_n 0, 1) := by decide +kernel
theorem dX7_readEntry_23 : decode cX7_readEntry 23 = .ok (.getfield 214, 3) := by decide +kernel
theorem dX7_readEntry_26 : decode cX7_readEntry 26 = .ok (.caload, 1) := by decide +kernel
theorem dX7_readEntry_27 : decode cX7_readEntry 27 = .ok (.goto 5, 3) := by decide +kernel
theorem dX7_readEntry_30 : decode cX7_readEntry 30 = .ok (.bipush 32, 2) := by decide +kernel
theorem dX7_readEntry_32 : decode cX7_readEntry 32 = .ok (.istore_n 2, 1) := by decide +kernel
theorem dX7_readEntry_33 : decode cX7_readEntry 33 = .ok (.aload_n 0, 1) := by decide +kernel
theorem dX7_readEntry_34 : decode cX7_readEntry 34 = .ok (.getfield 33, 3) := by decide +kernel
theorem dX7_readEntry_37 : decode cX7_readEntry 37 = .ok (.aload_n 0, 1) := by decide +kernel
theorem dX7_readEntry_38 : decode cX7_readEntry 38 = .ok (.getfield 228, 3) := by decide +kernel
theorem dX7_readEntry_41 : decode cX7_readEntry 41 = .ok (.iload_n 2, 1) := by decide +kernel
theorem dX7_readEntry_42 : decode cX7_readEntry 42 = .ok (.castore, 1) := by decide +kernel
theorem dX7_readEntry_43 : decode cX7_readEntry 43 = .ok (.aload_n 0, 1) := by decide +kernel
theorem dX7_readEntry_44 : decode cX7_readEntry 44 = .ok (.ldc 231, 2) := by decide +kernel
theorem dX7_readEntry_46 : decode cX7_readEntry 46 = .ok (.iload_n 2, 1) := by decide +kernel
theorem dX7_readEntry_47 : decode cX7_readEntry 47 = .ok (.invokevirtual 233, 3) := by decide +kernel
theorem dX7_readEntry_50 : decode cX7_readEntry 50 = .ok (.ifCond .ge 7, 3) := by decide +kernel
theorem dX7_readEntry_53 : decode cX7_readEntry 53 = .ok (.iconst 1, 1) := by decide +kernel
theorem dX7_readEntry_54 : decode cX7_readEntry 54 = .ok (.goto 4, 3) := by decide +kernel
theorem dX7_readEntry_57 : decode cX7_readEntry 57 = .ok (.iconst 0, 1) := by decide +kernel
theorem dX7_readEntry_58 : decode cX7_readEntry 58 = .ok (.putfield 210, 3) := by decide +kernel
theorem dX7_readEntry_61 : decode cX7_readEntry 61 = .ok (.aload_n 0, 1) := by decide +kernel
theorem dX7_readEntry_62 : decode cX7_readEntry 62 = .ok (.dup, 1) := by decide +kernel
theorem dX7_readEntry_63 : decode cX7_readEntry 63 = .ok (.getfield 214, 3) := by decide +kernel
theorem dX7_readEntry_66 : decode cX7_readEntry 66 = .ok (.aload_n 0, 1) := by decide +kernel
theorem dX7_readEntry_67 : decode cX7_readEntry 67 = .ok (.getfield 210, 3) := by decide +kernel
theorem dX7_readEntry_70 : decode cX7_readEntry 70 = .ok (.ifCond .eq 7, 3) := by decide +kernel
theorem dX7_readEntry_73 : decode cX7_readEntry 73 = .ok (.iconst 0, 1) := by decide +kernel
theorem dX7_readEntry_74 : decode cX7_readEntry 74 = .ok (.goto 4, 3) := by decide +kernel
theorem dX7_readEntry_77 : decode cX7_readEntry 77 = .ok (.iconst 1, 1) := by decide +kernel
theorem dX7_readEntry_78 : decode cX7_readEntry 78 = .ok (.iadd, 1) := by decide +kernel
theorem dX7_readEntry_79 : decode cX7_readEntry 79 = .ok (.putfield 214, 3) := by decide +kernel
theorem dX7_readEntry_82 : decode cX7_readEntry 82 = .ok (.aload_n 0, 1) := by decide +kernel
theorem dX7_readEntry_83 : decode cX7_readEntry 83 = .ok (.getfield 210, 3) := by decide +kernel
theorem dX7_readEntry_86 : decode cX7_readEntry 86 = .ok (.ifCond .ne 30, 3) := by decide +kernel
theorem dX7_readEntry_89 : decode cX7_readEntry 89 = .ok (.iload_n 2, 1) := by decide +kernel
theorem dX7_readEntry_90 : decode cX7_readEntry 90 = .ok (.bipush 103, 2) := by decide +kernel
theorem dX7_readEntry_92 : decode cX7_readEntry 92 = .ok (.if_icmp .eq 24, 3) := by decide +kernel
theorem dX7_readEntry_95 : decode cX7_readEntry 95 = .ok (.aload_n 0, 1) := by decide +kernel
theorem dX7_readEntry_96 : decode cX7_readEntry 96 = .ok (.getfield 36, 3) := by decide +kernel
theorem dX7_readEntry_99 : decode cX7_readEntry 99 = .ok (.iload_n 1, 1) := by decide +kernel
theorem dX7_readEntry_100 : decode cX7_readEntry 100 = .ok (.aload_n 0, 1) := by decide +kernel
theorem dX7_readEntry_101 : decode cX7_readEntry 101 = .ok (.iload_n 2, 1) := by decide +kernel
theorem dX7_readEntry_102 : decode cX7_readEntry 102 = .ok (.bipush 116, 2) := by decide +kernel
theorem dX7_readEntry_104 : decode cX7_readEntry 104 = .ok (.if_icmp .ne 7, 3) := by decide +kernel
theorem dX7_readEntry_107 : decode cX7_readEntry 107 = .ok (.iconst 4, 1) := by decide +kernel
theorem dX7_readEntry_108 : decode cX7_readEntry 108 = .ok (.goto 4, 3) := by decide +kernel
theorem dX7_readEntry_111 : decode cX7_readEntry 111 = .ok (.iconst 2, 1) := by decide +kernel
theorem dX7_readEntry_112 : decode cX7_readEntry 112 = .ok (.invokevirtual 225, 3) := by decide +kernel
theorem dX7_readEntry_115 : decode cX7_readEntry 115 = .ok (.iastore, 1) := by decide +kernel
theorem dX7_readEntry_116 : decode cX7_readEntry 116 = .ok (.iload_n 2, 1) := by decide +kernel
theorem dX7_readEntry_117 : decode cX7_readEntry 117 = .ok (.bipush 115, 2) := by decide +kernel
theorem dX7_readEntry_119 : decode cX7_readEntry 119 = .ok (.if_icmp .eq 9, 3) := by decide +kernel
theorem dX7_readEntry_122 : decode cX7_readEntry 122 = .ok (.iload_n 2, 1) := by decide +kernel
theorem dX7_readEntry_123 : decode cX7_readEntry 123 = .ok (.bipush 114, 2) := by decide +kernel
theorem dX7_readEntry_125 : decode cX7_readEntry 125 = .ok (.if_icmp .ne 18, 3) := by decide +kernel
theorem dX7_readEntry_128 : decode cX7_readEntry 128 = .ok (.aload_n 0, 1) := by decide +kernel
theorem dX7_readEntry_129 : decode cX7_readEntry 129 = .ok (.getfield 36, 3) := by decide +kernel
theorem dX7_readEntry_132 : decode cX7_readEntry 132 = .ok (.iload_n 1, 1) := by decide +kernel
theorem dX7_readEntry_133 : decode cX7_readEntry 133 = .ok (.iconst 1, 1) := by decide +kernel
theorem dX7_readEntry_134 : decode cX7_readEntry 134 = .ok (.iadd, 1) := by decide +kernel
theorem dX7_readEntry_135 : decode cX7_readEntry 135 = .ok (.aload_n 0, 1) := by decide +kernel
theorem dX7_readEntry_136 : decode cX7_readEntry 136 = .ok (.bipush 47, 2) := by decide +kernel
theorem dX7_readEntry_138 : decode cX7_readEntry 138 = .ok (.iconst 2, 1) := by decide +kernel
theorem dX7_readEntry_139 : decode cX7_readEntry 139 = .ok (.invokevirtual 238, 3) := by decide +kernel
theorem dX7_readEntry_142 : decode cX7_readEntry 142 = .ok (.iastore, 1) := by decide +kernel
theorem dX7_readEntry_143 : decode cX7_readEntry 143 = .ok (.iload_n 2, 1) := by decide +kernel
theorem dX7_readEntry_144 : decode cX7_readEntry 144 = .ok (.bipush 115, 2) := by decide +kernel
theorem dX7_readEntry_146 : decode cX7_readEntry 146 = .ok (.if_icmp .ne 18, 3) := by decide +kernel
theorem dX7_readEntry_149 : decode cX7_readEntry 149 = .ok (.aload_n 0, 1) := by decide +kernel
theorem dX7_readEntry_150 : decode cX7_readEntry 150 = .ok (.getfield 36, 3) := by decide +kernel
theorem dX7_readEntry_153 : decode cX7_readEntry 153 = .ok (.iload_n 1, 1) := by decide +kernel
theorem dX7_readEntry_154 : decode cX7_readEntry 154 = .ok (.iconst 2, 1) := by decide +kernel
theorem dX7_readEntry_155 : decode cX7_readEntry 155 = .ok (.iadd, 1) := by decide +kernel
theorem dX7_readEntry_156 : decode cX7_readEntry 156 = .ok (.aload_n 0, 1) := by decide +kernel
theorem dX7_readEntry_157 : decode cX7_readEntry 157 = .ok (.bipush 64, 2) := by decide +kernel
theorem dX7_readEntry_159 : decode cX7_readEntry 159 = .ok (.iconst 3, 1) := by decide +kernel
theorem dX7_readEntry_160 : decode cX7_readEntry 160 = .ok (.invokevirtual 238, 3) := by decide +kernel
theorem dX7_readEntry_163 : decode cX7_readEntry 163 = .ok (.iastore, 1) := by decide +kernel
theorem dX7_readEntry_164 : decode cX7_readEntry 164 = .ok (.aload_n 0, 1) := by decide +kernel
theorem dX7_readEntry_165 : decode cX7_readEntry 165 = .ok (.bipush 59, 2) := by decide +kernel
theorem dX7_readEntry_167 : decode cX7_readEntry 167 = .ok (.invokevirtual 221, 3) := by decide +kernel
theorem dX7_readEntry_170 : decode cX7_readEntry 170 = .ok (.aload_n 0, 1) := by decide +kernel
theorem dX7_readEntry_171 : decode cX7_readEntry 171 = .ok (.dup, 1) := by decide +kernel
theorem dX7_readEntry_172 : decode cX7_readEntry 172 = .ok (.getfield 228, 3) := by decide +kernel
theorem dX7_readEntry_175 : decode cX7_readEntry 175 = .ok (.iconst 1, 1) := by decide +kernel
theorem dX7_readEntry_176 : decode cX7_readEntry 176 = .ok (.iadd, 1) := by decide +kernel
theorem dX7_readEntry_177 : decode cX7_readEntry 177 = .ok (.putfield 228, 3) := by decide +kernel
theorem dX7_readEntry_180 : decode cX7_readEntry 180 = .ok (.return_, 1) := by decide +kernel
theorem dX7_isTold_0 : decode cX7_isTold 0 = .ok (.aload_n 0, 1) := by decide +kernel
theorem dX7_isTold_1 : decode cX7_isTold 1 = .ok (.aload_n 0, 1) := by decide +kernel
theorem dX7_isTold_2 : decode cX7_isTold 2 = .ok (.getfield 36, 3) := by decide +kernel
theorem dX7_isTold_5 : decode cX7_isTold 5 = .ok (.iconst 3, 1) := by decide +kernel
theorem dX7_isTold_6 : decode cX7_isTold 6 = .ok (.iload_n 1, 1) := by decide +kernel
theorem dX7_isTold_7 : decode cX7_isTold 7 = .ok (.imul, 1) := by decide +kernel
theorem dX7_isTold_8 : decode cX7_isTold 8 = .ok (.iaload, 1) := by decide +kernel
theorem dX7_isTold_9 : decode cX7_isTold 9 = .ok (.invokevirtual 74, 3) := by decide +kernel
theorem dX7_isTold_12 : decode cX7_isTold 12 = .ok (.ifCond .eq 23, 3) := by decide +kernel
theorem dX7_isTold_15 : decode cX7_isTold 15 = .ok (.aload_n 0, 1) := by decide +kernel
theorem dX7_isTold_16 : decode cX7_isTold 16 = .ok (.getfield 36, 3) := by decide +kernel
theorem dX7_isTold_19 : decode cX7_isTold 19 = .ok (.iconst 3, 1) := by decide +kernel
theorem dX7_isTold_20 : decode cX7_isTold 20 = .ok (.iload_n 1, 1) := by decide +kernel
theorem dX7_isTold_21 : decode cX7_isTold 21 = .ok (.imul, 1) := by decide +kernel
theorem dX7_isTold_22 : decode cX7_isTold 22 = .ok (.iconst 1, 1) := by decide +kernel
theorem dX7_isTold_23 : decode cX7_isTold 23 = .ok (.iadd, 1) := by decide +kernel
theorem dX7_isTold_24 : decode cX7_isTold 24 = .ok (.iaload, 1) := by decide +kernel
theorem dX7_isTold_25 : decode cX7_isTold 25 = .ok (.invokestatic 122, 3) := by decide +kernel
theorem dX7_isTold_28 : decode cX7_isTold 28 = .ok (.ifCond .eq 7, 3) := by decide +kernel
theorem dX7_isTold_31 : decode cX7_isTold 31 = .ok (.iconst 1, 1) := by decide +kernel
theorem dX7_isTold_32 : decode cX7_isTold 32 = .ok (.goto 4, 3) := by decide +kernel
theorem dX7_isTold_35 : decode cX7_isTold 35 = .ok (.iconst 0, 1) := by decide +kernel
theorem dX7_isTold_36 : decode cX7_isTold 36 = .ok (.ireturn, 1) := by decide +kernel
theorem dX7_fails_0 : decode cX7_fails 0 = .ok (.aload_n 0, 1) := by decide +kernel
theorem dX7_fails_1 : decode cX7_fails 1 = .ok (.getfield 36, 3) := by decide +kernel
theorem dX7_fails_4 : decode cX7_fails 4 = .ok (.iconst 3, 1) := by decide +kernel
theorem dX7_fails_5 : decode cX7_fails 5 = .ok (.iload_n 1, 1) := by decide +kernel
theorem dX7_fails_6 : decode cX7_fails 6 = .ok (.imul, 1) := by decide +kernel
theorem dX7_fails_7 : decode cX7_fails 7 = .ok (.iaload, 1) := by decide +kernel
theorem dX7_fails_8 : decode cX7_fails 8 = .ok (.istore_n 2, 1) := by decide +kernel
theorem dX7_fails_9 : decode cX7_fails 9 = .ok (.aload_n 0, 1) := by decide +kernel
theorem dX7_fails_10 : decode cX7_fails 10 = .ok (.getfield 36, 3) := by decide +kernel
theorem dX7_fails_13 : decode cX7_fails 13 = .ok (.iconst 3, 1) := by decide +kernel
theorem dX7_fails_14 : decode cX7_fails 14 = .ok (.iload_n 1, 1) := by decide +kernel
theorem dX7_fails_15 : decode cX7_fails 15 = .ok (.imul, 1) := by decide +kernel
theorem dX7_fails_16 : decode cX7_fails 16 = .ok (.iconst 1, 1) := by decide +kernel
theorem dX7_fails_17 : decode cX7_fails 17 = .ok (.iadd, 1) := by decide +kernel
theorem dX7_fails_18 : decode cX7_fails 18 = .ok (.iaload, 1) := by decide +kernel
theorem dX7_fails_19 : decode cX7_fails 19 = .ok (.istore_n 3, 1) := by decide +kernel
theorem dX7_fails_20 : decode cX7_fails 20 = .ok (.aload_n 0, 1) := by decide +kernel
theorem dX7_fails_21 : decode cX7_fails 21 = .ok (.getfield 33, 3) := by decide +kernel
theorem dX7_fails_24 : decode cX7_fails 24 = .ok (.iload_n 1, 1) := by decide +kernel
theorem dX7_fails_25 : decode cX7_fails 25 = .ok (.caload, 1) := by decide +kernel
theorem dX7_fails_26 : decode cX7_fails 26 = .ok (.lookupswitch 195 #[(99, 58), (103, 159), (106, 173), (114, 133), (115, 87), (120, 72)], 58) := by decide +kernel
theorem dX7_fails_84 : decode cX7_fails 84 = .ok (.aload_n 0, 1) := by decide +kernel
theorem dX7_fails_85 : decode cX7_fails 85 = .ok (.iload_n 2, 1) := by decide +kernel
theorem dX7_fails_86 : decode cX7_fails 86 = .ok (.invokevirtual 78, 3) := by decide +kernel
theorem dX7_fails_89 : decode cX7_fails 89 = .ok (.ifCond .le 7, 3) := by decide +kernel
theorem dX7_fails_92 : decode cX7_fails 92 = .ok (.iconst 1, 1) := by decide +kernel
theorem dX7_fails_93 : decode cX7_fails 93 = .ok (.goto 4, 3) := by decide +kernel
theorem dX7_fails_96 : decode cX7_fails 96 = .ok (.iconst 0, 1) := by decide +kernel
theorem dX7_fails_97 : decode cX7_fails 97 = .ok (.ireturn, 1) := by decide +kernel
theorem dX7_fails_98 : decode cX7_fails 98 = .ok (.aload_n 0, 1) := by decide +kernel
theorem dX7_fails_99 : decode cX7_fails 99 = .ok (.iload_n 2, 1) := by decide +kernel
theorem dX7_fails_100 : decode cX7_fails 100 = .ok (.iconst 0, 1) := by decide +kernel
theorem dX7_fails_101 : decode cX7_fails 101 = .ok (.invokevirtual 155, 3) := by decide +kernel
theorem dX7_fails_104 : decode cX7_fails 104 = .ok (.ifCond .le 7, 3) := by decide +kernel
theorem dX7_fails_107 : decode cX7_fails 107 = .ok (.iconst 1, 1) := by decide +kernel
theorem dX7_fails_108 : decode cX7_fails 108 = .ok (.goto 4, 3) := by decide +kernel
theorem dX7_fails_111 : decode cX7_fails 111 = .ok (.iconst 0, 1) := by decide +kernel
theorem dX7_fails_112 : decode cX7_fails 112 = .ok (.ireturn, 1) := by decide +kernel
theorem dX7_fails_113 : decode cX7_fails 113 = .ok (.aload_n 0, 1) := by decide +kernel
theorem dX7_fails_114 : decode cX7_fails 114 = .ok (.getfield 36, 3) := by decide +kernel
theorem dX7_fails_117 : decode cX7_fails 117 = .ok (.iconst 3, 1) := by decide +kernel
theorem dX7_fails_118 : decode cX7_fails 118 = .ok (.iload_n 1, 1) := by decide +kernel
theorem dX7_fails_119 : decode cX7_fails 119 = .ok (.imul, 1) := by decide +kernel
theorem dX7_fails_120 : decode cX7_fails 120 = .ok (.iconst 2, 1) := by decide +kernel
theorem dX7_fails_121 : decode cX7_fails 121 = .ok (.iadd, 1) := by decide +kernel
theorem dX7_fails_122 : decode cX7_fails 122 = .ok (.iaload, 1) := by decide +kernel
theorem dX7_fails_123 : decode cX7_fails 123 = .ok (.istore 4, 2) := by decide +kernel
theorem dX7_fails_125 : decode cX7_fails 125 = .ok (.aload_n 0, 1) := by decide +kernel
theorem dX7_fails_126 : decode cX7_fails 126 = .ok (.iload_n 1, 1) := by decide +kernel
theorem dX7_fails_127 : decode cX7_fails 127 = .ok (.invokevirtual 242, 3) := by decide +kernel
theorem dX7_fails_130 : decode cX7_fails 130 = .ok (.ifCond .eq 23, 3) := by decide +kernel
theorem dX7_fails_133 : decode cX7_fails 133 = .ok (.iload 4, 2) := by decide +kernel
theorem dX7_fails_135 : decode cX7_fails 135 = .ok (.bipush 100, 2) := by decide +kernel
theorem dX7_fails_137 : decode cX7_fails 137 = .ok (.if_icmp .gt 16, 3) := by decide +kernel
theorem dX7_fails_140 : decode cX7_fails 140 = .ok (.aload_n 0, 1) := by decide +kernel
theorem dX7_fails_141 : decode cX7_fails 141 = .ok (.iload_n 2, 1) := by decide +kernel
theorem dX7_fails_142 : decode cX7_fails 142 = .ok (.iload_n 3, 1) := by decide +kernel
theorem dX7_fails_143 : decode cX7_fails 143 = .ok (.iload 4, 2) := by decide +kernel
theorem dX7_fails_145 : decode cX7_fails 145 = .ok (.iconst 0, 1) := by decide +kernel
theorem dX7_fails_146 : decode cX7_fails 146 = .ok (.iconst 0, 1) := by decide +kernel
theorem dX7_fails_147 : decode cX7_fails 147 = .ok (.invokevirtual 142, 3) := by decide +kernel
theorem dX7_fails_150 : decode cX7_fails 150 = .ok (.ifCond .le 7, 3) := by decide +kernel
theorem dX7_fails_153 : decode cX7_fails 153 = .ok (.iconst 1, 1) := by decide +kernel
theorem dX7_fails_154 : decode cX7_fails 154 = .ok (.goto 4, 3) := by decide +kernel
theorem dX7_fails_157 : decode cX7_fails 157 = .ok (.iconst 0, 1) := by decide +kernel
theorem dX7_fails_158 : decode cX7_fails 158 = .ok (.ireturn, 1) := by decide +kernel
theorem dX7_fails_159 : decode cX7_fails 159 = .ok (.aload_n 0, 1) := by decide +kernel
theorem dX7_fails_160 : decode cX7_fails 160 = .ok (.iload_n 1, 1) := by decide +kernel
theorem dX7_fails_161 : decode cX7_fails 161 = .ok (.invokevirtual 242, 3) := by decide +kernel
theorem dX7_fails_164 : decode cX7_fails 164 = .ok (.ifCond .eq 15, 3) := by decide +kernel
theorem dX7_fails_167 : decode cX7_fails 167 = .ok (.aload_n 0, 1) := by decide +kernel
theorem dX7_fails_168 : decode cX7_fails 168 = .ok (.iload_n 2, 1) := by decide +kernel
theorem dX7_fails_169 : decode cX7_fails 169 = .ok (.iload_n 3, 1) := by decide +kernel
theorem dX7_fails_170 : decode cX7_fails 170 = .ok (.iconst (-1), 1) := by decide +kernel
theorem dX7_fails_171 : decode cX7_fails 171 = .ok (.iconst 0, 1) := by decide +kernel
theorem dX7_fails_172 : decode cX7_fails 172 = .ok (.iconst 0, 1) := by decide +kernel
theorem dX7_fails_173 : decode cX7_fails 173 = .ok (.invokevirtual 142, 3) := by decide +kernel
theorem dX7_fails_176 : decode cX7_fails 176 = .ok (.ifCond .le 7, 3) := by decide +kernel
theorem dX7_fails_179 : decode cX7_fails 179 = .ok (.iconst 1, 1) := by decide +kernel
theorem dX7_fails_180 : decode cX7_fails 180 = .ok (.goto 4, 3) := by decide +kernel
theorem dX7_fails_183 : decode cX7_fails 183 = .ok (.iconst 0, 1) := by decide +kernel
theorem dX7_fails_184 : decode cX7_fails 184 = .ok (.ireturn, 1) := by decide +kernel
theorem dX7_fails_185 : decode cX7_fails 185 = .ok (.aload_n 0, 1) := by decide +kernel
theorem dX7_fails_186 : decode cX7_fails 186 = .ok (.iconst 0, 1) := by decide +kernel
theorem dX7_fails_187 : decode cX7_fails 187 = .ok (.invokevirtual 177, 3) := by decide +kernel
theorem dX7_fails_190 : decode cX7_fails 190 = .ok (.ifCond .le 7, 3) := by decide +kernel
theorem dX7_fails_193 : decode cX7_fails 193 = .ok (.iconst 1, 1) := by decide +kernel
theorem dX7_fails_194 : decode cX7_fails 194 = .ok (.goto 4, 3) := by decide +kernel
theorem dX7_fails_197 : decode cX7_fails 197 = .ok (.iconst 0, 1) := by decide +kernel
theorem dX7_fails_198 : decode cX7_fails 198 = .ok (.ireturn, 1) := by decide +kernel
theorem dX7_fails_199 : decode cX7_fails 199 = .ok (.aload_n 0, 1) := by decide +kernel
theorem dX7_fails_200 : decode cX7_fails 200 = .ok (.iload_n 2, 1) := by decide +kernel
theorem dX7_fails_201 : decode cX7_fails 201 = .ok (.invokevirtual 74, 3) := by decide +kernel
theorem dX7_fails_204 : decode cX7_fails 204 = .ok (.ifCond .eq 11, 3) := by decide +kernel
theorem dX7_fails_207 : decode cX7_fails 207 = .ok (.aload_n 0, 1) := by decide +kernel
theorem dX7_fails_208 : decode cX7_fails 208 = .ok (.iload_n 2, 1) := by decide +kernel
theorem dX7_fails_209 : decode cX7_fails 209 = .ok (.invokevirtual 174, 3) := by decide +kernel
theorem dX7_fails_212 : decode cX7_fails 212 = .ok (.ifCond .ge 7, 3) := by decide +kernel
theorem dX7_fails_215 : decode cX7_fails 215 = .ok (.iconst 1, 1) := by decide +kernel
theorem dX7_fails_216 : decode cX7_fails 216 = .ok (.goto 4, 3) := by decide +kernel
theorem dX7_fails_219 : decode cX7_fails 219 = .ok (.iconst 0, 1) := by decide +kernel
theorem dX7_fails_220 : decode cX7_fails 220 = .ok (.ireturn, 1) := by decide +kernel
theorem dX7_fails_221 : decode cX7_fails 221 = .ok (.aload_n 0, 1) := by decide +kernel
theorem dX7_fails_222 : decode cX7_fails 222 = .ok (.iload_n 2, 1) := by decide +kernel
theorem dX7_fails_223 : decode cX7_fails 223 = .ok (.invokevirtual 189, 3) := by decide +kernel
theorem dX7_fails_226 : decode cX7_fails 226 = .ok (.ifCond .le 7, 3) := by decide +kernel
theorem dX7_fails_229 : decode cX7_fails 229 = .ok (.iconst 1, 1) := by decide +kernel
theorem dX7_fails_230 : decode cX7_fails 230 = .ok (.goto 4, 3) := by decide +kernel
theorem dX7_fails_233 : decode cX7_fails 233 = .ok (.iconst 0, 1) := by decide +kernel
theorem dX7_fails_234 : decode cX7_fails 234 = .ok (.ireturn, 1) := by decide +kernel
theorem dX7_read_0 : decode cX7_read 0 = .ok (.aload_n 0, 1) := by decide +kernel
theorem dX7_read_1 : decode cX7_read 1 = .ok (.iconst 0, 1) := by decide +kernel
theorem dX7_read_2 : decode cX7_read 2 = .ok (.putfield 214, 3) := by decide +kernel
theorem dX7_read_5 : decode cX7_read 5 = .ok (.aload_n 0, 1) := by decide +kernel
theorem dX7_read_6 : decode cX7_read 6 = .ok (.iconst 0, 1) := by decide +kernel
theorem dX7_read_7 : decode cX7_read 7 = .ok (.putfield 210, 3) := by decide +kernel
theorem dX7_read_10 : decode cX7_read 10 = .ok (.aload_n 0, 1) := by decide +kernel
theorem dX7_read_11 : decode cX7_read 11 = .ok (.iconst 0, 1) := by decide +kernel
theorem dX7_read_12 : decode cX7_read 12 = .ok (.putfield 228, 3) := by decide +kernel
theorem dX7_read_15 : decode cX7_read 15 = .ok (.aload_n 0, 1) := by decide +kernel
theorem dX7_read_16 : decode cX7_read 16 = .ok (.invokevirtual 245, 3) := by decide +kernel
theorem dX7_read_19 : decode cX7_read 19 = .ok (.aload_n 0, 1) := by decide +kernel
theorem dX7_read_20 : decode cX7_read 20 = .ok (.getfield 210, 3) := by decide +kernel
theorem dX7_read_23 : decode cX7_read 23 = .ok (.ifCond .ne 21, 3) := by decide +kernel
theorem dX7_read_26 : decode cX7_read 26 = .ok (.aload_n 0, 1) := by decide +kernel
theorem dX7_read_27 : decode cX7_read 27 = .ok (.getfield 214, 3) := by decide +kernel
theorem dX7_read_30 : decode cX7_read 30 = .ok (.aload_n 0, 1) := by decide +kernel
theorem dX7_read_31 : decode cX7_read 31 = .ok (.getfield 207, 3) := by decide +kernel
theorem dX7_read_34 : decode cX7_read 34 = .ok (.if_icmp .ge 10, 3) := by decide +kernel
theorem dX7_read_37 : decode cX7_read 37 = .ok (.aload_n 0, 1) := by decide +kernel
theorem dX7_read_38 : decode cX7_read 38 = .ok (.invokevirtual 245, 3) := by decide +kernel
theorem dX7_read_41 : decode cX7_read 41 = .ok (.goto (-22), 3) := by decide +kernel
theorem dX7_read_44 : decode cX7_read 44 = .ok (.aload_n 0, 1) := by decide +kernel
theorem dX7_read_45 : decode cX7_read 45 = .ok (.iconst 0, 1) := by decide +kernel
theorem dX7_read_46 : decode cX7_read 46 = .ok (.putfield 207, 3) := by decide +kernel
theorem dX7_read_49 : decode cX7_read 49 = .ok (.aload_n 0, 1) := by decide +kernel
theorem dX7_read_50 : decode cX7_read 50 = .ok (.aload_n 0, 1) := by decide +kernel
theorem dX7_read_51 : decode cX7_read 51 = .ok (.getfield 210, 3) := by decide +kernel
theorem dX7_read_54 : decode cX7_read 54 = .ok (.ifCond .eq 10, 3) := by decide +kernel
theorem dX7_read_57 : decode cX7_read 57 = .ok (.aload_n 0, 1) := by decide +kernel
theorem dX7_read_58 : decode cX7_read 58 = .ok (.getfield 214, 3) := by decide +kernel
theorem dX7_read_61 : decode cX7_read 61 = .ok (.goto 7, 3) := by decide +kernel
theorem dX7_read_64 : decode cX7_read 64 = .ok (.aload_n 0, 1) := by decide +kernel
theorem dX7_read_65 : decode cX7_read 65 = .ok (.getfield 29, 3) := by decide +kernel
theorem dX7_read_68 : decode cX7_read 68 = .ok (.putfield 29, 3) := by decide +kernel
theorem dX7_read_71 : decode cX7_read 71 = .ok (.aload_n 0, 1) := by decide +kernel
theorem dX7_read_72 : decode cX7_read 72 = .ok (.aload_n 0, 1) := by decide +kernel
theorem dX7_read_73 : decode cX7_read 73 = .ok (.getfield 210, 3) := by decide +kernel
theorem dX7_read_76 : decode cX7_read 76 = .ok (.ifCond .eq 7, 3) := by decide +kernel
theorem dX7_read_79 : decode cX7_read 79 = .ok (.iconst 1, 1) := by decide +kernel
theorem dX7_read_80 : decode cX7_read 80 = .ok (.goto 4, 3) := by decide +kernel
theorem dX7_read_83 : decode cX7_read 83 = .ok (.iconst 0, 1) := by decide +kernel
theorem dX7_read_84 : decode cX7_read 84 = .ok (.putfield 42, 3) := by decide +kernel
theorem dX7_read_87 : decode cX7_read 87 = .ok (.aload_n 0, 1) := by decide +kernel
theorem dX7_read_88 : decode cX7_read 88 = .ok (.invokevirtual 54, 3) := by decide +kernel
theorem dX7_read_91 : decode cX7_read 91 = .ok (.iconst 0, 1) := by decide +kernel
theorem dX7_read_92 : decode cX7_read 92 = .ok (.istore_n 1, 1) := by decide +kernel
theorem dX7_read_93 : decode cX7_read 93 = .ok (.iload_n 1, 1) := by decide +kernel
theorem dX7_read_94 : decode cX7_read 94 = .ok (.aload_n 0, 1) := by decide +kernel
theorem dX7_read_95 : decode cX7_read 95 = .ok (.getfield 228, 3) := by decide +kernel
theorem dX7_read_98 : decode cX7_read 98 = .ok (.if_icmp .ge 45, 3) := by decide +kernel
theorem dX7_read_101 : decode cX7_read 101 = .ok (.aload_n 0, 1) := by decide +kernel
theorem dX7_read_102 : decode cX7_read 102 = .ok (.getfield 42, 3) := by decide +kernel
theorem dX7_read_105 : decode cX7_read 105 = .ok (.ifCond .ne 38, 3) := by decide +kernel
theorem dX7_read_108 : decode cX7_read 108 = .ok (.aload_n 0, 1) := by decide +kernel
theorem dX7_read_109 : decode cX7_read 109 = .ok (.iload_n 1, 1) := by decide +kernel
theorem dX7_read_110 : decode cX7_read 110 = .ok (.invokevirtual 248, 3) := by decide +kernel
theorem dX7_read_113 : decode cX7_read 113 = .ok (.ifCond .eq 24, 3) := by decide +kernel
theorem dX7_read_116 : decode cX7_read 116 = .ok (.aload_n 0, 1) := by decide +kernel
theorem dX7_read_117 : decode cX7_read 117 = .ok (.iconst 2, 1) := by decide +kernel
theorem dX7_read_118 : decode cX7_read 118 = .ok (.putfield 42, 3) := by decide +kernel
theorem dX7_read_121 : decode cX7_read 121 = .ok (.aload_n 0, 1) := by decide +kernel
theorem dX7_read_122 : decode cX7_read 122 = .ok (.getfield 13, 3) := by decide +kernel
theorem dX7_read_125 : decode cX7_read 125 = .ok (.iconst 0, 1) := by decide +kernel
theorem dX7_read_126 : decode cX7_read 126 = .ok (.aload_n 0, 1) := by decide +kernel
theorem dX7_read_127 : decode cX7_read 127 = .ok (.getfield 9, 3) := by decide +kernel
theorem dX7_read_130 : decode cX7_read 130 = .ok (.iconst 0, 1) := by decide +kernel
theorem dX7_read_131 : decode cX7_read 131 = .ok (.sipush 462, 3) := by decide +kernel
theorem dX7_read_134 : decode cX7_read 134 = .ok (.invokestatic 48, 3) := by decide +kernel
theorem dX7_read_137 : decode cX7_read 137 = .ok (.iinc 1 1, 3) := by decide +kernel
theorem dX7_read_140 : decode cX7_read 140 = .ok (.goto (-47), 3) := by decide +kernel
theorem dX7_read_143 : decode cX7_read 143 = .ok (.aload_n 0, 1) := by decide +kernel
theorem dX7_read_144 : decode cX7_read 144 = .ok (.getfield 42, 3) := by decide +kernel
theorem dX7_read_147 : decode cX7_read 147 = .ok (.ifCond .le 5, 3) := by decide +kernel
theorem dX7_read_150 : decode cX7_read 150 = .ok (.iconst 0, 1) := by decide +kernel
theorem dX7_read_151 : decode cX7_read 151 = .ok (.ireturn, 1) := by decide +kernel
theorem dX7_read_152 : decode cX7_read 152 = .ok (.aload_n 0, 1) := by decide +kernel
theorem dX7_read_153 : decode cX7_read 153 = .ok (.invokevirtual 57, 3) := by decide +kernel
theorem dX7_read_156 : decode cX7_read 156 = .ok (.aload_n 0, 1) := by decide +kernel
theorem dX7_read_157 : decode cX7_read 157 = .ok (.getfield 228, 3) := by decide +kernel
theorem dX7_read_160 : decode cX7_read 160 = .ok (.ireturn, 1) := by decide +kernel
theorem dX7_errorPosition_0 : decode cX7_errorPosition 0 = .ok (.aload_n 0, 1) := by decide +kernel
theorem dX7_errorPosition_1 : decode cX7_errorPosition 1 = .ok (.aload_n 0, 1) := by decide +kernel
theorem dX7_errorPosition_2 : decode cX7_errorPosition 2 = .ok (.getfield 29, 3) := by decide +kernel
theorem dX7_errorPosition_5 : decode cX7_errorPosition 5 = .ok (.ifCond .ge 7, 3) := by decide +kernel
theorem dX7_errorPosition_8 : decode cX7_errorPosition 8 = .ok (.iconst 1, 1) := by decide +kernel
theorem dX7_errorPosition_9 : decode cX7_errorPosition 9 = .ok (.goto 4, 3) := by decide +kernel
theorem dX7_errorPosition_12 : decode cX7_errorPosition 12 = .ok (.iconst 0, 1) := by decide +kernel
theorem dX7_errorPosition_13 : decode cX7_errorPosition 13 = .ok (.putfield 42, 3) := by decide +kernel
theorem dX7_errorPosition_16 : decode cX7_errorPosition 16 = .ok (.aload_n 0, 1) := by decide +kernel
theorem dX7_errorPosition_17 : decode cX7_errorPosition 17 = .ok (.getfield 42, 3) := by decide +kernel
theorem dX7_errorPosition_20 : decode cX7_errorPosition 20 = .ok (.ifCond .le 7, 3) := by decide +kernel
theorem dX7_errorPosition_23 : decode cX7_errorPosition 23 = .ok (.iconst 0, 1) := by decide +kernel
theorem dX7_errorPosition_24 : decode cX7_errorPosition 24 = .ok (.goto 7, 3) := by decide +kernel
theorem dX7_errorPosition_27 : decode cX7_errorPosition 27 = .ok (.aload_n 0, 1) := by decide +kernel
theorem dX7_errorPosition_28 : decode cX7_errorPosition 28 = .ok (.getfield 29, 3) := by decide +kernel
theorem dX7_errorPosition_31 : decode cX7_errorPosition 31 = .ok (.ireturn, 1) := by decide +kernel
theorem dX7_undo_0 : decode cX7_undo 0 = .ok (.aload_n 0, 1) := by decide +kernel
theorem dX7_undo_1 : decode cX7_undo 1 = .ok (.aload_n 0, 1) := by decide +kernel
theorem dX7_undo_2 : decode cX7_undo 2 = .ok (.getfield 45, 3) := by decide +kernel
theorem dX7_undo_5 : decode cX7_undo 5 = .ok (.ifCond .ne 7, 3) := by decide +kernel
theorem dX7_undo_8 : decode cX7_undo 8 = .ok (.iconst 1, 1) := by decide +kernel
theorem dX7_undo_9 : decode cX7_undo 9 = .ok (.goto 4, 3) := by decide +kernel
theorem dX7_undo_12 : decode cX7_undo 12 = .ok (.iconst 0, 1) := by decide +kernel
theorem dX7_undo_13 : decode cX7_undo 13 = .ok (.putfield 42, 3) := by decide +kernel
theorem dX7_undo_16 : decode cX7_undo 16 = .ok (.aload_n 0, 1) := by decide +kernel
theorem dX7_undo_17 : decode cX7_undo 17 = .ok (.getfield 42, 3) := by decide +kernel
theorem dX7_undo_20 : decode cX7_undo 20 = .ok (.ifCond .le 5, 3) := by decide +kernel
theorem dX7_undo_23 : decode cX7_undo 23 = .ok (.iconst 0, 1) := by decide +kernel
theorem dX7_undo_24 : decode cX7_undo 24 = .ok (.ireturn, 1) := by decide +kernel
theorem dX7_undo_25 : decode cX7_undo 25 = .ok (.aload_n 0, 1) := by decide +kernel
theorem dX7_undo_26 : decode cX7_undo 26 = .ok (.dup, 1) := by decide +kernel
theorem dX7_undo_27 : decode cX7_undo 27 = .ok (.getfield 45, 3) := by decide +kernel
theorem dX7_undo_30 : decode cX7_undo 30 = .ok (.iconst 1, 1) := by decide +kernel
theorem dX7_undo_31 : decode cX7_undo 31 = .ok (.isub, 1) := by decide +kernel
theorem dX7_undo_32 : decode cX7_undo 32 = .ok (.putfield 45, 3) := by decide +kernel
theorem dX7_undo_35 : decode cX7_undo 35 = .ok (.aload_n 0, 1) := by decide +kernel
theorem dX7_undo_36 : decode cX7_undo 36 = .ok (.getfield 19, 3) := by decide +kernel
theorem dX7_undo_39 : decode cX7_undo 39 = .ok (.sipush 462, 3) := by decide +kernel
theorem dX7_undo_42 : decode cX7_undo 42 = .ok (.aload_n 0, 1) := by decide +kernel
theorem dX7_undo_43 : decode cX7_undo 43 = .ok (.getfield 45, 3) := by decide +kernel
theorem dX7_undo_46 : decode cX7_undo 46 = .ok (.imul, 1) := by decide +kernel
theorem dX7_undo_47 : decode cX7_undo 47 = .ok (.aload_n 0, 1) := by decide +kernel
theorem dX7_undo_48 : decode cX7_undo 48 = .ok (.getfield 9, 3) := by decide +kernel
theorem dX7_undo_51 : decode cX7_undo 51 = .ok (.iconst 0, 1) := by decide +kernel
theorem dX7_undo_52 : decode cX7_undo 52 = .ok (.sipush 462, 3) := by decide +kernel
theorem dX7_undo_55 : decode cX7_undo 55 = .ok (.invokestatic 48, 3) := by decide +kernel
theorem dX7_undo_58 : decode cX7_undo 58 = .ok (.aload_n 0, 1) := by decide +kernel
theorem dX7_undo_59 : decode cX7_undo 59 = .ok (.getfield 45, 3) := by decide +kernel
theorem dX7_undo_62 : decode cX7_undo 62 = .ok (.ireturn, 1) := by decide +kernel
theorem dX7_save_0 : decode cX7_save 0 = .ok (.aload_n 0, 1) := by decide +kernel
theorem dX7_save_1 : decode cX7_save 1 = .ok (.iconst 0, 1) := by decide +kernel
theorem dX7_save_2 : decode cX7_save 2 = .ok (.putfield 42, 3) := by decide +kernel
theorem dX7_save_5 : decode cX7_save 5 = .ok (.aload_n 0, 1) := by decide +kernel
theorem dX7_save_6 : decode cX7_save 6 = .ok (.getfield 9, 3) := by decide +kernel
theorem dX7_save_9 : decode cX7_save 9 = .ok (.iconst 0, 1) := by decide +kernel
theorem dX7_save_10 : decode cX7_save 10 = .ok (.aload_n 0, 1) := by decide +kernel
theorem dX7_save_11 : decode cX7_save 11 = .ok (.getfield 16, 3) := by decide +kernel
theorem dX7_save_14 : decode cX7_save 14 = .ok (.iconst 0, 1) := by decide +kernel
theorem dX7_save_15 : decode cX7_save 15 = .ok (.sipush 462, 3) := by decide +kernel
theorem dX7_save_18 : decode cX7_save 18 = .ok (.invokestatic 48, 3) := by decide +kernel
theorem dX7_save_21 : decode cX7_save 21 = .ok (.aload_n 0, 1) := by decide +kernel
theorem dX7_save_22 : decode cX7_save 22 = .ok (.iconst 1, 1) := by decide +kernel
theorem dX7_save_23 : decode cX7_save 23 = .ok (.putfield 251, 3) := by decide +kernel
theorem dX7_save_26 : decode cX7_save 26 = .ok (.aload_n 0, 1) := by decide +kernel
theorem dX7_save_27 : decode cX7_save 27 = .ok (.getfield 9, 3) := by decide +kernel
theorem dX7_save_30 : decode cX7_save 30 = .ok (.iconst 0, 1) := by decide +kernel
theorem dX7_save_31 : decode cX7_save 31 = .ok (.iaload, 1) := by decide +kernel
theorem dX7_save_32 : decode cX7_save 32 = .ok (.ireturn, 1) := by decide +kernel
theorem dX7_restore_0 : decode cX7_restore 0 = .ok (.aload_n 0, 1) := by decide +kernel
theorem dX7_restore_1 : decode cX7_restore 1 = .ok (.aload_n 0, 1) := by decide +kernel
theorem dX7_restore_2 : decode cX7_restore 2 = .ok (.getfield 251, 3) := by decide +kernel
theorem dX7_restore_5 : decode cX7_restore 5 = .ok (.ifCond .eq 7, 3) := by decide +kernel
theorem dX7_restore_8 : decode cX7_restore 8 = .ok (.iconst 0, 1) := by decide +kernel
theorem dX7_restore_9 : decode cX7_restore 9 = .ok (.goto 4, 3) := by decide +kernel
theorem dX7_restore_12 : decode cX7_restore 12 = .ok (.iconst 1, 1) := by decide +kernel
theorem dX7_restore_13 : decode cX7_restore 13 = .ok (.putfield 42, 3) := by decide +kernel
theorem dX7_restore_16 : decode cX7_restore 16 = .ok (.aload_n 0, 1) := by decide +kernel
theorem dX7_restore_17 : decode cX7_restore 17 = .ok (.getfield 42, 3) := by decide +kernel
theorem dX7_restore_20 : decode cX7_restore 20 = .ok (.ifCond .le 5, 3) := by decide +kernel
theorem dX7_restore_23 : decode cX7_restore 23 = .ok (.iconst 0, 1) := by decide +kernel
theorem dX7_restore_24 : decode cX7_restore 24 = .ok (.ireturn, 1) := by decide +kernel
theorem dX7_restore_25 : decode cX7_restore 25 = .ok (.aload_n 0, 1) := by decide +kernel
theorem dX7_restore_26 : decode cX7_restore 26 = .ok (.getfield 16, 3) := by decide +kernel
theorem dX7_restore_29 : decode cX7_restore 29 = .ok (.iconst 0, 1) := by decide +kernel
theorem dX7_restore_30 : decode cX7_restore 30 = .ok (.aload_n 0, 1) := by decide +kernel
theorem dX7_restore_31 : decode cX7_restore 31 = .ok (.getfield 9, 3) := by decide +kernel
theorem dX7_restore_34 : decode cX7_restore 34 = .ok (.iconst 0, 1) := by decide +kernel
theorem dX7_restore_35 : decode cX7_restore 35 = .ok (.sipush 462, 3) := by decide +kernel
theorem dX7_restore_38 : decode cX7_restore 38 = .ok (.invokestatic 48, 3) := by decide +kernel
theorem dX7_restore_41 : decode cX7_restore 41 = .ok (.aload_n 0, 1) := by decide +kernel
theorem dX7_restore_42 : decode cX7_restore 42 = .ok (.iconst 0, 1) := by decide +kernel
theorem dX7_restore_43 : decode cX7_restore 43 = .ok (.putfield 45, 3) := by decide +kernel
theorem dX7_restore_46 : decode cX7_restore 46 = .ok (.aload_n 0, 1) := by decide +kernel
theorem dX7_restore_47 : decode cX7_restore 47 = .ok (.getfield 9, 3) := by decide +kernel
theorem dX7_restore_50 : decode cX7_restore 50 = .ok (.iconst 0, 1) := by decide +kernel
theorem dX7_restore_51 : decode cX7_restore 51 = .ok (.iaload, 1) := by decide +kernel
theorem dX7_restore_52 : decode cX7_restore 52 = .ok (.ireturn, 1) := by decide +kernel
theorem dJ11_isValidCodePoint_9a6ad_0 : decode cJ11_isValidCodePoint_9a6ad 0 = .ok (.iload_n 0, 1) := by decide +kernel
theorem dJ11_isValidCodePoint_9a6ad_1 : decode cJ11_isValidCodePoint_9a6ad 1 = .ok (.bipush 16, 2) := by decide +kernel
theorem dJ11_isValidCodePoint_9a6ad_3 : decode cJ11_isValidCodePoint_9a6ad 3 = .ok (.iushr, 1) := by decide +kernel
theorem dJ11_isValidCodePoint_9a6ad_4 : decode cJ11_isValidCodePoint_9a6ad 4 = .ok (.istore_n 1, 1) := by decide +kernel
theorem dJ11_isValidCodePoint_9a6ad_5 : decode cJ11_isValidCodePoint_9a6ad 5 = .ok (.iload_n 1, 1) := by decide +kernel
theorem dJ11_isValidCodePoint_9a6ad_6 : decode cJ11_isValidCodePoint_9a6ad 6 = .ok (.bipush 17, 2) := by decide +kernel
theorem dJ11_isValidCodePoint_9a6ad_8 : decode cJ11_isValidCodePoint_9a6ad 8 = .ok (.if_icmp .ge 7, 3) := by decide +kernel
theorem dJ11_isValidCodePoint_9a6ad_11 : decode cJ11_isValidCodePoint_9a6ad 11 = .ok (.iconst 1, 1) := by decide +kernel
theorem dJ11_isValidCodePoint_9a6ad_12 : decode cJ11_isValidCodePoint_9a6ad 12 = .ok (.goto 4, 3) := by decide +kernel
theorem dJ11_isValidCodePoint_9a6ad_15 : decode cJ11_isValidCodePoint_9a6ad 15 = .ok (.iconst 0, 1) := by decide +kernel
theorem dJ11_isValidCodePoint_9a6ad_16 : decode cJ11_isValidCodePoint_9a6ad 16 = .ok (.ireturn, 1) := by decide +kernel
theorem dJ11_highSurrogate_5068e_0 : decode cJ11_highSurrogate_5068e 0 = .ok (.iload_n 0, 1) := by decide +kernel
theorem dJ11_highSurrogate_5068e_1 : decode cJ11_highSurrogate_5068e 1 = .ok (.bipush 10, 2) := by decide +kernel
theorem dJ11_highSurrogate_5068e_3 : decode cJ11_highSurrogate_5068e 3 = .ok (.iushr, 1) := by decide +kernel
theorem dJ11_highSurrogate_5068e_4 : decode cJ11_highSurrogate_5068e 4 = .ok (.ldc 110, 2) := by decide +kernel
theorem dJ11_highSurrogate_5068e_6 : decode cJ11_highSurrogate_5068e 6 = .ok (.iadd, 1) := by decide +kernel
theorem dJ11_highSurrogate_5068e_7 : decode cJ11_highSurrogate_5068e 7 = .ok (.i2c, 1) := by decide +kernel
theorem dJ11_highSurrogate_5068e_8 : decode cJ11_highSurrogate_5068e 8 = .ok (.ireturn, 1) := by decide +kernel
theorem dJ11_lowSurrogate_5068e_0 : decode cJ11_lowSurrogate_5068e 0 = .ok (.iload_n 0, 1) := by decide +kernel
theorem dJ11_lowSurrogate_5068e_1 : decode cJ11_lowSurrogate_5068e 1 = .ok (.sipush 1023, 3) := by decide +kernel
theorem dJ11_lowSurrogate_5068e_4 : decode cJ11_lowSurrogate_5068e 4 = .ok (.iand, 1) := by decide +kernel
theorem dJ11_lowSurrogate_5068e_5 : decode cJ11_lowSurrogate_5068e 5 = .ok (.ldc 76, 2) := by decide +kernel
theorem dJ11_lowSurrogate_5068e_7 : decode cJ11_lowSurrogate_5068e 7 = .ok (.iadd, 1) := by decide +kernel
theorem dJ11_lowSurrogate_5068e_8 : decode cJ11_lowSurrogate_5068e 8 = .ok (.i2c, 1) := by decide +kernel
theorem dJ11_lowSurrogate_5068e_9 : decode cJ11_lowSurrogate_5068e 9 = .ok (.ireturn, 1) := by decide +kernel
theorem dJ6_bitCount_0f7a4_0 : decode cJ6_bitCount_0f7a4 0 = .ok (.iload_n 0, 1) := by decide +kernel
theorem dJ6_bitCount_0f7a4_1 : decode cJ6_bitCount_0f7a4 1 = .ok (.iload_n 0, 1) := by decide +kernel
theorem dJ6_bitCount_0f7a4_2 : decode cJ6_bitCount_0f7a4 2 = .ok (.iconst 1, 1) := by decide +kernel
theorem dJ6_bitCount_0f7a4_3 : decode cJ6_bitCount_0f7a4 3 = .ok (.iushr, 1) := by decide +kernel
theorem dJ6_bitCount_0f7a4_4 : decode cJ6_bitCount_0f7a4 4 = .ok (.ldc_w 265, 3) := by decide +kernel
theorem dJ6_bitCount_0f7a4_7 : decode cJ6_bitCount_0f7a4 7 = .ok (.iand, 1) := by decide +kernel
theorem dJ6_bitCount_0f7a4_8 : decode cJ6_bitCount_0f7a4 8 = .ok (.isub, 1) := by decide +kernel
theorem dJ6_bitCount_0f7a4_9 : decode cJ6_bitCount_0f7a4 9 = .ok (.istore_n 0, 1) := by decide +kernel
theorem dJ6_bitCount_0f7a4_10 : decode cJ6_bitCount_0f7a4 10 = .ok (.iload_n 0, 1) := by decide +kernel
theorem dJ6_bitCount_0f7a4_11 : decode cJ6_bitCount_0f7a4 11 = .ok (.ldc_w 266, 3) := by decide +kernel
theorem dJ6_bitCount_0f7a4_14 : decode cJ6_bitCount_0f7a4 14 = .ok (.iand, 1) := by decide +kernel
theorem dJ6_bitCount_0f7a4_15 : decode cJ6_bitCount_0f7a4 15 = .ok (.iload_n 0, 1) := by decide +kernel
theorem dJ6_bitCount_0f7a4_16 : decode cJ6_bitCount_0f7a4 16 = .ok (.iconst 2, 1) := by decide +kernel
theorem dJ6_bitCount_0f7a4_17 : decode cJ6_bitCount_0f7a4 17 = .ok (.iushr, 1) := by decide +kernel
theorem dJ6_bitCount_0f7a4_18 : decode cJ6_bitCount_0f7a4 18 = .ok (.ldc_w 266, 3) := by decide +kernel
theorem dJ6_bitCount_0f7a4_21 : decode cJ6_bitCount_0f7a4 21 = .ok (.iand, 1) := by decide +kernel
theorem dJ6_bitCount_0f7a4_22 : decode cJ6_bitCount_0f7a4 22 = .ok (.iadd, 1) := by decide +kernel
theorem dJ6_bitCount_0f7a4_23 : decode cJ6_bitCount_0f7a4 23 = .ok (.istore_n 0, 1) := by decide +kernel
theorem dJ6_bitCount_0f7a4_24 : decode cJ6_bitCount_0f7a4 24 = .ok (.iload_n 0, 1) := by decide +kernel
theorem dJ6_bitCount_0f7a4_25 : decode cJ6_bitCount_0f7a4 25 = .ok (.iload_n 0, 1) := by decide +kernel
theorem dJ6_bitCount_0f7a4_26 : decode cJ6_bitCount_0f7a4 26 = .ok (.iconst 4, 1) := by decide +kernel
theorem dJ6_bitCount_0f7a4_27 : decode cJ6_bitCount_0f7a4 27 = .ok (.iushr, 1) := by decide +kernel
theorem dJ6_bitCount_0f7a4_28 : decode cJ6_bitCount_0f7a4 28 = .ok (.iadd, 1) := by decide +kernel
theorem dJ6_bitCount_0f7a4_29 : decode cJ6_bitCount_0f7a4 29 = .ok (.ldc_w 267, 3) := by decide +kernel
theorem dJ6_bitCount_0f7a4_32 : decode cJ6_bitCount_0f7a4 32 = .ok (.iand, 1) := by decide +kernel
theorem dJ6_bitCount_0f7a4_33 : decode cJ6_bitCount_0f7a4 33 = .ok (.istore_n 0, 1) := by decide +kernel
theorem dJ6_bitCount_0f7a4_34 : decode cJ6_bitCount_0f7a4 34 = .ok (.iload_n 0, 1) := by decide +kernel
theorem dJ6_bitCount_0f7a4_35 : decode cJ6_bitCount_0f7a4 35 = .ok (.iload_n 0, 1) := by decide +kernel
theorem dJ6_bitCount_0f7a4_36 : decode cJ6_bitCount_0f7a4 36 = .ok (.bipush 8, 2) := by decide +kernel
theorem dJ6_bitCount_0f7a4_38 : decode cJ6_bitCount_0f7a4 38 = .ok (.iushr, 1) := by decide +kernel
theorem dJ6_bitCount_0f7a4_39 : decode cJ6_bitCount_0f7a4 39 = .ok (.iadd, 1) := by decide +kernel
theorem dJ6_bitCount_0f7a4_40 : decode cJ6_bitCount_0f7a4 40 = .ok (.istore_n 0, 1) := by decide +kernel
theorem dJ6_bitCount_0f7a4_41 : decode cJ6_bitCount_0f7a4 41 = .ok (.iload_n 0, 1) := by decide +kernel
theorem dJ6_bitCount_0f7a4_42 : decode cJ6_bitCount_0f7a4 42 = .ok (.iload_n 0, 1) := by decide +kernel
theorem dJ6_bitCount_0f7a4_43 : decode cJ6_bitCount_0f7a4 43 = .ok (.bipush 16, 2) := by decide +kernel
theorem dJ6_bitCount_0f7a4_45 : decode cJ6_bitCount_0f7a4 45 = .ok (.iushr, 1) := by decide +kernel
theorem dJ6_bitCount_0f7a4_46 : decode cJ6_bitCount_0f7a4 46 = .ok (.iadd, 1) := by decide +kernel
theorem dJ6_bitCount_0f7a4_47 : decode cJ6_bitCount_0f7a4 47 = .ok (.istore_n 0, 1) := by decide +kernel
theorem dJ6_bitCount_0f7a4_48 : decode cJ6_bitCount_0f7a4 48 = .ok (.iload_n 0, 1) := by decide +kernel
theorem dJ6_bitCount_0f7a4_49 : decode cJ6_bitCount_0f7a4 49 = .ok (.bipush 63, 2) := by decide +kernel
theorem dJ6_bitCount_0f7a4_51 : decode cJ6_bitCount_0f7a4 51 = .ok (.iand, 1) := by decide +kernel
theorem dJ6_bitCount_0f7a4_52 : decode cJ6_bitCount_0f7a4 52 = .ok (.ireturn, 1) := by decide +kernel
theorem dJ9_max_7cf53_0 : decode cJ9_max_7cf53 0 = .ok (.iload_n 0, 1) := by decide +kernel
theorem dJ9_max_7cf53_1 : decode cJ9_max_7cf53 1 = .ok (.iload_n 1, 1) := by decide +kernel
theorem dJ9_max_7cf53_2 : decode cJ9_max_7cf53 2 = .ok (.if_icmp .lt 7, 3) := by decide +kernel
theorem dJ9_max_7cf53_5 : decode cJ9_max_7cf53 5 = .ok (.iload_n 0, 1) := by decide +kernel
theorem dJ9_max_7cf53_6 : decode cJ9_max_7cf53 6 = .ok (.goto 4, 3) := by decide +kernel
theorem dJ9_max_7cf53_9 : decode cJ9_max_7cf53 9 = .ok (.iload_n 1, 1) := by decide +kernel
theorem dJ9_max_7cf53_10 : decode cJ9_max_7cf53 10 = .ok (.ireturn, 1) := by decide +kernel
theorem dJ9_min_7cf53_0 : decode cJ9_min_7cf53 0 = .ok (.iload_n 0, 1) := by decide +kernel
theorem dJ9_min_7cf53_1 : decode cJ9_min_7cf53 1 = .ok (.iload_n 1, 1) := by decide +kernel
theorem dJ9_min_7cf53_2 : decode cJ9_min_7cf53 2 = .ok (.if_icmp .gt 7, 3) := by decide +kernel
theorem dJ9_min_7cf53_5 : decode cJ9_min_7cf53 5 = .ok (.iload_n 0, 1) := by decide +kernel
theorem dJ9_min_7cf53_6 : decode cJ9_min_7cf53 6 = .ok (.goto 4, 3) := by decide +kernel
theorem dJ9_min_7cf53_9 : decode cJ9_min_7cf53 9 = .ok (.iload_n 1, 1) := by decide +kernel
theorem dJ9_min_7cf53_10 : decode cJ9_min_7cf53 10 = .ok (.ireturn, 1) := by decide +kernel
theorem dJ0_length_8abf5_0 : decode cJ0_length_8abf5 0 = .ok (.aload_n 0, 1) := by decide +kernel
theorem dJ0_length_8abf5_1 : decode cJ0_length_8abf5 1 = .ok (.getfield 9, 3) := by decide +kernel
theorem dJ0_length_8abf5_4 : decode cJ0_length_8abf5 4 = .ok (.arraylength, 1) := by decide +kernel
theorem dJ0_length_8abf5_5 : decode cJ0_length_8abf5 5 = .ok (.aload_n 0, 1) := by decide +kernel
theorem dJ0_length_8abf5_6 : decode cJ0_length_8abf5 6 = .ok (.invokevirtual 335, 3) := by decide +kernel
theorem dJ0_length_8abf5_9 : decode cJ0_length_8abf5 9 = .ok (.ishr, 1) := by decide +kernel
theorem dJ0_length_8abf5_10 : decode cJ0_length_8abf5 10 = .ok (.ireturn, 1) := by decide +kernel
theorem dJ0_indexOf_0f7a4_0 : decode cJ0_indexOf_0f7a4 0 = .ok (.aload_n 0, 1) := by decide +kernel
theorem dJ0_indexOf_0f7a4_1 : decode cJ0_indexOf_0f7a4 1 = .ok (.iload_n 1, 1) := by decide +kernel
theorem dJ0_indexOf_0f7a4_2 : decode cJ0_indexOf_0f7a4 2 = .ok (.iconst 0, 1) := by decide +kernel
theorem dJ0_indexOf_0f7a4_3 : decode cJ0_indexOf_0f7a4 3 = .ok (.invokevirtual 633, 3) := by decide +kernel
theorem dJ0_indexOf_0f7a4_6 : decode cJ0_indexOf_0f7a4 6 = .ok (.ireturn, 1) := by decide +kernel
theorem dJ0_indexOf_7cf53_0 : decode cJ0_indexOf_7cf53 0 = .ok (.aload_n 0, 1) := by decide +kernel
theorem dJ0_indexOf_7cf53_1 : decode cJ0_indexOf_7cf53 1 = .ok (.invokevirtual 492, 3) := by decide +kernel
theorem dJ0_indexOf_7cf53_4 : decode cJ0_indexOf_7cf53 4 = .ok (.ifCond .eq 19, 3) := by decide +kernel
theorem dJ0_indexOf_7cf53_7 : decode cJ0_indexOf_7cf53 7 = .ok (.aload_n 0, 1) := by decide +kernel
theorem dJ0_indexOf_7cf53_8 : decode cJ0_indexOf_7cf53 8 = .ok (.getfield 9, 3) := by decide +kernel
theorem dJ0_indexOf_7cf53_11 : decode cJ0_indexOf_7cf53 11 = .ok (.iload_n 1, 1) := by decide +kernel
theorem dJ0_indexOf_7cf53_12 : decode cJ0_indexOf_7cf53 12 = .ok (.iload_n 2, 1) := by decide +kernel
theorem dJ0_indexOf_7cf53_13 : decode cJ0_indexOf_7cf53 13 = .ok (.aload_n 0, 1) := by decide +kernel
theorem dJ0_indexOf_7cf53_14 : decode cJ0_indexOf_7cf53 14 = .ok (.invokevirtual 505, 3) := by decide +kernel
theorem dJ0_indexOf_7cf53_17 : decode cJ0_indexOf_7cf53 17 = .ok (.invokestatic 637, 3) := by decide +kernel
theorem dJ0_indexOf_7cf53_20 : decode cJ0_indexOf_7cf53 20 = .ok (.goto 16, 3) := by decide +kernel
theorem dJ0_indexOf_7cf53_23 : decode cJ0_indexOf_7cf53 23 = .ok (.aload_n 0, 1) := by decide +kernel
theorem dJ0_indexOf_7cf53_24 : decode cJ0_indexOf_7cf53 24 = .ok (.getfield 9, 3) := by decide +kernel
theorem dJ0_indexOf_7cf53_27 : decode cJ0_indexOf_7cf53 27 = .ok (.iload_n 1, 1) := by decide +kernel
theorem dJ0_indexOf_7cf53_28 : decode cJ0_indexOf_7cf53 28 = .ok (.iload_n 2, 1) := by decide +kernel
theorem dJ0_indexOf_7cf53_29 : decode cJ0_indexOf_7cf53 29 = .ok (.aload_n 0, 1) := by decide +kernel
theorem dJ0_indexOf_7cf53_30 : decode cJ0_indexOf_7cf53 30 = .ok (.invokevirtual 505, 3) := by decide +kernel
theorem dJ0_indexOf_7cf53_33 : decode cJ0_indexOf_7cf53 33 = .ok (.invokestatic 640, 3) := by decide +kernel
theorem dJ0_indexOf_7cf53_36 : decode cJ0_indexOf_7cf53 36 = .ok (.ireturn, 1) := by decide +kernel
theorem dJ0_coder_7d493_0 : decode cJ0_coder_7d493 0 = .ok (.getstatic 38, 3) := by decide +kernel
theorem dJ0_coder_7d493_3 : decode cJ0_coder_7d493 3 = .ok (.ifCond .eq 10, 3) := by decide +kernel
theorem dJ0_coder_7d493_6 : decode cJ0_coder_7d493 6 = .ok (.aload_n 0, 1) := by decide +kernel
theorem dJ0_coder_7d493_7 : decode cJ0_coder_7d493 7 = .ok (.getfield 15, 3) := by decide +kernel
theorem dJ0_coder_7d493_10 : decode cJ0_coder_7d493 10 = .ok (.goto 4, 3) := by decide +kernel
theorem dJ0_coder_7d493_13 : decode cJ0_coder_7d493 13 = .ok (.iconst 1, 1) := by decide +kernel
theorem dJ0_coder_7d493_14 : decode cJ0_coder_7d493 14 = .ok (.ireturn, 1) := by decide +kernel
theorem dJ0_isLatin1_aae02_0 : decode cJ0_isLatin1_aae02 0 = .ok (.getstatic 38, 3) := by decide +kernel
theorem dJ0_isLatin1_aae02_3 : decode cJ0_isLatin1_aae02 3 = .ok (.ifCond .eq 14, 3) := by decide +kernel
theorem dJ0_isLatin1_aae02_6 : decode cJ0_isLatin1_aae02 6 = .ok (.aload_n 0, 1) := by decide +kernel
theorem dJ0_isLatin1_aae02_7 : decode cJ0_isLatin1_aae02 7 = .ok (.getfield 15, 3) := by decide +kernel
theorem dJ0_isLatin1_aae02_10 : decode cJ0_isLatin1_aae02 10 = .ok (.ifCond .ne 7, 3) := by decide +kernel
theorem dJ0_isLatin1_aae02_13 : decode cJ0_isLatin1_aae02 13 = .ok (.iconst 1, 1) := by decide +kernel
theorem dJ0_isLatin1_aae02_14 : decode cJ0_isLatin1_aae02 14 = .ok (.goto 4, 3) := by decide +kernel
theorem dJ0_isLatin1_aae02_17 : decode cJ0_isLatin1_aae02 17 = .ok (.iconst 0, 1) := by decide +kernel
theorem dJ0_isLatin1_aae02_18 : decode cJ0_isLatin1_aae02 18 = .ok (.ireturn, 1) := by decide +kernel
theorem dJ0_checkBoundsBeginEnd_23922_0 : decode cJ0_checkBoundsBeginEnd_23922 0 = .ok (.iload_n 0, 1) := by decide +kernel
theorem dJ0_checkBoundsBeginEnd_23922_1 : decode cJ0_checkBoundsBeginEnd_23922 1 = .ok (.iload_n 1, 1) := by decide +kernel
theorem dJ0_checkBoundsBeginEnd_23922_2 : decode cJ0_checkBoundsBeginEnd_23922 2 = .ok (.iload_n 2, 1) := by decide +kernel
theorem dJ0_checkBoundsBeginEnd_23922_3 : decode cJ0_checkBoundsBeginEnd_23922 3 = .ok (.getstatic 1053, 3) := by decide +kernel
theorem dJ0_checkBoundsBeginEnd_23922_6 : decode cJ0_checkBoundsBeginEnd_23922 6 = .ok (.invokestatic 1062, 3) := by decide +kernel
theorem dJ0_checkBoundsBeginEnd_23922_9 : decode cJ0_checkBoundsBeginEnd_23922 9 = .ok (.pop, 1) := by decide +kernel
theorem dJ0_checkBoundsBeginEnd_23922_10 : decode cJ0_checkBoundsBeginEnd_23922 10 = .ok (.return_, 1) := by decide +kernel
theorem dJ1_canEncode_9a6ad_0 : decode cJ1_canEncode_9a6ad 0 = .ok (.iload_n 0, 1) := by decide +kernel
theorem dJ1_canEncode_9a6ad_1 : decode cJ1_canEncode_9a6ad 1 = .ok (.ifCond .lt 14, 3) := by decide +kernel
theorem dJ1_canEncode_9a6ad_4 : decode cJ1_canEncode_9a6ad 4 = .ok (.iload_n 0, 1) := by decide +kernel
theorem dJ1_canEncode_9a6ad_5 : decode cJ1_canEncode_9a6ad 5 = .ok (.sipush 255, 3) := by decide +kernel
theorem dJ1_canEncode_9a6ad_8 : decode cJ1_canEncode_9a6ad 8 = .ok (.if_icmp .gt 7, 3) := by decide +kernel
theorem dJ1_canEncode_9a6ad_11 : decode cJ1_canEncode_9a6ad 11 = .ok (.iconst 1, 1) := by decide +kernel
theorem dJ1_canEncode_9a6ad_12 : decode cJ1_canEncode_9a6ad 12 = .ok (.goto 4, 3) := by decide +kernel
theorem dJ1_canEncode_9a6ad_15 : decode cJ1_canEncode_9a6ad 15 = .ok (.iconst 0, 1) := by decide +kernel
theorem dJ1_canEncode_9a6ad_16 : decode cJ1_canEncode_9a6ad 16 = .ok (.ireturn, 1) := by decide +kernel
theorem dJ1_indexOf_4cfef_0 : decode cJ1_indexOf_4cfef 0 = .ok (.iload_n 1, 1) := by decide +kernel
theorem dJ1_indexOf_4cfef_1 : decode cJ1_indexOf_4cfef 1 = .ok (.invokestatic 88, 3) := by decide +kernel
theorem dJ1_indexOf_4cfef_4 : decode cJ1_indexOf_4cfef 4 = .ok (.ifCond .ne 5, 3) := by decide +kernel
theorem dJ1_indexOf_4cfef_7 : decode cJ1_indexOf_4cfef 7 = .ok (.iconst (-1), 1) := by decide +kernel
theorem dJ1_indexOf_4cfef_8 : decode cJ1_indexOf_4cfef 8 = .ok (.ireturn, 1) := by decide +kernel
theorem dJ1_indexOf_4cfef_9 : decode cJ1_indexOf_4cfef 9 = .ok (.iload_n 2, 1) := by decide +kernel
theorem dJ1_indexOf_4cfef_10 : decode cJ1_indexOf_4cfef 10 = .ok (.iconst 0, 1) := by decide +kernel
theorem dJ1_indexOf_4cfef_11 : decode cJ1_indexOf_4cfef 11 = .ok (.invokestatic 92, 3) := by decide +kernel
theorem dJ1_indexOf_4cfef_14 : decode cJ1_indexOf_4cfef 14 = .ok (.istore_n 2, 1) := by decide +kernel
theorem dJ1_indexOf_4cfef_15 : decode cJ1_indexOf_4cfef 15 = .ok (.iload_n 3, 1) := by decide +kernel
theorem dJ1_indexOf_4cfef_16 : decode cJ1_indexOf_4cfef 16 = .ok (.aload_n 0, 1) := by decide +kernel
theorem dJ1_indexOf_4cfef_17 : decode cJ1_indexOf_4cfef 17 = .ok (.arraylength, 1) := by decide +kernel
theorem dJ1_indexOf_4cfef_18 : decode cJ1_indexOf_4cfef 18 = .ok (.invokestatic 38, 3) := by decide +kernel
theorem dJ1_indexOf_4cfef_21 : decode cJ1_indexOf_4cfef 21 = .ok (.istore_n 3, 1) := by decide +kernel
theorem dJ1_indexOf_4cfef_22 : decode cJ1_indexOf_4cfef 22 = .ok (.iload_n 2, 1) := by decide +kernel
theorem dJ1_indexOf_4cfef_23 : decode cJ1_indexOf_4cfef 23 = .ok (.iload_n 3, 1) := by decide +kernel
theorem dJ1_indexOf_4cfef_24 : decode cJ1_indexOf_4cfef 24 = .ok (.if_icmp .lt 5, 3) := by decide +kernel
theorem dJ1_indexOf_4cfef_27 : decode cJ1_indexOf_4cfef 27 = .ok (.iconst (-1), 1) := by decide +kernel
theorem dJ1_indexOf_4cfef_28 : decode cJ1_indexOf_4cfef 28 = .ok (.ireturn, 1) := by decide +kernel
theorem dJ1_indexOf_4cfef_29 : decode cJ1_indexOf_4cfef 29 = .ok (.aload_n 0, 1) := by decide +kernel
theorem dJ1_indexOf_4cfef_30 : decode cJ1_indexOf_4cfef 30 = .ok (.iload_n 1, 1) := by decide +kernel
theorem dJ1_indexOf_4cfef_31 : decode cJ1_indexOf_4cfef 31 = .ok (.iload_n 2, 1) := by decide +kernel
theorem dJ1_indexOf_4cfef_32 : decode cJ1_indexOf_4cfef 32 = .ok (.iload_n 3, 1) := by decide +kernel
theorem dJ1_indexOf_4cfef_33 : decode cJ1_indexOf_4cfef 33 = .ok (.invokestatic 95, 3) := by decide +kernel
theorem dJ1_indexOf_4cfef_36 : decode cJ1_indexOf_4cfef 36 = .ok (.ireturn, 1) := by decide +kernel
theorem dJ1_indexOfChar_4cfef_0 : decode cJ1_indexOfChar_4cfef 0 = .ok (.iload_n 1, 1) := by decide +kernel
theorem dJ1_indexOfChar_4cfef_1 : decode cJ1_indexOfChar_4cfef 1 = .ok (.i2b, 1) := by decide +kernel
theorem dJ1_indexOfChar_4cfef_2 : decode cJ1_indexOfChar_4cfef 2 = .ok (.istore 4, 2) := by decide +kernel
theorem dJ1_indexOfChar_4cfef_4 : decode cJ1_indexOfChar_4cfef 4 = .ok (.iload_n 2, 1) := by decide +kernel
theorem dJ1_indexOfChar_4cfef_5 : decode cJ1_indexOfChar_4cfef 5 = .ok (.istore 5, 2) := by decide +kernel
theorem dJ1_indexOfChar_4cfef_7 : decode cJ1_indexOfChar_4cfef 7 = .ok (.iload 5, 2) := by decide +kernel
theorem dJ1_indexOfChar_4cfef_9 : decode cJ1_indexOfChar_4cfef 9 = .ok (.iload_n 3, 1) := by decide +kernel
theorem dJ1_indexOfChar_4cfef_10 : decode cJ1_indexOfChar_4cfef 10 = .ok (.if_icmp .ge 21, 3) := by decide +kernel
theorem dJ1_indexOfChar_4cfef_13 : decode cJ1_indexOfChar_4cfef 13 = .ok (.aload_n 0, 1) := by decide +kernel
theorem dJ1_indexOfChar_4cfef_14 : decode cJ1_indexOfChar_4cfef 14 = .ok (.iload 5, 2) := by decide +kernel
theorem dJ1_indexOfChar_4cfef_16 : decode cJ1_indexOfChar_4cfef 16 = .ok (.baload, 1) := by decide +kernel
theorem dJ1_indexOfChar_4cfef_17 : decode cJ1_indexOfChar_4cfef 17 = .ok (.iload 4, 2) := by decide +kernel
theorem dJ1_indexOfChar_4cfef_19 : decode cJ1_indexOfChar_4cfef 19 = .ok (.if_icmp .ne 6, 3) := by decide +kernel
theorem dJ1_indexOfChar_4cfef_22 : decode cJ1_indexOfChar_4cfef 22 = .ok (.iload 5, 2) := by decide +kernel
theorem dJ1_indexOfChar_4cfef_24 : decode cJ1_indexOfChar_4cfef 24 = .ok (.ireturn, 1) := by decide +kernel
theorem dJ1_indexOfChar_4cfef_25 : decode cJ1_indexOfChar_4cfef 25 = .ok (.iinc 5 1, 3) := by decide +kernel
theorem dJ1_indexOfChar_4cfef_28 : decode cJ1_indexOfChar_4cfef 28 = .ok (.goto (-21), 3) := by decide +kernel
theorem dJ1_indexOfChar_4cfef_31 : decode cJ1_indexOfChar_4cfef 31 = .ok (.iconst (-1), 1) := by decide +kernel
theorem dJ1_indexOfChar_4cfef_32 : decode cJ1_indexOfChar_4cfef 32 = .ok (.ireturn, 1) := by decide +kernel
theorem dJ2_getChar_3b067_0 : decode cJ2_getChar_3b067 0 = .ok (.getstatic 44, 3) := by decide +kernel
theorem dJ2_getChar_3b067_3 : decode cJ2_getChar_3b067 3 = .ok (.ifCond .ne 25, 3) := by decide +kernel
theorem dJ2_getChar_3b067_6 : decode cJ2_getChar_3b067 6 = .ok (.iload_n 1, 1) := by decide +kernel
theorem dJ2_getChar_3b067_7 : decode cJ2_getChar_3b067 7 = .ok (.ifCond .lt 11, 3) := by decide +kernel
theorem dJ2_getChar_3b067_10 : decode cJ2_getChar_3b067 10 = .ok (.iload_n 1, 1) := by decide +kernel
theorem dJ2_getChar_3b067_11 : decode cJ2_getChar_3b067 11 = .ok (.aload_n 0, 1) := by decide +kernel
theorem dJ2_getChar_3b067_12 : decode cJ2_getChar_3b067 12 = .ok (.invokestatic 48, 3) := by decide +kernel
theorem dJ2_getChar_3b067_15 : decode cJ2_getChar_3b067 15 = .ok (.if_icmp .lt 13, 3) := by decide +kernel
theorem dJ2_getChar_3b067_18 : decode cJ2_getChar_3b067 18 = .ok (.new 52, 3) := by decide +kernel
theorem dJ2_getChar_3b067_21 : decode cJ2_getChar_3b067 21 = .ok (.dup, 1) := by decide +kernel
theorem dJ2_getChar_3b067_22 : decode cJ2_getChar_3b067 22 = .ok (.ldc 54, 2) := by decide +kernel
theorem dJ2_getChar_3b067_24 : decode cJ2_getChar_3b067 24 = .ok (.invokespecial 56, 3) := by decide +kernel
theorem dJ2_getChar_3b067_27 : decode cJ2_getChar_3b067 27 = .ok (.athrow, 1) := by decide +kernel
theorem dJ2_getChar_3b067_28 : decode cJ2_getChar_3b067 28 = .ok (.iload_n 1, 1) := by decide +kernel
theorem dJ2_getChar_3b067_29 : decode cJ2_getChar_3b067 29 = .ok (.iconst 1, 1) := by decide +kernel
theorem dJ2_getChar_3b067_30 : decode cJ2_getChar_3b067 30 = .ok (.ishl, 1) := by decide +kernel
theorem dJ2_getChar_3b067_31 : decode cJ2_getChar_3b067 31 = .ok (.istore_n 1, 1) := by decide +kernel
theorem dJ2_getChar_3b067_32 : decode cJ2_getChar_3b067 32 = .ok (.aload_n 0, 1) := by decide +kernel
theorem dJ2_getChar_3b067_33 : decode cJ2_getChar_3b067 33 = .ok (.iload_n 1, 1) := by decide +kernel
theorem dJ2_getChar_3b067_34 : decode cJ2_getChar_3b067 34 = .ok (.iinc 1 1, 3) := by decide +kernel
theorem dJ2_getChar_3b067_37 : decode cJ2_getChar_3b067 37 = .ok (.baload, 1) := by decide +kernel
theorem dJ2_getChar_3b067_38 : decode cJ2_getChar_3b067 38 = .ok (.sipush 255, 3) := by decide +kernel
theorem dJ2_getChar_3b067_41 : decode cJ2_getChar_3b067 41 = .ok (.iand, 1) := by decide +kernel
theorem dJ2_getChar_3b067_42 : decode cJ2_getChar_3b067 42 = .ok (.getstatic 59, 3) := by decide +kernel
theorem dJ2_getChar_3b067_45 : decode cJ2_getChar_3b067 45 = .ok (.ishl, 1) := by decide +kernel
theorem dJ2_getChar_3b067_46 : decode cJ2_getChar_3b067 46 = .ok (.aload_n 0, 1) := by decide +kernel
theorem dJ2_getChar_3b067_47 : decode cJ2_getChar_3b067 47 = .ok (.iload_n 1, 1) := by decide +kernel
theorem dJ2_getChar_3b067_48 : decode cJ2_getChar_3b067 48 = .ok (.baload, 1) := by decide +kernel
theorem dJ2_getChar_3b067_49 : decode cJ2_getChar_3b067 49 = .ok (.sipush 255, 3) := by decide +kernel
theorem dJ2_getChar_3b067_52 : decode cJ2_getChar_3b067 52 = .ok (.iand, 1) := by decide +kernel
theorem dJ2_getChar_3b067_53 : decode cJ2_getChar_3b067 53 = .ok (.getstatic 63, 3) := by decide +kernel
theorem dJ2_getChar_3b067_56 : decode cJ2_getChar_3b067 56 = .ok (.ishl, 1) := by decide +kernel
theorem dJ2_getChar_3b067_57 : decode cJ2_getChar_3b067 57 = .ok (.ior, 1) := by decide +kernel
theorem dJ2_getChar_3b067_58 : decode cJ2_getChar_3b067 58 = .ok (.i2c, 1) := by decide +kernel
theorem dJ2_getChar_3b067_59 : decode cJ2_getChar_3b067 59 = .ok (.ireturn, 1) := by decide +kernel
theorem dJ2_length_9d52b_0 : decode cJ2_length_9d52b 0 = .ok (.aload_n 0, 1) := by decide +kernel
theorem dJ2_length_9d52b_1 : decode cJ2_length_9d52b 1 = .ok (.arraylength, 1) := by decide +kernel
theorem dJ2_length_9d52b_2 : decode cJ2_length_9d52b 2 = .ok (.iconst 1, 1) := by decide +kernel
theorem dJ2_length_9d52b_3 : decode cJ2_length_9d52b 3 = .ok (.ishr, 1) := by decide +kernel
theorem dJ2_length_9d52b_4 : decode cJ2_length_9d52b 4 = .ok (.ireturn, 1) := by decide +kernel
theorem dJ2_indexOf_4cfef_0 : decode cJ2_indexOf_4cfef 0 = .ok (.iload_n 2, 1) := by decide +kernel
theorem dJ2_indexOf_4cfef_1 : decode cJ2_indexOf_4cfef 1 = .ok (.iconst 0, 1) := by decide +kernel
theorem dJ2_indexOf_4cfef_2 : decode cJ2_indexOf_4cfef 2 = .ok (.invokestatic 224, 3) := by decide +kernel
theorem dJ2_indexOf_4cfef_5 : decode cJ2_indexOf_4cfef 5 = .ok (.istore_n 2, 1) := by decide +kernel
theorem dJ2_indexOf_4cfef_6 : decode cJ2_indexOf_4cfef 6 = .ok (.iload_n 3, 1) := by decide +kernel
theorem dJ2_indexOf_4cfef_7 : decode cJ2_indexOf_4cfef 7 = .ok (.aload_n 0, 1) := by decide +kernel
theorem dJ2_indexOf_4cfef_8 : decode cJ2_indexOf_4cfef 8 = .ok (.arraylength, 1) := by decide +kernel
theorem dJ2_indexOf_4cfef_9 : decode cJ2_indexOf_4cfef 9 = .ok (.iconst 1, 1) := by decide +kernel
theorem dJ2_indexOf_4cfef_10 : decode cJ2_indexOf_4cfef 10 = .ok (.ishr, 1) := by decide +kernel
theorem dJ2_indexOf_4cfef_11 : decode cJ2_indexOf_4cfef 11 = .ok (.invokestatic 183, 3) := by decide +kernel
theorem dJ2_indexOf_4cfef_14 : decode cJ2_indexOf_4cfef 14 = .ok (.istore_n 3, 1) := by decide +kernel
theorem dJ2_indexOf_4cfef_15 : decode cJ2_indexOf_4cfef 15 = .ok (.iload_n 2, 1) := by decide +kernel
theorem dJ2_indexOf_4cfef_16 : decode cJ2_indexOf_4cfef 16 = .ok (.iload_n 3, 1) := by decide +kernel
theorem dJ2_indexOf_4cfef_17 : decode cJ2_indexOf_4cfef 17 = .ok (.if_icmp .lt 5, 3) := by decide +kernel
theorem dJ2_indexOf_4cfef_20 : decode cJ2_indexOf_4cfef 20 = .ok (.iconst (-1), 1) := by decide +kernel
theorem dJ2_indexOf_4cfef_21 : decode cJ2_indexOf_4cfef 21 = .ok (.ireturn, 1) := by decide +kernel
theorem dJ2_indexOf_4cfef_22 : decode cJ2_indexOf_4cfef 22 = .ok (.iload_n 1, 1) := by decide +kernel
theorem dJ2_indexOf_4cfef_23 : decode cJ2_indexOf_4cfef 23 = .ok (.ldc 227, 2) := by decide +kernel
theorem dJ2_indexOf_4cfef_25 : decode cJ2_indexOf_4cfef 25 = .ok (.if_icmp .ge 11, 3) := by decide +kernel
theorem dJ2_indexOf_4cfef_28 : decode cJ2_indexOf_4cfef 28 = .ok (.aload_n 0, 1) := by decide +kernel
theorem dJ2_indexOf_4cfef_29 : decode cJ2_indexOf_4cfef 29 = .ok (.iload_n 1, 1) := by decide +kernel
theorem dJ2_indexOf_4cfef_30 : decode cJ2_indexOf_4cfef 30 = .ok (.iload_n 2, 1) := by decide +kernel
theorem dJ2_indexOf_4cfef_31 : decode cJ2_indexOf_4cfef 31 = .ok (.iload_n 3, 1) := by decide +kernel
theorem dJ2_indexOf_4cfef_32 : decode cJ2_indexOf_4cfef 32 = .ok (.invokestatic 228, 3) := by decide +kernel
theorem dJ2_indexOf_4cfef_35 : decode cJ2_indexOf_4cfef 35 = .ok (.ireturn, 1) := by decide +kernel
theorem dJ2_indexOf_4cfef_36 : decode cJ2_indexOf_4cfef 36 = .ok (.aload_n 0, 1) := by decide +kernel
theorem dJ2_indexOf_4cfef_37 : decode cJ2_indexOf_4cfef 37 = .ok (.iload_n 1, 1) := by decide +kernel
theorem dJ2_indexOf_4cfef_38 : decode cJ2_indexOf_4cfef 38 = .ok (.iload_n 2, 1) := by decide +kernel
theorem dJ2_indexOf_4cfef_39 : decode cJ2_indexOf_4cfef 39 = .ok (.iload_n 3, 1) := by decide +kernel
theorem dJ2_indexOf_4cfef_40 : decode cJ2_indexOf_4cfef 40 = .ok (.invokestatic 232, 3) := by decide +kernel
theorem dJ2_indexOf_4cfef_43 : decode cJ2_indexOf_4cfef 43 = .ok (.ireturn, 1) := by decide +kernel
theorem dJ2_indexOfChar_4cfef_0 : decode cJ2_indexOfChar_4cfef 0 = .ok (.iload_n 2, 1) := by decide +kernel
theorem dJ2_indexOfChar_4cfef_1 : decode cJ2_indexOfChar_4cfef 1 = .ok (.iload_n 3, 1) := by decide +kernel
theorem dJ2_indexOfChar_4cfef_2 : decode cJ2_indexOfChar_4cfef 2 = .ok (.aload_n 0, 1) := by decide +kernel
theorem dJ2_indexOfChar_4cfef_3 : decode cJ2_indexOfChar_4cfef 3 = .ok (.invokestatic 96, 3) := by decide +kernel
theorem dJ2_indexOfChar_4cfef_6 : decode cJ2_indexOfChar_4cfef 6 = .ok (.aload_n 0, 1) := by decide +kernel
theorem dJ2_indexOfChar_4cfef_7 : decode cJ2_indexOfChar_4cfef 7 = .ok (.iload_n 1, 1) := by decide +kernel
theorem dJ2_indexOfChar_4cfef_8 : decode cJ2_indexOfChar_4cfef 8 = .ok (.iload_n 2, 1) := by decide +kernel
theorem dJ2_indexOfChar_4cfef_9 : decode cJ2_indexOfChar_4cfef 9 = .ok (.iload_n 3, 1) := by decide +kernel
theorem dJ2_indexOfChar_4cfef_10 : decode cJ2_indexOfChar_4cfef 10 = .ok (.invokestatic 244, 3) := by decide +kernel
theorem dJ2_indexOfChar_4cfef_13 : decode cJ2_indexOfChar_4cfef 13 = .ok (.ireturn, 1) := by decide +kernel
theorem dJ2_indexOfCharUnsafe_4cfef_0 : decode cJ2_indexOfCharUnsafe_4cfef 0 = .ok (.iload_n 2, 1) := by decide +kernel
theorem dJ2_indexOfCharUnsafe_4cfef_1 : decode cJ2_indexOfCharUnsafe_4cfef 1 = .ok (.istore 4, 2) := by decide +kernel
theorem dJ2_indexOfCharUnsafe_4cfef_3 : decode cJ2_indexOfCharUnsafe_4cfef 3 = .ok (.iload 4, 2) := by decide +kernel
theorem dJ2_indexOfCharUnsafe_4cfef_5 : decode cJ2_indexOfCharUnsafe_4cfef 5 = .ok (.iload_n 3, 1) := by decide +kernel
theorem dJ2_indexOfCharUnsafe_4cfef_6 : decode cJ2_indexOfCharUnsafe_4cfef 6 = .ok (.if_icmp .ge 22, 3) := by decide +kernel
theorem dJ2_indexOfCharUnsafe_4cfef_9 : decode cJ2_indexOfCharUnsafe_4cfef 9 = .ok (.aload_n 0, 1) := by decide +kernel
theorem dJ2_indexOfCharUnsafe_4cfef_10 : decode cJ2_indexOfCharUnsafe_4cfef 10 = .ok (.iload 4, 2) := by decide +kernel
theorem dJ2_indexOfCharUnsafe_4cfef_12 : decode cJ2_indexOfCharUnsafe_4cfef 12 = .ok (.invokestatic 71, 3) := by decide +kernel
theorem dJ2_indexOfCharUnsafe_4cfef_15 : decode cJ2_indexOfCharUnsafe_4cfef 15 = .ok (.iload_n 1, 1) := by decide +kernel
theorem dJ2_indexOfCharUnsafe_4cfef_16 : decode cJ2_indexOfCharUnsafe_4cfef 16 = .ok (.if_icmp .ne 6, 3) := by decide +kernel
theorem dJ2_indexOfCharUnsafe_4cfef_19 : decode cJ2_indexOfCharUnsafe_4cfef 19 = .ok (.iload 4, 2) := by decide +kernel
theorem dJ2_indexOfCharUnsafe_4cfef_21 : decode cJ2_indexOfCharUnsafe_4cfef 21 = .ok (.ireturn, 1) := by decide +kernel
theorem dJ2_indexOfCharUnsafe_4cfef_22 : decode cJ2_indexOfCharUnsafe_4cfef 22 = .ok (.iinc 4 1, 3) := by decide +kernel
theorem dJ2_indexOfCharUnsafe_4cfef_25 : decode cJ2_indexOfCharUnsafe_4cfef 25 = .ok (.goto (-22), 3) := by decide +kernel
theorem dJ2_indexOfCharUnsafe_4cfef_28 : decode cJ2_indexOfCharUnsafe_4cfef 28 = .ok (.iconst (-1), 1) := by decide +kernel
theorem dJ2_indexOfCharUnsafe_4cfef_29 : decode cJ2_indexOfCharUnsafe_4cfef 29 = .ok (.ireturn, 1) := by decide +kernel
theorem dJ2_indexOfSupplementary_4cfef_0 : decode cJ2_indexOfSupplementary_4cfef 0 = .ok (.iload_n 1, 1) := by decide +kernel
theorem dJ2_indexOfSupplementary_4cfef_1 : decode cJ2_indexOfSupplementary_4cfef 1 = .ok (.invokestatic 164, 3) := by decide +kernel
theorem dJ2_indexOfSupplementary_4cfef_4 : decode cJ2_indexOfSupplementary_4cfef 4 = .ok (.ifCond .eq 65, 3) := by decide +kernel
theorem dJ2_indexOfSupplementary_4cfef_7 : decode cJ2_indexOfSupplementary_4cfef 7 = .ok (.iload_n 1, 1) := by decide +kernel
theorem dJ2_indexOfSupplementary_4cfef_8 : decode cJ2_indexOfSupplementary_4cfef 8 = .ok (.invokestatic 157, 3) := by decide +kernel
theorem dJ2_indexOfSupplementary_4cfef_11 : decode cJ2_indexOfSupplementary_4cfef 11 = .ok (.istore 4, 2) := by decide +kernel
theorem dJ2_indexOfSupplementary_4cfef_13 : decode cJ2_indexOfSupplementary_4cfef 13 = .ok (.iload_n 1, 1) := by decide +kernel
theorem dJ2_indexOfSupplementary_4cfef_14 : decode cJ2_indexOfSupplementary_4cfef 14 = .ok (.invokestatic 161, 3) := by decide +kernel
theorem dJ2_indexOfSupplementary_4cfef_17 : decode cJ2_indexOfSupplementary_4cfef 17 = .ok (.istore 5, 2) := by decide +kernel
theorem dJ2_indexOfSupplementary_4cfef_19 : decode cJ2_indexOfSupplementary_4cfef 19 = .ok (.iload_n 2, 1) := by decide +kernel
theorem dJ2_indexOfSupplementary_4cfef_20 : decode cJ2_indexOfSupplementary_4cfef 20 = .ok (.iload_n 3, 1) := by decide +kernel
theorem dJ2_indexOfSupplementary_4cfef_21 : decode cJ2_indexOfSupplementary_4cfef 21 = .ok (.aload_n 0, 1) := by decide +kernel
theorem dJ2_indexOfSupplementary_4cfef_22 : decode cJ2_indexOfSupplementary_4cfef 22 = .ok (.invokestatic 96, 3) := by decide +kernel
theorem dJ2_indexOfSupplementary_4cfef_25 : decode cJ2_indexOfSupplementary_4cfef 25 = .ok (.iload_n 2, 1) := by decide +kernel
theorem dJ2_indexOfSupplementary_4cfef_26 : decode cJ2_indexOfSupplementary_4cfef 26 = .ok (.istore 6, 2) := by decide +kernel
theorem dJ2_indexOfSupplementary_4cfef_28 : decode cJ2_indexOfSupplementary_4cfef 28 = .ok (.iload 6, 2) := by decide +kernel
theorem dJ2_indexOfSupplementary_4cfef_30 : decode cJ2_indexOfSupplementary_4cfef 30 = .ok (.iload_n 3, 1) := by decide +kernel
theorem dJ2_indexOfSupplementary_4cfef_31 : decode cJ2_indexOfSupplementary_4cfef 31 = .ok (.iconst 1, 1) := by decide +kernel
theorem dJ2_indexOfSupplementary_4cfef_32 : decode cJ2_indexOfSupplementary_4cfef 32 = .ok (.isub, 1) := by decide +kernel
theorem dJ2_indexOfSupplementary_4cfef_33 : decode cJ2_indexOfSupplementary_4cfef 33 = .ok (.if_icmp .ge 36, 3) := by decide +kernel
theorem dJ2_indexOfSupplementary_4cfef_36 : decode cJ2_indexOfSupplementary_4cfef 36 = .ok (.aload_n 0, 1) := by decide +kernel
theorem dJ2_indexOfSupplementary_4cfef_37 : decode cJ2_indexOfSupplementary_4cfef 37 = .ok (.iload 6, 2) := by decide +kernel
theorem dJ2_indexOfSupplementary_4cfef_39 : decode cJ2_indexOfSupplementary_4cfef 39 = .ok (.invokestatic 71, 3) := by decide +kernel
theorem dJ2_indexOfSupplementary_4cfef_42 : decode cJ2_indexOfSupplementary_4cfef 42 = .ok (.iload 4, 2) := by decide +kernel
theorem dJ2_indexOfSupplementary_4cfef_44 : decode cJ2_indexOfSupplementary_4cfef 44 = .ok (.if_icmp .ne 19, 3) := by decide +kernel
theorem dJ2_indexOfSupplementary_4cfef_47 : decode cJ2_indexOfSupplementary_4cfef 47 = .ok (.aload_n 0, 1) := by decide +kernel
theorem dJ2_indexOfSupplementary_4cfef_48 : decode cJ2_indexOfSupplementary_4cfef 48 = .ok (.iload 6, 2) := by decide +kernel
theorem dJ2_indexOfSupplementary_4cfef_50 : decode cJ2_indexOfSupplementary_4cfef 50 = .ok (.iconst 1, 1) := by decide +kernel
theorem dJ2_indexOfSupplementary_4cfef_51 : decode cJ2_indexOfSupplementary_4cfef 51 = .ok (.iadd, 1) := by decide +kernel
theorem dJ2_indexOfSupplementary_4cfef_52 : decode cJ2_indexOfSupplementary_4cfef 52 = .ok (.invokestatic 71, 3) := by decide +kernel
theorem dJ2_indexOfSupplementary_4cfef_55 : decode cJ2_indexOfSupplementary_4cfef 55 = .ok (.iload 5, 2) := by decide +kernel
theorem dJ2_indexOfSupplementary_4cfef_57 : decode cJ2_indexOfSupplementary_4cfef 57 = .ok (.if_icmp .ne 6, 3) := by decide +kernel
theorem dJ2_indexOfSupplementary_4cfef_60 : decode cJ2_indexOfSupplementary_4cfef 60 = .ok (.iload 6, 2) := by decide +kernel
theorem dJ2_indexOfSupplementary_4cfef_62 : decode cJ2_indexOfSupplementary_4cfef 62 = .ok (.ireturn, 1) := by decide +kernel
theorem dJ2_indexOfSupplementary_4cfef_63 : decode cJ2_indexOfSupplementary_4cfef 63 = .ok (.iinc 6 1, 3) := by decide +kernel
theorem dJ2_indexOfSupplementary_4cfef_66 : decode cJ2_indexOfSupplementary_4cfef 66 = .ok (.goto (-38), 3) := by decide +kernel
theorem dJ2_indexOfSupplementary_4cfef_69 : decode cJ2_indexOfSupplementary_4cfef 69 = .ok (.iconst (-1), 1) := by decide +kernel
theorem dJ2_indexOfSupplementary_4cfef_70 : decode cJ2_indexOfSupplementary_4cfef 70 = .ok (.ireturn, 1) := by decide +kernel
theorem dJ2_checkBoundsBeginEnd_d044e_0 : decode cJ2_checkBoundsBeginEnd_d044e 0 = .ok (.iload_n 0, 1) := by decide +kernel
theorem dJ2_checkBoundsBeginEnd_d044e_1 : decode cJ2_checkBoundsBeginEnd_d044e 1 = .ok (.iload_n 1, 1) := by decide +kernel
theorem dJ2_checkBoundsBeginEnd_d044e_2 : decode cJ2_checkBoundsBeginEnd_d044e 2 = .ok (.aload_n 2, 1) := by decide +kernel
theorem dJ2_checkBoundsBeginEnd_d044e_3 : decode cJ2_checkBoundsBeginEnd_d044e 3 = .ok (.invokestatic 48, 3) := by decide +kernel
theorem dJ2_checkBoundsBeginEnd_d044e_6 : decode cJ2_checkBoundsBeginEnd_d044e 6 = .ok (.invokestatic 241, 3) := by decide +kernel
theorem dJ2_checkBoundsBeginEnd_d044e_9 : decode cJ2_checkBoundsBeginEnd_d044e 9 = .ok (.return_, 1) := by decide +kernel
theorem dJ3_checkFromToIndex_8c36e_0 : decode cJ3_checkFromToIndex_8c36e 0 = .ok (.iload_n 0, 1) := by decide +kernel
theorem dJ3_checkFromToIndex_8c36e_1 : decode cJ3_checkFromToIndex_8c36e 1 = .ok (.ifCond .lt 13, 3) := by decide +kernel
theorem dJ3_checkFromToIndex_8c36e_4 : decode cJ3_checkFromToIndex_8c36e 4 = .ok (.iload_n 0, 1) := by decide +kernel
theorem dJ3_checkFromToIndex_8c36e_5 : decode cJ3_checkFromToIndex_8c36e 5 = .ok (.iload_n 1, 1) := by decide +kernel
theorem dJ3_checkFromToIndex_8c36e_6 : decode cJ3_checkFromToIndex_8c36e 6 = .ok (.if_icmp .gt 8, 3) := by decide +kernel
theorem dJ3_checkFromToIndex_8c36e_9 : decode cJ3_checkFromToIndex_8c36e 9 = .ok (.iload_n 1, 1) := by decide +kernel
theorem dJ3_checkFromToIndex_8c36e_10 : decode cJ3_checkFromToIndex_8c36e 10 = .ok (.iload_n 2, 1) := by decide +kernel
theorem dJ3_checkFromToIndex_8c36e_11 : decode cJ3_checkFromToIndex_8c36e 11 = .ok (.if_icmp .le 11, 3) := by decide +kernel
theorem dJ3_checkFromToIndex_8c36e_14 : decode cJ3_checkFromToIndex_8c36e 14 = .ok (.aload_n 3, 1) := by decide +kernel
theorem dJ3_checkFromToIndex_8c36e_15 : decode cJ3_checkFromToIndex_8c36e 15 = .ok (.iload_n 0, 1) := by decide +kernel
theorem dJ3_checkFromToIndex_8c36e_16 : decode cJ3_checkFromToIndex_8c36e 16 = .ok (.iload_n 1, 1) := by decide +kernel
theorem dJ3_checkFromToIndex_8c36e_17 : decode cJ3_checkFromToIndex_8c36e 17 = .ok (.iload_n 2, 1) := by decide +kernel
theorem dJ3_checkFromToIndex_8c36e_18 : decode cJ3_checkFromToIndex_8c36e 18 = .ok (.invokestatic 99, 3) := by decide +kernel
theorem dJ3_checkFromToIndex_8c36e_21 : decode cJ3_checkFromToIndex_8c36e 21 = .ok (.athrow, 1) := by decide +kernel
theorem dJ3_checkFromToIndex_8c36e_22 : decode cJ3_checkFromToIndex_8c36e 22 = .ok (.iload_n 0, 1) := by decide +kernel
theorem dJ3_checkFromToIndex_8c36e_23 : decode cJ3_checkFromToIndex_8c36e 23 = .ok (.ireturn, 1) := by decide +kernel
