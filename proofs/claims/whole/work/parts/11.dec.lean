theorem dX0_init_0 : decode cX0_init 0 = .ok (.aload_n 0, 1) := by decide +kernel
theorem dX0_init_1 : decode cX0_init 1 = .ok (.invokespecial 3, 3) := by decide +kernel
theorem dX0_init_4 : decode cX0_init 4 = .ok (.aload_n 0, 1) := by decide +kernel
theorem dX0_init_5 : decode cX0_init 5 = .ok (.iconst 4, 1) := by decide +kernel
theorem dX0_init_6 : decode cX0_init 6 = .ok (.anewarray 9, 3) := by decide +kernel
theorem dX0_init_9 : decode cX0_init 9 = .ok (.putfield 11, 3) := by decide +kernel
theorem dX0_init_12 : decode cX0_init 12 = .ok (.aload_n 0, 1) := by decide +kernel
theorem dX0_init_13 : decode cX0_init 13 = .ok (.iconst 4, 1) := by decide +kernel
theorem dX0_init_14 : decode cX0_init 14 = .ok (.newarray .boolean, 2) := by decide +kernel
theorem dX0_init_16 : decode cX0_init 16 = .ok (.putfield 17, 3) := by decide +kernel
theorem dX0_init_19 : decode cX0_init 19 = .ok (.aload_n 0, 1) := by decide +kernel
theorem dX0_init_20 : decode cX0_init 20 = .ok (.iconst 4, 1) := by decide +kernel
theorem dX0_init_21 : decode cX0_init 21 = .ok (.newarray .int, 2) := by decide +kernel
theorem dX0_init_23 : decode cX0_init 23 = .ok (.putfield 21, 3) := by decide +kernel
theorem dX0_init_26 : decode cX0_init 26 = .ok (.aload_n 0, 1) := by decide +kernel
theorem dX0_init_27 : decode cX0_init 27 = .ok (.bipush 8, 2) := by decide +kernel
theorem dX0_init_29 : decode cX0_init 29 = .ok (.newarray .int, 2) := by decide +kernel
theorem dX0_init_31 : decode cX0_init 31 = .ok (.putfield 25, 3) := by decide +kernel
theorem dX0_init_34 : decode cX0_init 34 = .ok (.aload_n 0, 1) := by decide +kernel
theorem dX0_init_35 : decode cX0_init 35 = .ok (.bipush 8, 2) := by decide +kernel
theorem dX0_init_37 : decode cX0_init 37 = .ok (.newarray .int, 2) := by decide +kernel
theorem dX0_init_39 : decode cX0_init 39 = .ok (.putfield 28, 3) := by decide +kernel
theorem dX0_init_42 : decode cX0_init 42 = .ok (.aload_n 0, 1) := by decide +kernel
theorem dX0_init_43 : decode cX0_init 43 = .ok (.bipush 8, 2) := by decide +kernel
theorem dX0_init_45 : decode cX0_init 45 = .ok (.newarray .int, 2) := by decide +kernel
theorem dX0_init_47 : decode cX0_init 47 = .ok (.putfield 31, 3) := by decide +kernel
theorem dX0_init_50 : decode cX0_init 50 = .ok (.aload_n 0, 1) := by decide +kernel
theorem dX0_init_51 : decode cX0_init 51 = .ok (.sipush 200, 3) := by decide +kernel
theorem dX0_init_54 : decode cX0_init 54 = .ok (.putfield 34, 3) := by decide +kernel
theorem dX0_init_57 : decode cX0_init 57 = .ok (.return_, 1) := by decide +kernel
theorem dX0_isRunning_0 : decode cX0_isRunning 0 = .ok (.aload_n 0, 1) := by decide +kernel
theorem dX0_isRunning_1 : decode cX0_isRunning 1 = .ok (.getfield 38, 3) := by decide +kernel
theorem dX0_isRunning_4 : decode cX0_isRunning 4 = .ok (.ifnull 7, 3) := by decide +kernel
theorem dX0_isRunning_7 : decode cX0_isRunning 7 = .ok (.iconst 1, 1) := by decide +kernel
theorem dX0_isRunning_8 : decode cX0_isRunning 8 = .ok (.goto 4, 3) := by decide +kernel
theorem dX0_isRunning_11 : decode cX0_isRunning 11 = .ok (.iconst 0, 1) := by decide +kernel
theorem dX0_isRunning_12 : decode cX0_isRunning 12 = .ok (.ireturn, 1) := by decide +kernel
theorem dX0_addLine_0 : decode cX0_addLine 0 = .ok (.aload_n 0, 1) := by decide +kernel
theorem dX0_addLine_1 : decode cX0_addLine 1 = .ok (.getfield 42, 3) := by decide +kernel
theorem dX0_addLine_4 : decode cX0_addLine 4 = .ok (.bipush 8, 2) := by decide +kernel
theorem dX0_addLine_6 : decode cX0_addLine 6 = .ok (.if_icmp .lt 6, 3) := by decide +kernel
theorem dX0_addLine_9 : decode cX0_addLine 9 = .ok (.bipush (-4), 2) := by decide +kernel
theorem dX0_addLine_11 : decode cX0_addLine 11 = .ok (.ireturn, 1) := by decide +kernel
theorem dX0_addLine_12 : decode cX0_addLine 12 = .ok (.aload_n 0, 1) := by decide +kernel
theorem dX0_addLine_13 : decode cX0_addLine 13 = .ok (.getfield 25, 3) := by decide +kernel
theorem dX0_addLine_16 : decode cX0_addLine 16 = .ok (.aload_n 0, 1) := by decide +kernel
theorem dX0_addLine_17 : decode cX0_addLine 17 = .ok (.getfield 42, 3) := by decide +kernel
theorem dX0_addLine_20 : decode cX0_addLine 20 = .ok (.iload_n 1, 1) := by decide +kernel
theorem dX0_addLine_21 : decode cX0_addLine 21 = .ok (.iastore, 1) := by decide +kernel
theorem dX0_addLine_22 : decode cX0_addLine 22 = .ok (.aload_n 0, 1) := by decide +kernel
theorem dX0_addLine_23 : decode cX0_addLine 23 = .ok (.getfield 28, 3) := by decide +kernel
theorem dX0_addLine_26 : decode cX0_addLine 26 = .ok (.aload_n 0, 1) := by decide +kernel
theorem dX0_addLine_27 : decode cX0_addLine 27 = .ok (.getfield 42, 3) := by decide +kernel
theorem dX0_addLine_30 : decode cX0_addLine 30 = .ok (.iload_n 2, 1) := by decide +kernel
theorem dX0_addLine_31 : decode cX0_addLine 31 = .ok (.iastore, 1) := by decide +kernel
theorem dX0_addLine_32 : decode cX0_addLine 32 = .ok (.aload_n 0, 1) := by decide +kernel
theorem dX0_addLine_33 : decode cX0_addLine 33 = .ok (.getfield 31, 3) := by decide +kernel
theorem dX0_addLine_36 : decode cX0_addLine 36 = .ok (.aload_n 0, 1) := by decide +kernel
theorem dX0_addLine_37 : decode cX0_addLine 37 = .ok (.getfield 42, 3) := by decide +kernel
theorem dX0_addLine_40 : decode cX0_addLine 40 = .ok (.iload_n 3, 1) := by decide +kernel
theorem dX0_addLine_41 : decode cX0_addLine 41 = .ok (.iastore, 1) := by decide +kernel
theorem dX0_addLine_42 : decode cX0_addLine 42 = .ok (.aload_n 0, 1) := by decide +kernel
theorem dX0_addLine_43 : decode cX0_addLine 43 = .ok (.dup, 1) := by decide +kernel
theorem dX0_addLine_44 : decode cX0_addLine 44 = .ok (.getfield 42, 3) := by decide +kernel
theorem dX0_addLine_47 : decode cX0_addLine 47 = .ok (.iconst 1, 1) := by decide +kernel
theorem dX0_addLine_48 : decode cX0_addLine 48 = .ok (.iadd, 1) := by decide +kernel
theorem dX0_addLine_49 : decode cX0_addLine 49 = .ok (.putfield 42, 3) := by decide +kernel
theorem dX0_addLine_52 : decode cX0_addLine 52 = .ok (.aload_n 0, 1) := by decide +kernel
theorem dX0_addLine_53 : decode cX0_addLine 53 = .ok (.getfield 42, 3) := by decide +kernel
theorem dX0_addLine_56 : decode cX0_addLine 56 = .ok (.ireturn, 1) := by decide +kernel
theorem dX0_massInside_0 : decode cX0_massInside 0 = .ok (.iconst 0, 1) := by decide +kernel
theorem dX0_massInside_1 : decode cX0_massInside 1 = .ok (.istore_n 1, 1) := by decide +kernel
theorem dX0_massInside_2 : decode cX0_massInside 2 = .ok (.iconst 0, 1) := by decide +kernel
theorem dX0_massInside_3 : decode cX0_massInside 3 = .ok (.istore_n 2, 1) := by decide +kernel
theorem dX0_massInside_4 : decode cX0_massInside 4 = .ok (.iload_n 2, 1) := by decide +kernel
theorem dX0_massInside_5 : decode cX0_massInside 5 = .ok (.iconst 4, 1) := by decide +kernel
theorem dX0_massInside_6 : decode cX0_massInside 6 = .ok (.if_icmp .ge 30, 3) := by decide +kernel
theorem dX0_massInside_9 : decode cX0_massInside 9 = .ok (.aload_n 0, 1) := by decide +kernel
theorem dX0_massInside_10 : decode cX0_massInside 10 = .ok (.getfield 11, 3) := by decide +kernel
theorem dX0_massInside_13 : decode cX0_massInside 13 = .ok (.iload_n 2, 1) := by decide +kernel
theorem dX0_massInside_14 : decode cX0_massInside 14 = .ok (.aaload, 1) := by decide +kernel
theorem dX0_massInside_15 : decode cX0_massInside 15 = .ok (.ifnull 15, 3) := by decide +kernel
theorem dX0_massInside_18 : decode cX0_massInside 18 = .ok (.iload_n 1, 1) := by decide +kernel
theorem dX0_massInside_19 : decode cX0_massInside 19 = .ok (.aload_n 0, 1) := by decide +kernel
theorem dX0_massInside_20 : decode cX0_massInside 20 = .ok (.getfield 11, 3) := by decide +kernel
theorem dX0_massInside_23 : decode cX0_massInside 23 = .ok (.iload_n 2, 1) := by decide +kernel
theorem dX0_massInside_24 : decode cX0_massInside 24 = .ok (.aaload, 1) := by decide +kernel
theorem dX0_massInside_25 : decode cX0_massInside 25 = .ok (.getfield 45, 3) := by decide +kernel
theorem dX0_massInside_28 : decode cX0_massInside 28 = .ok (.iadd, 1) := by decide +kernel
theorem dX0_massInside_29 : decode cX0_massInside 29 = .ok (.istore_n 1, 1) := by decide +kernel
theorem dX0_massInside_30 : decode cX0_massInside 30 = .ok (.iinc 2 1, 3) := by decide +kernel
theorem dX0_massInside_33 : decode cX0_massInside 33 = .ok (.goto (-29), 3) := by decide +kernel
theorem dX0_massInside_36 : decode cX0_massInside 36 = .ok (.iload_n 1, 1) := by decide +kernel
theorem dX0_massInside_37 : decode cX0_massInside 37 = .ok (.ireturn, 1) := by decide +kernel
theorem dX0_partsInside_0 : decode cX0_partsInside 0 = .ok (.iconst 0, 1) := by decide +kernel
theorem dX0_partsInside_1 : decode cX0_partsInside 1 = .ok (.istore_n 1, 1) := by decide +kernel
theorem dX0_partsInside_2 : decode cX0_partsInside 2 = .ok (.iconst 0, 1) := by decide +kernel
theorem dX0_partsInside_3 : decode cX0_partsInside 3 = .ok (.istore_n 2, 1) := by decide +kernel
theorem dX0_partsInside_4 : decode cX0_partsInside 4 = .ok (.iload_n 2, 1) := by decide +kernel
theorem dX0_partsInside_5 : decode cX0_partsInside 5 = .ok (.iconst 4, 1) := by decide +kernel
theorem dX0_partsInside_6 : decode cX0_partsInside 6 = .ok (.if_icmp .ge 21, 3) := by decide +kernel
theorem dX0_partsInside_9 : decode cX0_partsInside 9 = .ok (.aload_n 0, 1) := by decide +kernel
theorem dX0_partsInside_10 : decode cX0_partsInside 10 = .ok (.getfield 11, 3) := by decide +kernel
theorem dX0_partsInside_13 : decode cX0_partsInside 13 = .ok (.iload_n 2, 1) := by decide +kernel
theorem dX0_partsInside_14 : decode cX0_partsInside 14 = .ok (.aaload, 1) := by decide +kernel
theorem dX0_partsInside_15 : decode cX0_partsInside 15 = .ok (.ifnull 6, 3) := by decide +kernel
theorem dX0_partsInside_18 : decode cX0_partsInside 18 = .ok (.iinc 1 1, 3) := by decide +kernel
theorem dX0_partsInside_21 : decode cX0_partsInside 21 = .ok (.iinc 2 1, 3) := by decide +kernel
theorem dX0_partsInside_24 : decode cX0_partsInside 24 = .ok (.goto (-20), 3) := by decide +kernel
theorem dX0_partsInside_27 : decode cX0_partsInside 27 = .ok (.iload_n 1, 1) := by decide +kernel
theorem dX0_partsInside_28 : decode cX0_partsInside 28 = .ok (.ireturn, 1) := by decide +kernel
theorem dX0_begin_0 : decode cX0_begin 0 = .ok (.aload_n 0, 1) := by decide +kernel
theorem dX0_begin_1 : decode cX0_begin 1 = .ok (.aload_n 1, 1) := by decide +kernel
theorem dX0_begin_2 : decode cX0_begin 2 = .ok (.putfield 38, 3) := by decide +kernel
theorem dX0_begin_5 : decode cX0_begin 5 = .ok (.aload_n 0, 1) := by decide +kernel
theorem dX0_begin_6 : decode cX0_begin 6 = .ok (.iconst 0, 1) := by decide +kernel
theorem dX0_begin_7 : decode cX0_begin 7 = .ok (.putfield 48, 3) := by decide +kernel
theorem dX0_begin_10 : decode cX0_begin 10 = .ok (.iconst 0, 1) := by decide +kernel
theorem dX0_begin_11 : decode cX0_begin 11 = .ok (.istore_n 2, 1) := by decide +kernel
theorem dX0_begin_12 : decode cX0_begin 12 = .ok (.iload_n 2, 1) := by decide +kernel
theorem dX0_begin_13 : decode cX0_begin 13 = .ok (.iconst 4, 1) := by decide +kernel
theorem dX0_begin_14 : decode cX0_begin 14 = .ok (.if_icmp .ge 28, 3) := by decide +kernel
theorem dX0_begin_17 : decode cX0_begin 17 = .ok (.aload_n 0, 1) := by decide +kernel
theorem dX0_begin_18 : decode cX0_begin 18 = .ok (.getfield 11, 3) := by decide +kernel
theorem dX0_begin_21 : decode cX0_begin 21 = .ok (.iload_n 2, 1) := by decide +kernel
theorem dX0_begin_22 : decode cX0_begin 22 = .ok (.aaload, 1) := by decide +kernel
theorem dX0_begin_23 : decode cX0_begin 23 = .ok (.ifnull 13, 3) := by decide +kernel
theorem dX0_begin_26 : decode cX0_begin 26 = .ok (.aload_n 0, 1) := by decide +kernel
theorem dX0_begin_27 : decode cX0_begin 27 = .ok (.getfield 11, 3) := by decide +kernel
theorem dX0_begin_30 : decode cX0_begin 30 = .ok (.iload_n 2, 1) := by decide +kernel
theorem dX0_begin_31 : decode cX0_begin 31 = .ok (.aaload, 1) := by decide +kernel
theorem dX0_begin_32 : decode cX0_begin 32 = .ok (.aload_n 1, 1) := by decide +kernel
theorem dX0_begin_33 : decode cX0_begin 33 = .ok (.putfield 51, 3) := by decide +kernel
theorem dX0_begin_36 : decode cX0_begin 36 = .ok (.iinc 2 1, 3) := by decide +kernel
theorem dX0_begin_39 : decode cX0_begin 39 = .ok (.goto (-27), 3) := by decide +kernel
theorem dX0_begin_42 : decode cX0_begin 42 = .ok (.return_, 1) := by decide +kernel
theorem dX0_end_0 : decode cX0_end 0 = .ok (.aload_n 0, 1) := by decide +kernel
theorem dX0_end_1 : decode cX0_end 1 = .ok (.getfield 38, 3) := by decide +kernel
theorem dX0_end_4 : decode cX0_end 4 = .ok (.ifnull 11, 3) := by decide +kernel
theorem dX0_end_7 : decode cX0_end 7 = .ok (.aload_n 0, 1) := by decide +kernel
theorem dX0_end_8 : decode cX0_end 8 = .ok (.getfield 38, 3) := by decide +kernel
theorem dX0_end_11 : decode cX0_end 11 = .ok (.iload_n 1, 1) := by decide +kernel
theorem dX0_end_12 : decode cX0_end 12 = .ok (.invokevirtual 54, 3) := by decide +kernel
theorem dX0_end_15 : decode cX0_end 15 = .ok (.aload_n 0, 1) := by decide +kernel
theorem dX0_end_16 : decode cX0_end 16 = .ok (.aconst_null, 1) := by decide +kernel
theorem dX0_end_17 : decode cX0_end 17 = .ok (.putfield 38, 3) := by decide +kernel
theorem dX0_end_20 : decode cX0_end 20 = .ok (.aload_n 0, 1) := by decide +kernel
theorem dX0_end_21 : decode cX0_end 21 = .ok (.iconst 0, 1) := by decide +kernel
theorem dX0_end_22 : decode cX0_end 22 = .ok (.putfield 60, 3) := by decide +kernel
theorem dX0_end_25 : decode cX0_end 25 = .ok (.return_, 1) := by decide +kernel
theorem dX0_doTick_0 : decode cX0_doTick 0 = .ok (.aload_n 0, 1) := by decide +kernel
theorem dX0_doTick_1 : decode cX0_doTick 1 = .ok (.getfield 38, 3) := by decide +kernel
theorem dX0_doTick_4 : decode cX0_doTick 4 = .ok (.ifnonnull 4, 3) := by decide +kernel
theorem dX0_doTick_7 : decode cX0_doTick 7 = .ok (.return_, 1) := by decide +kernel
theorem dX0_doTick_8 : decode cX0_doTick 8 = .ok (.aload_n 0, 1) := by decide +kernel
theorem dX0_doTick_9 : decode cX0_doTick 9 = .ok (.getfield 38, 3) := by decide +kernel
theorem dX0_doTick_12 : decode cX0_doTick 12 = .ok (.dup, 1) := by decide +kernel
theorem dX0_doTick_13 : decode cX0_doTick 13 = .ok (.getfield 63, 3) := by decide +kernel
theorem dX0_doTick_16 : decode cX0_doTick 16 = .ok (.iconst 1, 1) := by decide +kernel
theorem dX0_doTick_17 : decode cX0_doTick 17 = .ok (.iadd, 1) := by decide +kernel
theorem dX0_doTick_18 : decode cX0_doTick 18 = .ok (.putfield 63, 3) := by decide +kernel
theorem dX0_doTick_21 : decode cX0_doTick 21 = .ok (.aload_n 0, 1) := by decide +kernel
theorem dX0_doTick_22 : decode cX0_doTick 22 = .ok (.aload_n 0, 1) := by decide +kernel
theorem dX0_doTick_23 : decode cX0_doTick 23 = .ok (.invokevirtual 66, 3) := by decide +kernel
theorem dX0_doTick_26 : decode cX0_doTick 26 = .ok (.putfield 34, 3) := by decide +kernel
theorem dX0_doTick_29 : decode cX0_doTick 29 = .ok (.iconst 0, 1) := by decide +kernel
theorem dX0_doTick_30 : decode cX0_doTick 30 = .ok (.istore_n 1, 1) := by decide +kernel
theorem dX0_doTick_31 : decode cX0_doTick 31 = .ok (.iload_n 1, 1) := by decide +kernel
theorem dX0_doTick_32 : decode cX0_doTick 32 = .ok (.iconst 4, 1) := by decide +kernel
theorem dX0_doTick_33 : decode cX0_doTick 33 = .ok (.if_icmp .ge 36, 3) := by decide +kernel
theorem dX0_doTick_36 : decode cX0_doTick 36 = .ok (.aload_n 0, 1) := by decide +kernel
theorem dX0_doTick_37 : decode cX0_doTick 37 = .ok (.getfield 11, 3) := by decide +kernel
theorem dX0_doTick_40 : decode cX0_doTick 40 = .ok (.iload_n 1, 1) := by decide +kernel
theorem dX0_doTick_41 : decode cX0_doTick 41 = .ok (.aaload, 1) := by decide +kernel
theorem dX0_doTick_42 : decode cX0_doTick 42 = .ok (.ifnull 21, 3) := by decide +kernel
theorem dX0_doTick_45 : decode cX0_doTick 45 = .ok (.aload_n 0, 1) := by decide +kernel
theorem dX0_doTick_46 : decode cX0_doTick 46 = .ok (.getfield 11, 3) := by decide +kernel
theorem dX0_doTick_49 : decode cX0_doTick 49 = .ok (.iload_n 1, 1) := by decide +kernel
theorem dX0_doTick_50 : decode cX0_doTick 50 = .ok (.aaload, 1) := by decide +kernel
theorem dX0_doTick_51 : decode cX0_doTick 51 = .ok (.aload_n 0, 1) := by decide +kernel
theorem dX0_doTick_52 : decode cX0_doTick 52 = .ok (.getfield 34, 3) := by decide +kernel
theorem dX0_doTick_55 : decode cX0_doTick 55 = .ok (.aload_n 0, 1) := by decide +kernel
theorem dX0_doTick_56 : decode cX0_doTick 56 = .ok (.getfield 70, 3) := by decide +kernel
theorem dX0_doTick_59 : decode cX0_doTick 59 = .ok (.iadd, 1) := by decide +kernel
theorem dX0_doTick_60 : decode cX0_doTick 60 = .ok (.invokevirtual 73, 3) := by decide +kernel
theorem dX0_doTick_63 : decode cX0_doTick 63 = .ok (.iinc 1 1, 3) := by decide +kernel
theorem dX0_doTick_66 : decode cX0_doTick 66 = .ok (.goto (-35), 3) := by decide +kernel
theorem dX0_doTick_69 : decode cX0_doTick 69 = .ok (.aload_n 0, 1) := by decide +kernel
theorem dX0_doTick_70 : decode cX0_doTick 70 = .ok (.aload_n 0, 1) := by decide +kernel
theorem dX0_doTick_71 : decode cX0_doTick 71 = .ok (.getfield 38, 3) := by decide +kernel
theorem dX0_doTick_74 : decode cX0_doTick 74 = .ok (.invokevirtual 77, 3) := by decide +kernel
theorem dX0_doTick_77 : decode cX0_doTick 77 = .ok (.ifCond .eq 7, 3) := by decide +kernel
theorem dX0_doTick_80 : decode cX0_doTick 80 = .ok (.aload_n 0, 1) := by decide +kernel
theorem dX0_doTick_81 : decode cX0_doTick 81 = .ok (.invokevirtual 81, 3) := by decide +kernel
theorem dX0_doTick_84 : decode cX0_doTick 84 = .ok (.return_, 1) := by decide +kernel
theorem dX0_gasByLine_0 : decode cX0_gasByLine 0 = .ok (.aload_n 0, 1) := by decide +kernel
theorem dX0_gasByLine_1 : decode cX0_gasByLine 1 = .ok (.getfield 25, 3) := by decide +kernel
theorem dX0_gasByLine_4 : decode cX0_gasByLine 4 = .ok (.aload_n 0, 1) := by decide +kernel
theorem dX0_gasByLine_5 : decode cX0_gasByLine 5 = .ok (.getfield 48, 3) := by decide +kernel
theorem dX0_gasByLine_8 : decode cX0_gasByLine 8 = .ok (.iaload, 1) := by decide +kernel
theorem dX0_gasByLine_9 : decode cX0_gasByLine 9 = .ok (.tableswitch 70 0 2 #[27, 50, 60], 27) := by decide +kernel
theorem dX0_gasByLine_36 : decode cX0_gasByLine 36 = .ok (.aload_n 0, 1) := by decide +kernel
theorem dX0_gasByLine_37 : decode cX0_gasByLine 37 = .ok (.aload_n 0, 1) := by decide +kernel
theorem dX0_gasByLine_38 : decode cX0_gasByLine 38 = .ok (.getfield 28, 3) := by decide +kernel
theorem dX0_gasByLine_41 : decode cX0_gasByLine 41 = .ok (.aload_n 0, 1) := by decide +kernel
theorem dX0_gasByLine_42 : decode cX0_gasByLine 42 = .ok (.getfield 48, 3) := by decide +kernel
theorem dX0_gasByLine_45 : decode cX0_gasByLine 45 = .ok (.iaload, 1) := by decide +kernel
theorem dX0_gasByLine_46 : decode cX0_gasByLine 46 = .ok (.aload_n 0, 1) := by decide +kernel
theorem dX0_gasByLine_47 : decode cX0_gasByLine 47 = .ok (.getfield 31, 3) := by decide +kernel
theorem dX0_gasByLine_50 : decode cX0_gasByLine 50 = .ok (.aload_n 0, 1) := by decide +kernel
theorem dX0_gasByLine_51 : decode cX0_gasByLine 51 = .ok (.getfield 48, 3) := by decide +kernel
theorem dX0_gasByLine_54 : decode cX0_gasByLine 54 = .ok (.iaload, 1) := by decide +kernel
theorem dX0_gasByLine_55 : decode cX0_gasByLine 55 = .ok (.invokevirtual 84, 3) := by decide +kernel
theorem dX0_gasByLine_58 : decode cX0_gasByLine 58 = .ok (.ireturn, 1) := by decide +kernel
theorem dX0_gasByLine_59 : decode cX0_gasByLine 59 = .ok (.aload_n 0, 1) := by decide +kernel
theorem dX0_gasByLine_60 : decode cX0_gasByLine 60 = .ok (.getfield 28, 3) := by decide +kernel
theorem dX0_gasByLine_63 : decode cX0_gasByLine 63 = .ok (.aload_n 0, 1) := by decide +kernel
theorem dX0_gasByLine_64 : decode cX0_gasByLine 64 = .ok (.getfield 48, 3) := by decide +kernel
theorem dX0_gasByLine_67 : decode cX0_gasByLine 67 = .ok (.iaload, 1) := by decide +kernel
theorem dX0_gasByLine_68 : decode cX0_gasByLine 68 = .ok (.ireturn, 1) := by decide +kernel
theorem dX0_gasByLine_69 : decode cX0_gasByLine 69 = .ok (.aload_n 0, 1) := by decide +kernel
theorem dX0_gasByLine_70 : decode cX0_gasByLine 70 = .ok (.getfield 28, 3) := by decide +kernel
theorem dX0_gasByLine_73 : decode cX0_gasByLine 73 = .ok (.aload_n 0, 1) := by decide +kernel
theorem dX0_gasByLine_74 : decode cX0_gasByLine 74 = .ok (.getfield 48, 3) := by decide +kernel
theorem dX0_gasByLine_77 : decode cX0_gasByLine 77 = .ok (.iaload, 1) := by decide +kernel
theorem dX0_gasByLine_78 : decode cX0_gasByLine 78 = .ok (.ireturn, 1) := by decide +kernel
theorem dX0_gasByLine_79 : decode cX0_gasByLine 79 = .ok (.aload_n 0, 1) := by decide +kernel
theorem dX0_gasByLine_80 : decode cX0_gasByLine 80 = .ok (.getfield 34, 3) := by decide +kernel
theorem dX0_gasByLine_83 : decode cX0_gasByLine 83 = .ok (.ireturn, 1) := by decide +kernel
theorem dX0_gasNearer_0 : decode cX0_gasNearer 0 = .ok (.aload_n 0, 1) := by decide +kernel
theorem dX0_gasNearer_1 : decode cX0_gasNearer 1 = .ok (.getfield 34, 3) := by decide +kernel
theorem dX0_gasNearer_4 : decode cX0_gasNearer 4 = .ok (.iload_n 1, 1) := by decide +kernel
theorem dX0_gasNearer_5 : decode cX0_gasNearer 5 = .ok (.if_icmp .ge 16, 3) := by decide +kernel
theorem dX0_gasNearer_8 : decode cX0_gasNearer 8 = .ok (.iload_n 1, 1) := by decide +kernel
theorem dX0_gasNearer_9 : decode cX0_gasNearer 9 = .ok (.aload_n 0, 1) := by decide +kernel
theorem dX0_gasNearer_10 : decode cX0_gasNearer 10 = .ok (.getfield 34, 3) := by decide +kernel
theorem dX0_gasNearer_13 : decode cX0_gasNearer 13 = .ok (.iload_n 2, 1) := by decide +kernel
theorem dX0_gasNearer_14 : decode cX0_gasNearer 14 = .ok (.iadd, 1) := by decide +kernel
theorem dX0_gasNearer_15 : decode cX0_gasNearer 15 = .ok (.invokestatic 88, 3) := by decide +kernel
theorem dX0_gasNearer_18 : decode cX0_gasNearer 18 = .ok (.goto 13, 3) := by decide +kernel
theorem dX0_gasNearer_21 : decode cX0_gasNearer 21 = .ok (.iload_n 1, 1) := by decide +kernel
theorem dX0_gasNearer_22 : decode cX0_gasNearer 22 = .ok (.aload_n 0, 1) := by decide +kernel
theorem dX0_gasNearer_23 : decode cX0_gasNearer 23 = .ok (.getfield 34, 3) := by decide +kernel
theorem dX0_gasNearer_26 : decode cX0_gasNearer 26 = .ok (.iload_n 2, 1) := by decide +kernel
theorem dX0_gasNearer_27 : decode cX0_gasNearer 27 = .ok (.isub, 1) := by decide +kernel
theorem dX0_gasNearer_28 : decode cX0_gasNearer 28 = .ok (.invokestatic 93, 3) := by decide +kernel
theorem dX0_gasNearer_31 : decode cX0_gasNearer 31 = .ok (.ireturn, 1) := by decide +kernel
theorem dX0_lineIsOver_0 : decode cX0_lineIsOver 0 = .ok (.aload_n 0, 1) := by decide +kernel
theorem dX0_lineIsOver_1 : decode cX0_lineIsOver 1 = .ok (.getfield 25, 3) := by decide +kernel
theorem dX0_lineIsOver_4 : decode cX0_lineIsOver 4 = .ok (.aload_n 0, 1) := by decide +kernel
theorem dX0_lineIsOver_5 : decode cX0_lineIsOver 5 = .ok (.getfield 48, 3) := by decide +kernel
theorem dX0_lineIsOver_8 : decode cX0_lineIsOver 8 = .ok (.iaload, 1) := by decide +kernel
theorem dX0_lineIsOver_9 : decode cX0_lineIsOver 9 = .ok (.ifCond .ne 25, 3) := by decide +kernel
theorem dX0_lineIsOver_12 : decode cX0_lineIsOver 12 = .ok (.aload_n 0, 1) := by decide +kernel
theorem dX0_lineIsOver_13 : decode cX0_lineIsOver 13 = .ok (.getfield 34, 3) := by decide +kernel
theorem dX0_lineIsOver_16 : decode cX0_lineIsOver 16 = .ok (.aload_n 0, 1) := by decide +kernel
theorem dX0_lineIsOver_17 : decode cX0_lineIsOver 17 = .ok (.getfield 28, 3) := by decide +kernel
theorem dX0_lineIsOver_20 : decode cX0_lineIsOver 20 = .ok (.aload_n 0, 1) := by decide +kernel
theorem dX0_lineIsOver_21 : decode cX0_lineIsOver 21 = .ok (.getfield 48, 3) := by decide +kernel
theorem dX0_lineIsOver_24 : decode cX0_lineIsOver 24 = .ok (.iaload, 1) := by decide +kernel
theorem dX0_lineIsOver_25 : decode cX0_lineIsOver 25 = .ok (.if_icmp .ne 7, 3) := by decide +kernel
theorem dX0_lineIsOver_28 : decode cX0_lineIsOver 28 = .ok (.iconst 1, 1) := by decide +kernel
theorem dX0_lineIsOver_29 : decode cX0_lineIsOver 29 = .ok (.goto 4, 3) := by decide +kernel
theorem dX0_lineIsOver_32 : decode cX0_lineIsOver 32 = .ok (.iconst 0, 1) := by decide +kernel
theorem dX0_lineIsOver_33 : decode cX0_lineIsOver 33 = .ok (.ireturn, 1) := by decide +kernel
theorem dX0_lineIsOver_34 : decode cX0_lineIsOver 34 = .ok (.aload_n 0, 1) := by decide +kernel
theorem dX0_lineIsOver_35 : decode cX0_lineIsOver 35 = .ok (.getfield 25, 3) := by decide +kernel
theorem dX0_lineIsOver_38 : decode cX0_lineIsOver 38 = .ok (.aload_n 0, 1) := by decide +kernel
theorem dX0_lineIsOver_39 : decode cX0_lineIsOver 39 = .ok (.getfield 48, 3) := by decide +kernel
theorem dX0_lineIsOver_42 : decode cX0_lineIsOver 42 = .ok (.iaload, 1) := by decide +kernel
theorem dX0_lineIsOver_43 : decode cX0_lineIsOver 43 = .ok (.iconst 1, 1) := by decide +kernel
theorem dX0_lineIsOver_44 : decode cX0_lineIsOver 44 = .ok (.if_icmp .ne 11, 3) := by decide +kernel
theorem dX0_lineIsOver_47 : decode cX0_lineIsOver 47 = .ok (.aload_n 0, 1) := by decide +kernel
theorem dX0_lineIsOver_48 : decode cX0_lineIsOver 48 = .ok (.aload_n 1, 1) := by decide +kernel
theorem dX0_lineIsOver_49 : decode cX0_lineIsOver 49 = .ok (.invokevirtual 96, 3) := by decide +kernel
theorem dX0_lineIsOver_52 : decode cX0_lineIsOver 52 = .ok (.goto 13, 3) := by decide +kernel
theorem dX0_lineIsOver_55 : decode cX0_lineIsOver 55 = .ok (.aload_n 0, 1) := by decide +kernel
theorem dX0_lineIsOver_56 : decode cX0_lineIsOver 56 = .ok (.dup, 1) := by decide +kernel
theorem dX0_lineIsOver_57 : decode cX0_lineIsOver 57 = .ok (.getfield 60, 3) := by decide +kernel
theorem dX0_lineIsOver_60 : decode cX0_lineIsOver 60 = .ok (.iconst 1, 1) := by decide +kernel
theorem dX0_lineIsOver_61 : decode cX0_lineIsOver 61 = .ok (.iadd, 1) := by decide +kernel
theorem dX0_lineIsOver_62 : decode cX0_lineIsOver 62 = .ok (.putfield 60, 3) := by decide +kernel
theorem dX0_lineIsOver_65 : decode cX0_lineIsOver 65 = .ok (.aload_n 0, 1) := by decide +kernel
theorem dX0_lineIsOver_66 : decode cX0_lineIsOver 66 = .ok (.getfield 60, 3) := by decide +kernel
theorem dX0_lineIsOver_69 : decode cX0_lineIsOver 69 = .ok (.aload_n 0, 1) := by decide +kernel
theorem dX0_lineIsOver_70 : decode cX0_lineIsOver 70 = .ok (.getfield 31, 3) := by decide +kernel
theorem dX0_lineIsOver_73 : decode cX0_lineIsOver 73 = .ok (.aload_n 0, 1) := by decide +kernel
theorem dX0_lineIsOver_74 : decode cX0_lineIsOver 74 = .ok (.getfield 48, 3) := by decide +kernel
theorem dX0_lineIsOver_77 : decode cX0_lineIsOver 77 = .ok (.iaload, 1) := by decide +kernel
theorem dX0_lineIsOver_78 : decode cX0_lineIsOver 78 = .ok (.if_icmp .lt 7, 3) := by decide +kernel
theorem dX0_lineIsOver_81 : decode cX0_lineIsOver 81 = .ok (.iconst 1, 1) := by decide +kernel
theorem dX0_lineIsOver_82 : decode cX0_lineIsOver 82 = .ok (.goto 4, 3) := by decide +kernel
theorem dX0_lineIsOver_85 : decode cX0_lineIsOver 85 = .ok (.iconst 0, 1) := by decide +kernel
theorem dX0_lineIsOver_86 : decode cX0_lineIsOver 86 = .ok (.ireturn, 1) := by decide +kernel
theorem dX0_countSoak_0 : decode cX0_countSoak 0 = .ok (.iconst 0, 1) := by decide +kernel
theorem dX0_countSoak_1 : decode cX0_countSoak 1 = .ok (.istore_n 2, 1) := by decide +kernel
theorem dX0_countSoak_2 : decode cX0_countSoak 2 = .ok (.iconst 0, 1) := by decide +kernel
theorem dX0_countSoak_3 : decode cX0_countSoak 3 = .ok (.istore_n 3, 1) := by decide +kernel
theorem dX0_countSoak_4 : decode cX0_countSoak 4 = .ok (.iload_n 3, 1) := by decide +kernel
theorem dX0_countSoak_5 : decode cX0_countSoak 5 = .ok (.iconst 4, 1) := by decide +kernel
theorem dX0_countSoak_6 : decode cX0_countSoak 6 = .ok (.if_icmp .ge 65, 3) := by decide +kernel
theorem dX0_countSoak_9 : decode cX0_countSoak 9 = .ok (.aload_n 0, 1) := by decide +kernel
theorem dX0_countSoak_10 : decode cX0_countSoak 10 = .ok (.getfield 11, 3) := by decide +kernel
theorem dX0_countSoak_13 : decode cX0_countSoak 13 = .ok (.iload_n 3, 1) := by decide +kernel
theorem dX0_countSoak_14 : decode cX0_countSoak 14 = .ok (.aaload, 1) := by decide +kernel
theorem dX0_countSoak_15 : decode cX0_countSoak 15 = .ok (.ifnull 50, 3) := by decide +kernel
theorem dX0_countSoak_18 : decode cX0_countSoak 18 = .ok (.aload_n 0, 1) := by decide +kernel
theorem dX0_countSoak_19 : decode cX0_countSoak 19 = .ok (.getfield 17, 3) := by decide +kernel
theorem dX0_countSoak_22 : decode cX0_countSoak 22 = .ok (.iload_n 3, 1) := by decide +kernel
theorem dX0_countSoak_23 : decode cX0_countSoak 23 = .ok (.baload, 1) := by decide +kernel
theorem dX0_countSoak_24 : decode cX0_countSoak 24 = .ok (.ifCond .eq 6, 3) := by decide +kernel
theorem dX0_countSoak_27 : decode cX0_countSoak 27 = .ok (.goto 38, 3) := by decide +kernel
theorem dX0_countSoak_30 : decode cX0_countSoak 30 = .ok (.iinc 2 1, 3) := by decide +kernel
theorem dX0_countSoak_33 : decode cX0_countSoak 33 = .ok (.aload_n 0, 1) := by decide +kernel
theorem dX0_countSoak_34 : decode cX0_countSoak 34 = .ok (.getfield 11, 3) := by decide +kernel
theorem dX0_countSoak_37 : decode cX0_countSoak 37 = .ok (.iload_n 3, 1) := by decide +kernel
theorem dX0_countSoak_38 : decode cX0_countSoak 38 = .ok (.aaload, 1) := by decide +kernel
theorem dX0_countSoak_39 : decode cX0_countSoak 39 = .ok (.invokevirtual 100, 3) := by decide +kernel
theorem dX0_countSoak_42 : decode cX0_countSoak 42 = .ok (.aload_n 0, 1) := by decide +kernel
theorem dX0_countSoak_43 : decode cX0_countSoak 43 = .ok (.getfield 21, 3) := by decide +kernel
theorem dX0_countSoak_46 : decode cX0_countSoak 46 = .ok (.iload_n 3, 1) := by decide +kernel
theorem dX0_countSoak_47 : decode cX0_countSoak 47 = .ok (.iaload, 1) := by decide +kernel
theorem dX0_countSoak_48 : decode cX0_countSoak 48 = .ok (.iadd, 1) := by decide +kernel
theorem dX0_countSoak_49 : decode cX0_countSoak 49 = .ok (.aload_n 0, 1) := by decide +kernel
theorem dX0_countSoak_50 : decode cX0_countSoak 50 = .ok (.getfield 28, 3) := by decide +kernel
theorem dX0_countSoak_53 : decode cX0_countSoak 53 = .ok (.aload_n 0, 1) := by decide +kernel
theorem dX0_countSoak_54 : decode cX0_countSoak 54 = .ok (.getfield 48, 3) := by decide +kernel
theorem dX0_countSoak_57 : decode cX0_countSoak 57 = .ok (.iaload, 1) := by decide +kernel
theorem dX0_countSoak_58 : decode cX0_countSoak 58 = .ok (.bipush 100, 2) := by decide +kernel
theorem dX0_countSoak_60 : decode cX0_countSoak 60 = .ok (.isub, 1) := by decide +kernel
theorem dX0_countSoak_61 : decode cX0_countSoak 61 = .ok (.if_icmp .ge 4, 3) := by decide +kernel
theorem dX0_countSoak_64 : decode cX0_countSoak 64 = .ok (.return_, 1) := by decide +kernel
theorem dX0_countSoak_65 : decode cX0_countSoak 65 = .ok (.iinc 3 1, 3) := by decide +kernel
theorem dX0_countSoak_68 : decode cX0_countSoak 68 = .ok (.goto (-64), 3) := by decide +kernel
theorem dX0_countSoak_71 : decode cX0_countSoak 71 = .ok (.iload_n 2, 1) := by decide +kernel
theorem dX0_countSoak_72 : decode cX0_countSoak 72 = .ok (.ifCond .ne 4, 3) := by decide +kernel
theorem dX0_countSoak_75 : decode cX0_countSoak 75 = .ok (.return_, 1) := by decide +kernel
theorem dX0_countSoak_76 : decode cX0_countSoak 76 = .ok (.aload_n 0, 1) := by decide +kernel
theorem dX0_countSoak_77 : decode cX0_countSoak 77 = .ok (.dup, 1) := by decide +kernel
theorem dX0_countSoak_78 : decode cX0_countSoak 78 = .ok (.getfield 60, 3) := by decide +kernel
theorem dX0_countSoak_81 : decode cX0_countSoak 81 = .ok (.iconst 1, 1) := by decide +kernel
theorem dX0_countSoak_82 : decode cX0_countSoak 82 = .ok (.iadd, 1) := by decide +kernel
theorem dX0_countSoak_83 : decode cX0_countSoak 83 = .ok (.putfield 60, 3) := by decide +kernel
theorem dX0_countSoak_86 : decode cX0_countSoak 86 = .ok (.iload_n 2, 1) := by decide +kernel
theorem dX0_countSoak_87 : decode cX0_countSoak 87 = .ok (.iconst 2, 1) := by decide +kernel
theorem dX0_countSoak_88 : decode cX0_countSoak 88 = .ok (.if_icmp .ge 16, 3) := by decide +kernel
theorem dX0_countSoak_91 : decode cX0_countSoak 91 = .ok (.aload_n 0, 1) := by decide +kernel
theorem dX0_countSoak_92 : decode cX0_countSoak 92 = .ok (.invokevirtual 103, 3) := by decide +kernel
theorem dX0_countSoak_95 : decode cX0_countSoak 95 = .ok (.iconst 1, 1) := by decide +kernel
theorem dX0_countSoak_96 : decode cX0_countSoak 96 = .ok (.if_icmp .le 8, 3) := by decide +kernel
theorem dX0_countSoak_99 : decode cX0_countSoak 99 = .ok (.aload_n 1, 1) := by decide +kernel
theorem dX0_countSoak_100 : decode cX0_countSoak 100 = .ok (.iconst 1, 1) := by decide +kernel
theorem dX0_countSoak_101 : decode cX0_countSoak 101 = .ok (.putfield 106, 3) := by decide +kernel
theorem dX0_countSoak_104 : decode cX0_countSoak 104 = .ok (.return_, 1) := by decide +kernel
theorem dX0_goToNextLine_0 : decode cX0_goToNextLine 0 = .ok (.aload_n 0, 1) := by decide +kernel
theorem dX0_goToNextLine_1 : decode cX0_goToNextLine 1 = .ok (.dup, 1) := by decide +kernel
theorem dX0_goToNextLine_2 : decode cX0_goToNextLine 2 = .ok (.getfield 48, 3) := by decide +kernel
theorem dX0_goToNextLine_5 : decode cX0_goToNextLine 5 = .ok (.iconst 1, 1) := by decide +kernel
theorem dX0_goToNextLine_6 : decode cX0_goToNextLine 6 = .ok (.iadd, 1) := by decide +kernel
theorem dX0_goToNextLine_7 : decode cX0_goToNextLine 7 = .ok (.putfield 48, 3) := by decide +kernel
theorem dX0_goToNextLine_10 : decode cX0_goToNextLine 10 = .ok (.aload_n 0, 1) := by decide +kernel
theorem dX0_goToNextLine_11 : decode cX0_goToNextLine 11 = .ok (.iconst 0, 1) := by decide +kernel
theorem dX0_goToNextLine_12 : decode cX0_goToNextLine 12 = .ok (.putfield 60, 3) := by decide +kernel
theorem dX0_goToNextLine_15 : decode cX0_goToNextLine 15 = .ok (.aload_n 0, 1) := by decide +kernel
theorem dX0_goToNextLine_16 : decode cX0_goToNextLine 16 = .ok (.getfield 48, 3) := by decide +kernel
theorem dX0_goToNextLine_19 : decode cX0_goToNextLine 19 = .ok (.aload_n 0, 1) := by decide +kernel
theorem dX0_goToNextLine_20 : decode cX0_goToNextLine 20 = .ok (.getfield 42, 3) := by decide +kernel
theorem dX0_goToNextLine_23 : decode cX0_goToNextLine 23 = .ok (.if_icmp .lt 8, 3) := by decide +kernel
theorem dX0_goToNextLine_26 : decode cX0_goToNextLine 26 = .ok (.aload_n 0, 1) := by decide +kernel
theorem dX0_goToNextLine_27 : decode cX0_goToNextLine 27 = .ok (.iconst 1, 1) := by decide +kernel
theorem dX0_goToNextLine_28 : decode cX0_goToNextLine 28 = .ok (.invokevirtual 110, 3) := by decide +kernel
theorem dX0_goToNextLine_31 : decode cX0_goToNextLine 31 = .ok (.return_, 1) := by decide +kernel
theorem dX0_tell_0 : decode cX0_tell 0 = .ok (.iload_n 1, 1) := by decide +kernel
theorem dX0_tell_1 : decode cX0_tell 1 = .ok (.tableswitch 83 0 5 #[39, 44, 49, 57, 73, 78], 39) := by decide +kernel
theorem dX0_tell_40 : decode cX0_tell 40 = .ok (.aload_n 0, 1) := by decide +kernel
theorem dX0_tell_41 : decode cX0_tell 41 = .ok (.getfield 34, 3) := by decide +kernel
theorem dX0_tell_44 : decode cX0_tell 44 = .ok (.ireturn, 1) := by decide +kernel
theorem dX0_tell_45 : decode cX0_tell 45 = .ok (.aload_n 0, 1) := by decide +kernel
theorem dX0_tell_46 : decode cX0_tell 46 = .ok (.getfield 70, 3) := by decide +kernel
theorem dX0_tell_49 : decode cX0_tell 49 = .ok (.ireturn, 1) := by decide +kernel
theorem dX0_tell_50 : decode cX0_tell 50 = .ok (.aload_n 0, 1) := by decide +kernel
theorem dX0_tell_51 : decode cX0_tell 51 = .ok (.invokevirtual 111, 3) := by decide +kernel
theorem dX0_tell_54 : decode cX0_tell 54 = .ok (.invokestatic 115, 3) := by decide +kernel
theorem dX0_tell_57 : decode cX0_tell 57 = .ok (.ireturn, 1) := by decide +kernel
theorem dX0_tell_58 : decode cX0_tell 58 = .ok (.aload_n 0, 1) := by decide +kernel
theorem dX0_tell_59 : decode cX0_tell 59 = .ok (.invokevirtual 111, 3) := by decide +kernel
theorem dX0_tell_62 : decode cX0_tell 62 = .ok (.ifCond .eq 10, 3) := by decide +kernel
theorem dX0_tell_65 : decode cX0_tell 65 = .ok (.aload_n 0, 1) := by decide +kernel
theorem dX0_tell_66 : decode cX0_tell 66 = .ok (.getfield 48, 3) := by decide +kernel
theorem dX0_tell_69 : decode cX0_tell 69 = .ok (.goto 4, 3) := by decide +kernel
theorem dX0_tell_72 : decode cX0_tell 72 = .ok (.iconst (-1), 1) := by decide +kernel
theorem dX0_tell_73 : decode cX0_tell 73 = .ok (.ireturn, 1) := by decide +kernel
theorem dX0_tell_74 : decode cX0_tell 74 = .ok (.aload_n 0, 1) := by decide +kernel
theorem dX0_tell_75 : decode cX0_tell 75 = .ok (.getfield 60, 3) := by decide +kernel
theorem dX0_tell_78 : decode cX0_tell 78 = .ok (.ireturn, 1) := by decide +kernel
theorem dX0_tell_79 : decode cX0_tell 79 = .ok (.aload_n 0, 1) := by decide +kernel
theorem dX0_tell_80 : decode cX0_tell 80 = .ok (.invokevirtual 119, 3) := by decide +kernel
theorem dX0_tell_83 : decode cX0_tell 83 = .ok (.ireturn, 1) := by decide +kernel
theorem dX0_tell_84 : decode cX0_tell 84 = .ok (.aload_n 0, 1) := by decide +kernel
theorem dX0_tell_85 : decode cX0_tell 85 = .ok (.getfield 42, 3) := by decide +kernel
theorem dX0_tell_88 : decode cX0_tell 88 = .ok (.ireturn, 1) := by decide +kernel
theorem dX0_digestFrom_0 : decode cX0_digestFrom 0 = .ok (.lload_n 1, 1) := by decide +kernel
theorem dX0_digestFrom_1 : decode cX0_digestFrom 1 = .ok (.lstore_n 3, 1) := by decide +kernel
theorem dX0_digestFrom_2 : decode cX0_digestFrom 2 = .ok (.iconst 0, 1) := by decide +kernel
theorem dX0_digestFrom_3 : decode cX0_digestFrom 3 = .ok (.istore 5, 2) := by decide +kernel
theorem dX0_digestFrom_5 : decode cX0_digestFrom 5 = .ok (.iload 5, 2) := by decide +kernel
theorem dX0_digestFrom_7 : decode cX0_digestFrom 7 = .ok (.bipush 6, 2) := by decide +kernel
theorem dX0_digestFrom_9 : decode cX0_digestFrom 9 = .ok (.if_icmp .gt 23, 3) := by decide +kernel
theorem dX0_digestFrom_12 : decode cX0_digestFrom 12 = .ok (.ldc2_w 122, 3) := by decide +kernel
theorem dX0_digestFrom_15 : decode cX0_digestFrom 15 = .ok (.lload_n 3, 1) := by decide +kernel
theorem dX0_digestFrom_16 : decode cX0_digestFrom 16 = .ok (.lmul, 1) := by decide +kernel
theorem dX0_digestFrom_17 : decode cX0_digestFrom 17 = .ok (.aload_n 0, 1) := by decide +kernel
theorem dX0_digestFrom_18 : decode cX0_digestFrom 18 = .ok (.iload 5, 2) := by decide +kernel
theorem dX0_digestFrom_20 : decode cX0_digestFrom 20 = .ok (.invokevirtual 124, 3) := by decide +kernel
theorem dX0_digestFrom_23 : decode cX0_digestFrom 23 = .ok (.i2l, 1) := by decide +kernel
theorem dX0_digestFrom_24 : decode cX0_digestFrom 24 = .ok (.ladd, 1) := by decide +kernel
theorem dX0_digestFrom_25 : decode cX0_digestFrom 25 = .ok (.lstore_n 3, 1) := by decide +kernel
theorem dX0_digestFrom_26 : decode cX0_digestFrom 26 = .ok (.iinc 5 1, 3) := by decide +kernel
theorem dX0_digestFrom_29 : decode cX0_digestFrom 29 = .ok (.goto (-24), 3) := by decide +kernel
theorem dX0_digestFrom_32 : decode cX0_digestFrom 32 = .ok (.lload_n 3, 1) := by decide +kernel
theorem dX0_digestFrom_33 : decode cX0_digestFrom 33 = .ok (.lreturn, 1) := by decide +kernel
theorem dX1_init_0 : decode cX1_init 0 = .ok (.aload_n 0, 1) := by decide +kernel
theorem dX1_init_1 : decode cX1_init 1 = .ok (.invokespecial 3, 3) := by decide +kernel
theorem dX1_init_4 : decode cX1_init 4 = .ok (.aload_n 0, 1) := by decide +kernel
theorem dX1_init_5 : decode cX1_init 5 = .ok (.bipush 7, 2) := by decide +kernel
theorem dX1_init_7 : decode cX1_init 7 = .ok (.newarray .int, 2) := by decide +kernel
theorem dX1_init_9 : decode cX1_init 9 = .ok (.putfield 9, 3) := by decide +kernel
theorem dX1_init_12 : decode cX1_init 12 = .ok (.aload_n 0, 1) := by decide +kernel
theorem dX1_init_13 : decode cX1_init 13 = .ok (.bipush 7, 2) := by decide +kernel
theorem dX1_init_15 : decode cX1_init 15 = .ok (.newarray .int, 2) := by decide +kernel
theorem dX1_init_17 : decode cX1_init 17 = .ok (.putfield 15, 3) := by decide +kernel
theorem dX1_init_20 : decode cX1_init 20 = .ok (.aload_n 0, 1) := by decide +kernel
theorem dX1_init_21 : decode cX1_init 21 = .ok (.sipush 128, 3) := by decide +kernel
theorem dX1_init_24 : decode cX1_init 24 = .ok (.newarray .int, 2) := by decide +kernel
theorem dX1_init_26 : decode cX1_init 26 = .ok (.putfield 18, 3) := by decide +kernel
theorem dX1_init_29 : decode cX1_init 29 = .ok (.aload_n 0, 1) := by decide +kernel
theorem dX1_init_30 : decode cX1_init 30 = .ok (.bipush 7, 2) := by decide +kernel
theorem dX1_init_32 : decode cX1_init 32 = .ok (.newarray .int, 2) := by decide +kernel
theorem dX1_init_34 : decode cX1_init 34 = .ok (.putfield 21, 3) := by decide +kernel
theorem dX1_init_37 : decode cX1_init 37 = .ok (.return_, 1) := by decide +kernel
theorem dX1_add_0 : decode cX1_add 0 = .ok (.aload_n 0, 1) := by decide +kernel
theorem dX1_add_1 : decode cX1_add 1 = .ok (.getfield 24, 3) := by decide +kernel
theorem dX1_add_4 : decode cX1_add 4 = .ok (.bipush 7, 2) := by decide +kernel
theorem dX1_add_6 : decode cX1_add 6 = .ok (.if_icmp .lt 6, 3) := by decide +kernel
theorem dX1_add_9 : decode cX1_add 9 = .ok (.bipush (-4), 2) := by decide +kernel
theorem dX1_add_11 : decode cX1_add 11 = .ok (.ireturn, 1) := by decide +kernel
theorem dX1_add_12 : decode cX1_add 12 = .ok (.aload_n 0, 1) := by decide +kernel
theorem dX1_add_13 : decode cX1_add 13 = .ok (.getfield 9, 3) := by decide +kernel
theorem dX1_add_16 : decode cX1_add 16 = .ok (.aload_n 0, 1) := by decide +kernel
theorem dX1_add_17 : decode cX1_add 17 = .ok (.getfield 24, 3) := by decide +kernel
theorem dX1_add_20 : decode cX1_add 20 = .ok (.iload_n 1, 1) := by decide +kernel
theorem dX1_add_21 : decode cX1_add 21 = .ok (.iastore, 1) := by decide +kernel
theorem dX1_add_22 : decode cX1_add 22 = .ok (.aload_n 0, 1) := by decide +kernel
theorem dX1_add_23 : decode cX1_add 23 = .ok (.getfield 15, 3) := by decide +kernel
theorem dX1_add_26 : decode cX1_add 26 = .ok (.aload_n 0, 1) := by decide +kernel
theorem dX1_add_27 : decode cX1_add 27 = .ok (.getfield 24, 3) := by decide +kernel
theorem dX1_add_30 : decode cX1_add 30 = .ok (.iload_n 2, 1) := by decide +kernel
theorem dX1_add_31 : decode cX1_add 31 = .ok (.iastore, 1) := by decide +kernel
theorem dX1_add_32 : decode cX1_add 32 = .ok (.aload_n 0, 1) := by decide +kernel
theorem dX1_add_33 : decode cX1_add 33 = .ok (.dup, 1) := by decide +kernel
theorem dX1_add_34 : decode cX1_add 34 = .ok (.getfield 24, 3) := by decide +kernel
theorem dX1_add_37 : decode cX1_add 37 = .ok (.iconst 1, 1) := by decide +kernel
theorem dX1_add_38 : decode cX1_add 38 = .ok (.iadd, 1) := by decide +kernel
theorem dX1_add_39 : decode cX1_add 39 = .ok (.putfield 24, 3) := by decide +kernel
theorem dX1_add_42 : decode cX1_add 42 = .ok (.aload_n 0, 1) := by decide +kernel
theorem dX1_add_43 : decode cX1_add 43 = .ok (.invokevirtual 28, 3) := by decide +kernel
theorem dX1_add_46 : decode cX1_add 46 = .ok (.aload_n 0, 1) := by decide +kernel
theorem dX1_add_47 : decode cX1_add 47 = .ok (.getfield 24, 3) := by decide +kernel
theorem dX1_add_50 : decode cX1_add 50 = .ok (.iconst 1, 1) := by decide +kernel
theorem dX1_add_51 : decode cX1_add 51 = .ok (.isub, 1) := by decide +kernel
theorem dX1_add_52 : decode cX1_add 52 = .ok (.ireturn, 1) := by decide +kernel
theorem dX1_removeAll_0 : decode cX1_removeAll 0 = .ok (.aload_n 0, 1) := by decide +kernel
theorem dX1_removeAll_1 : decode cX1_removeAll 1 = .ok (.getfield 24, 3) := by decide +kernel
theorem dX1_removeAll_4 : decode cX1_removeAll 4 = .ok (.istore_n 1, 1) := by decide +kernel
theorem dX1_removeAll_5 : decode cX1_removeAll 5 = .ok (.aload_n 0, 1) := by decide +kernel
theorem dX1_removeAll_6 : decode cX1_removeAll 6 = .ok (.iconst 0, 1) := by decide +kernel
theorem dX1_removeAll_7 : decode cX1_removeAll 7 = .ok (.putfield 24, 3) := by decide +kernel
theorem dX1_removeAll_10 : decode cX1_removeAll 10 = .ok (.aload_n 0, 1) := by decide +kernel
theorem dX1_removeAll_11 : decode cX1_removeAll 11 = .ok (.invokevirtual 28, 3) := by decide +kernel
theorem dX1_removeAll_14 : decode cX1_removeAll 14 = .ok (.iload_n 1, 1) := by decide +kernel
theorem dX1_removeAll_15 : decode cX1_removeAll 15 = .ok (.ireturn, 1) := by decide +kernel
theorem dX1_leastLateness_0 : decode cX1_leastLateness 0 = .ok (.aload_n 0, 1) := by decide +kernel
theorem dX1_leastLateness_1 : decode cX1_leastLateness 1 = .ok (.getfield 18, 3) := by decide +kernel
theorem dX1_leastLateness_4 : decode cX1_leastLateness 4 = .ok (.iconst 0, 1) := by decide +kernel
theorem dX1_leastLateness_5 : decode cX1_leastLateness 5 = .ok (.iaload, 1) := by decide +kernel
theorem dX1_leastLateness_6 : decode cX1_leastLateness 6 = .ok (.ireturn, 1) := by decide +kernel
theorem dX1_plan_0 : decode cX1_plan 0 = .ok (.iconst 1, 1) := by decide +kernel
theorem dX1_plan_1 : decode cX1_plan 1 = .ok (.aload_n 0, 1) := by decide +kernel
theorem dX1_plan_2 : decode cX1_plan 2 = .ok (.getfield 24, 3) := by decide +kernel
theorem dX1_plan_5 : decode cX1_plan 5 = .ok (.ishl, 1) := by decide +kernel
theorem dX1_plan_6 : decode cX1_plan 6 = .ok (.iconst 1, 1) := by decide +kernel
theorem dX1_plan_7 : decode cX1_plan 7 = .ok (.isub, 1) := by decide +kernel
theorem dX1_plan_8 : decode cX1_plan 8 = .ok (.istore_n 1, 1) := by decide +kernel
theorem dX1_plan_9 : decode cX1_plan 9 = .ok (.aload_n 0, 1) := by decide +kernel
theorem dX1_plan_10 : decode cX1_plan 10 = .ok (.getfield 18, 3) := by decide +kernel
theorem dX1_plan_13 : decode cX1_plan 13 = .ok (.iload_n 1, 1) := by decide +kernel
theorem dX1_plan_14 : decode cX1_plan 14 = .ok (.iconst 0, 1) := by decide +kernel
theorem dX1_plan_15 : decode cX1_plan 15 = .ok (.iastore, 1) := by decide +kernel
theorem dX1_plan_16 : decode cX1_plan 16 = .ok (.iload_n 1, 1) := by decide +kernel
theorem dX1_plan_17 : decode cX1_plan 17 = .ok (.iconst 1, 1) := by decide +kernel
theorem dX1_plan_18 : decode cX1_plan 18 = .ok (.isub, 1) := by decide +kernel
theorem dX1_plan_19 : decode cX1_plan 19 = .ok (.istore_n 2, 1) := by decide +kernel
theorem dX1_plan_20 : decode cX1_plan 20 = .ok (.iload_n 2, 1) := by decide +kernel
theorem dX1_plan_21 : decode cX1_plan 21 = .ok (.ifCond .lt 27, 3) := by decide +kernel
theorem dX1_plan_24 : decode cX1_plan 24 = .ok (.aload_n 0, 1) := by decide +kernel
theorem dX1_plan_25 : decode cX1_plan 25 = .ok (.iload_n 2, 1) := by decide +kernel
theorem dX1_plan_26 : decode cX1_plan 26 = .ok (.invokevirtual 31, 3) := by decide +kernel
theorem dX1_plan_29 : decode cX1_plan 29 = .ok (.istore_n 3, 1) := by decide +kernel
theorem dX1_plan_30 : decode cX1_plan 30 = .ok (.aload_n 0, 1) := by decide +kernel
theorem dX1_plan_31 : decode cX1_plan 31 = .ok (.getfield 18, 3) := by decide +kernel
theorem dX1_plan_34 : decode cX1_plan 34 = .ok (.iload_n 2, 1) := by decide +kernel
theorem dX1_plan_35 : decode cX1_plan 35 = .ok (.aload_n 0, 1) := by decide +kernel
theorem dX1_plan_36 : decode cX1_plan 36 = .ok (.iload_n 3, 1) := by decide +kernel
theorem dX1_plan_37 : decode cX1_plan 37 = .ok (.iload_n 2, 1) := by decide +kernel
theorem dX1_plan_38 : decode cX1_plan 38 = .ok (.invokevirtual 35, 3) := by decide +kernel
theorem dX1_plan_41 : decode cX1_plan 41 = .ok (.iastore, 1) := by decide +kernel
theorem dX1_plan_42 : decode cX1_plan 42 = .ok (.iinc 2 (-1), 3) := by decide +kernel
theorem dX1_plan_45 : decode cX1_plan 45 = .ok (.goto (-25), 3) := by decide +kernel
theorem dX1_plan_48 : decode cX1_plan 48 = .ok (.iconst 0, 1) := by decide +kernel
theorem dX1_plan_49 : decode cX1_plan 49 = .ok (.istore_n 2, 1) := by decide +kernel
theorem dX1_plan_50 : decode cX1_plan 50 = .ok (.iconst 0, 1) := by decide +kernel
theorem dX1_plan_51 : decode cX1_plan 51 = .ok (.istore_n 3, 1) := by decide +kernel
theorem dX1_plan_52 : decode cX1_plan 52 = .ok (.iload_n 3, 1) := by decide +kernel
theorem dX1_plan_53 : decode cX1_plan 53 = .ok (.aload_n 0, 1) := by decide +kernel
theorem dX1_plan_54 : decode cX1_plan 54 = .ok (.getfield 24, 3) := by decide +kernel
theorem dX1_plan_57 : decode cX1_plan 57 = .ok (.if_icmp .ge 31, 3) := by decide +kernel
theorem dX1_plan_60 : decode cX1_plan 60 = .ok (.aload_n 0, 1) := by decide +kernel
theorem dX1_plan_61 : decode cX1_plan 61 = .ok (.getfield 21, 3) := by decide +kernel
theorem dX1_plan_64 : decode cX1_plan 64 = .ok (.iload_n 3, 1) := by decide +kernel
theorem dX1_plan_65 : decode cX1_plan 65 = .ok (.aload_n 0, 1) := by decide +kernel
theorem dX1_plan_66 : decode cX1_plan 66 = .ok (.iload_n 2, 1) := by decide +kernel
theorem dX1_plan_67 : decode cX1_plan 67 = .ok (.invokevirtual 31, 3) := by decide +kernel
theorem dX1_plan_70 : decode cX1_plan 70 = .ok (.iastore, 1) := by decide +kernel
theorem dX1_plan_71 : decode cX1_plan 71 = .ok (.iload_n 2, 1) := by decide +kernel
theorem dX1_plan_72 : decode cX1_plan 72 = .ok (.iconst 1, 1) := by decide +kernel
theorem dX1_plan_73 : decode cX1_plan 73 = .ok (.aload_n 0, 1) := by decide +kernel
theorem dX1_plan_74 : decode cX1_plan 74 = .ok (.getfield 21, 3) := by decide +kernel
theorem dX1_plan_77 : decode cX1_plan 77 = .ok (.iload_n 3, 1) := by decide +kernel
theorem dX1_plan_78 : decode cX1_plan 78 = .ok (.iaload, 1) := by decide +kernel
theorem dX1_plan_79 : decode cX1_plan 79 = .ok (.ishl, 1) := by decide +kernel
theorem dX1_plan_80 : decode cX1_plan 80 = .ok (.ior, 1) := by decide +kernel
theorem dX1_plan_81 : decode cX1_plan 81 = .ok (.istore_n 2, 1) := by decide +kernel
theorem dX1_plan_82 : decode cX1_plan 82 = .ok (.iinc 3 1, 3) := by decide +kernel
theorem dX1_plan_85 : decode cX1_plan 85 = .ok (.goto (-33), 3) := by decide +kernel
theorem dX1_plan_88 : decode cX1_plan 88 = .ok (.return_, 1) := by decide +kernel
theorem dX1_nextOf_0 : decode cX1_nextOf 0 = .ok (.iconst 0, 1) := by decide +kernel
theorem dX1_nextOf_1 : decode cX1_nextOf 1 = .ok (.istore_n 2, 1) := by decide +kernel
theorem dX1_nextOf_2 : decode cX1_nextOf 2 = .ok (.ldc 41, 2) := by decide +kernel
theorem dX1_nextOf_4 : decode cX1_nextOf 4 = .ok (.istore_n 3, 1) := by decide +kernel
theorem dX1_nextOf_5 : decode cX1_nextOf 5 = .ok (.iconst 0, 1) := by decide +kernel
theorem dX1_nextOf_6 : decode cX1_nextOf 6 = .ok (.istore 4, 2) := by decide +kernel
theorem dX1_nextOf_8 : decode cX1_nextOf 8 = .ok (.iload 4, 2) := by decide +kernel
theorem dX1_nextOf_10 : decode cX1_nextOf 10 = .ok (.aload_n 0, 1) := by decide +kernel
theorem dX1_nextOf_11 : decode cX1_nextOf 11 = .ok (.getfield 24, 3) := by decide +kernel
theorem dX1_nextOf_14 : decode cX1_nextOf 14 = .ok (.if_icmp .ge 39, 3) := by decide +kernel
theorem dX1_nextOf_17 : decode cX1_nextOf 17 = .ok (.iload_n 1, 1) := by decide +kernel
theorem dX1_nextOf_18 : decode cX1_nextOf 18 = .ok (.iload 4, 2) := by decide +kernel
theorem dX1_nextOf_20 : decode cX1_nextOf 20 = .ok (.ishr, 1) := by decide +kernel
theorem dX1_nextOf_21 : decode cX1_nextOf 21 = .ok (.iconst 1, 1) := by decide +kernel
theorem dX1_nextOf_22 : decode cX1_nextOf 22 = .ok (.iand, 1) := by decide +kernel
theorem dX1_nextOf_23 : decode cX1_nextOf 23 = .ok (.ifCond .ne 24, 3) := by decide +kernel
theorem dX1_nextOf_26 : decode cX1_nextOf 26 = .ok (.aload_n 0, 1) := by decide +kernel
theorem dX1_nextOf_27 : decode cX1_nextOf 27 = .ok (.iload 4, 2) := by decide +kernel
theorem dX1_nextOf_29 : decode cX1_nextOf 29 = .ok (.iload_n 1, 1) := by decide +kernel
theorem dX1_nextOf_30 : decode cX1_nextOf 30 = .ok (.invokevirtual 35, 3) := by decide +kernel
theorem dX1_nextOf_33 : decode cX1_nextOf 33 = .ok (.istore 5, 2) := by decide +kernel
theorem dX1_nextOf_35 : decode cX1_nextOf 35 = .ok (.iload 5, 2) := by decide +kernel
theorem dX1_nextOf_37 : decode cX1_nextOf 37 = .ok (.iload_n 3, 1) := by decide +kernel
theorem dX1_nextOf_38 : decode cX1_nextOf 38 = .ok (.if_icmp .ge 9, 3) := by decide +kernel
theorem dX1_nextOf_41 : decode cX1_nextOf 41 = .ok (.iload 5, 2) := by decide +kernel
theorem dX1_nextOf_43 : decode cX1_nextOf 43 = .ok (.istore_n 3, 1) := by decide +kernel
theorem dX1_nextOf_44 : decode cX1_nextOf 44 = .ok (.iload 4, 2) := by decide +kernel
theorem dX1_nextOf_46 : decode cX1_nextOf 46 = .ok (.istore_n 2, 1) := by decide +kernel
theorem dX1_nextOf_47 : decode cX1_nextOf 47 = .ok (.iinc 4 1, 3) := by decide +kernel
theorem dX1_nextOf_50 : decode cX1_nextOf 50 = .ok (.goto (-42), 3) := by decide +kernel
theorem dX1_nextOf_53 : decode cX1_nextOf 53 = .ok (.iload_n 2, 1) := by decide +kernel
theorem dX1_nextOf_54 : decode cX1_nextOf 54 = .ok (.ireturn, 1) := by decide +kernel
theorem dX1_latenessWith_0 : decode cX1_latenessWith 0 = .ok (.aload_n 0, 1) := by decide +kernel
theorem dX1_latenessWith_1 : decode cX1_latenessWith 1 = .ok (.getfield 9, 3) := by decide +kernel
theorem dX1_latenessWith_4 : decode cX1_latenessWith 4 = .ok (.iload_n 1, 1) := by decide +kernel
theorem dX1_latenessWith_5 : decode cX1_latenessWith 5 = .ok (.iaload, 1) := by decide +kernel
theorem dX1_latenessWith_6 : decode cX1_latenessWith 6 = .ok (.istore_n 3, 1) := by decide +kernel
theorem dX1_latenessWith_7 : decode cX1_latenessWith 7 = .ok (.iconst 0, 1) := by decide +kernel
theorem dX1_latenessWith_8 : decode cX1_latenessWith 8 = .ok (.istore 4, 2) := by decide +kernel
theorem dX1_latenessWith_10 : decode cX1_latenessWith 10 = .ok (.iload 4, 2) := by decide +kernel
theorem dX1_latenessWith_12 : decode cX1_latenessWith 12 = .ok (.aload_n 0, 1) := by decide +kernel
theorem dX1_latenessWith_13 : decode cX1_latenessWith 13 = .ok (.getfield 24, 3) := by decide +kernel
theorem dX1_latenessWith_16 : decode cX1_latenessWith 16 = .ok (.if_icmp .ge 29, 3) := by decide +kernel
theorem dX1_latenessWith_19 : decode cX1_latenessWith 19 = .ok (.iload_n 2, 1) := by decide +kernel
theorem dX1_latenessWith_20 : decode cX1_latenessWith 20 = .ok (.iload 4, 2) := by decide +kernel
theorem dX1_latenessWith_22 : decode cX1_latenessWith 22 = .ok (.ishr, 1) := by decide +kernel
theorem dX1_latenessWith_23 : decode cX1_latenessWith 23 = .ok (.iconst 1, 1) := by decide +kernel
theorem dX1_latenessWith_24 : decode cX1_latenessWith 24 = .ok (.iand, 1) := by decide +kernel
theorem dX1_latenessWith_25 : decode cX1_latenessWith 25 = .ok (.iconst 1, 1) := by decide +kernel
theorem dX1_latenessWith_26 : decode cX1_latenessWith 26 = .ok (.if_icmp .ne 13, 3) := by decide +kernel
theorem dX1_latenessWith_29 : decode cX1_latenessWith 29 = .ok (.iload_n 3, 1) := by decide +kernel
theorem dX1_latenessWith_30 : decode cX1_latenessWith 30 = .ok (.aload_n 0, 1) := by decide +kernel
theorem dX1_latenessWith_31 : decode cX1_latenessWith 31 = .ok (.getfield 9, 3) := by decide +kernel
theorem dX1_latenessWith_34 : decode cX1_latenessWith 34 = .ok (.iload 4, 2) := by decide +kernel
theorem dX1_latenessWith_36 : decode cX1_latenessWith 36 = .ok (.iaload, 1) := by decide +kernel
theorem dX1_latenessWith_37 : decode cX1_latenessWith 37 = .ok (.iadd, 1) := by decide +kernel
theorem dX1_latenessWith_38 : decode cX1_latenessWith 38 = .ok (.istore_n 3, 1) := by decide +kernel
theorem dX1_latenessWith_39 : decode cX1_latenessWith 39 = .ok (.iinc 4 1, 3) := by decide +kernel
theorem dX1_latenessWith_42 : decode cX1_latenessWith 42 = .ok (.goto (-32), 3) := by decide +kernel
theorem dX1_latenessWith_45 : decode cX1_latenessWith 45 = .ok (.iconst 0, 1) := by decide +kernel
theorem dX1_latenessWith_46 : decode cX1_latenessWith 46 = .ok (.iload_n 3, 1) := by decide +kernel
theorem dX1_latenessWith_47 : decode cX1_latenessWith 47 = .ok (.aload_n 0, 1) := by decide +kernel
theorem dX1_latenessWith_48 : decode cX1_latenessWith 48 = .ok (.getfield 15, 3) := by decide +kernel
theorem dX1_latenessWith_51 : decode cX1_latenessWith 51 = .ok (.iload_n 1, 1) := by decide +kernel
theorem dX1_latenessWith_52 : decode cX1_latenessWith 52 = .ok (.iaload, 1) := by decide +kernel
theorem dX1_latenessWith_53 : decode cX1_latenessWith 53 = .ok (.isub, 1) := by decide +kernel
theorem dX1_latenessWith_54 : decode cX1_latenessWith 54 = .ok (.invokestatic 42, 3) := by decide +kernel
theorem dX1_latenessWith_57 : decode cX1_latenessWith 57 = .ok (.aload_n 0, 1) := by decide +kernel
theorem dX1_latenessWith_58 : decode cX1_latenessWith 58 = .ok (.getfield 18, 3) := by decide +kernel
theorem dX1_latenessWith_61 : decode cX1_latenessWith 61 = .ok (.iload_n 2, 1) := by decide +kernel
theorem dX1_latenessWith_62 : decode cX1_latenessWith 62 = .ok (.iconst 1, 1) := by decide +kernel
theorem dX1_latenessWith_63 : decode cX1_latenessWith 63 = .ok (.iload_n 1, 1) := by decide +kernel
theorem dX1_latenessWith_64 : decode cX1_latenessWith 64 = .ok (.ishl, 1) := by decide +kernel
theorem dX1_latenessWith_65 : decode cX1_latenessWith 65 = .ok (.ior, 1) := by decide +kernel
theorem dX1_latenessWith_66 : decode cX1_latenessWith 66 = .ok (.iaload, 1) := by decide +kernel
theorem dX1_latenessWith_67 : decode cX1_latenessWith 67 = .ok (.iadd, 1) := by decide +kernel
theorem dX1_latenessWith_68 : decode cX1_latenessWith 68 = .ok (.ireturn, 1) := by decide +kernel
theorem dX2_init_0 : decode cX2_init 0 = .ok (.aload_n 0, 1) := by decide +kernel
theorem dX2_init_1 : decode cX2_init 1 = .ok (.invokespecial 3, 3) := by decide +kernel
theorem dX2_init_4 : decode cX2_init 4 = .ok (.aload_n 0, 1) := by decide +kernel
theorem dX2_init_5 : decode cX2_init 5 = .ok (.iload_n 1, 1) := by decide +kernel
theorem dX2_init_6 : decode cX2_init 6 = .ok (.putfield 9, 3) := by decide +kernel
theorem dX2_init_9 : decode cX2_init 9 = .ok (.aload_n 0, 1) := by decide +kernel
theorem dX2_init_10 : decode cX2_init 10 = .ok (.iload_n 3, 1) := by decide +kernel
theorem dX2_init_11 : decode cX2_init 11 = .ok (.putfield 15, 3) := by decide +kernel
theorem dX2_init_14 : decode cX2_init 14 = .ok (.aload_n 0, 1) := by decide +kernel
theorem dX2_init_15 : decode cX2_init 15 = .ok (.iload 4, 2) := by decide +kernel
theorem dX2_init_17 : decode cX2_init 17 = .ok (.putfield 18, 3) := by decide +kernel
theorem dX2_init_20 : decode cX2_init 20 = .ok (.aload_n 0, 1) := by decide +kernel
theorem dX2_init_21 : decode cX2_init 21 = .ok (.iload 5, 2) := by decide +kernel
theorem dX2_init_23 : decode cX2_init 23 = .ok (.putfield 21, 3) := by decide +kernel
theorem dX2_init_26 : decode cX2_init 26 = .ok (.aload_n 0, 1) := by decide +kernel
theorem dX2_init_27 : decode cX2_init 27 = .ok (.iload 6, 2) := by decide +kernel
theorem dX2_init_29 : decode cX2_init 29 = .ok (.putfield 24, 3) := by decide +kernel
theorem dX2_init_32 : decode cX2_init 32 = .ok (.aload_n 0, 1) := by decide +kernel
theorem dX2_init_33 : decode cX2_init 33 = .ok (.iload 7, 2) := by decide +kernel
theorem dX2_init_35 : decode cX2_init 35 = .ok (.putfield 27, 3) := by decide +kernel
theorem dX2_init_38 : decode cX2_init 38 = .ok (.aload_n 0, 1) := by decide +kernel
theorem dX2_init_39 : decode cX2_init 39 = .ok (.iload_n 2, 1) := by decide +kernel
theorem dX2_init_40 : decode cX2_init 40 = .ok (.anewarray 30, 3) := by decide +kernel
theorem dX2_init_43 : decode cX2_init 43 = .ok (.putfield 32, 3) := by decide +kernel
theorem dX2_init_46 : decode cX2_init 46 = .ok (.iconst 0, 1) := by decide +kernel
theorem dX2_init_47 : decode cX2_init 47 = .ok (.istore 8, 2) := by decide +kernel
theorem dX2_init_49 : decode cX2_init 49 = .ok (.iload 8, 2) := by decide +kernel
theorem dX2_init_51 : decode cX2_init 51 = .ok (.iload_n 2, 1) := by decide +kernel
theorem dX2_init_52 : decode cX2_init 52 = .ok (.if_icmp .ge 23, 3) := by decide +kernel
theorem dX2_init_55 : decode cX2_init 55 = .ok (.aload_n 0, 1) := by decide +kernel
theorem dX2_init_56 : decode cX2_init 56 = .ok (.getfield 32, 3) := by decide +kernel
theorem dX2_init_59 : decode cX2_init 59 = .ok (.iload 8, 2) := by decide +kernel
theorem dX2_init_61 : decode cX2_init 61 = .ok (.new 30, 3) := by decide +kernel
theorem dX2_init_64 : decode cX2_init 64 = .ok (.dup, 1) := by decide +kernel
theorem dX2_init_65 : decode cX2_init 65 = .ok (.invokespecial 36, 3) := by decide +kernel
theorem dX2_init_68 : decode cX2_init 68 = .ok (.aastore, 1) := by decide +kernel
theorem dX2_init_69 : decode cX2_init 69 = .ok (.iinc 8 1, 3) := by decide +kernel
theorem dX2_init_72 : decode cX2_init 72 = .ok (.goto (-23), 3) := by decide +kernel
theorem dX2_init_75 : decode cX2_init 75 = .ok (.return_, 1) := by decide +kernel
theorem dX2_stepBeside_0 : decode cX2_stepBeside 0 = .ok (.aload_n 0, 1) := by decide +kernel
theorem dX2_stepBeside_1 : decode cX2_stepBeside 1 = .ok (.iload_n 1, 1) := by decide +kernel
theorem dX2_stepBeside_2 : decode cX2_stepBeside 2 = .ok (.invokevirtual 37, 3) := by decide +kernel
theorem dX2_stepBeside_5 : decode cX2_stepBeside 5 = .ok (.iconst 0, 1) := by decide +kernel
theorem dX2_stepBeside_6 : decode cX2_stepBeside 6 = .ok (.istore_n 2, 1) := by decide +kernel
theorem dX2_stepBeside_7 : decode cX2_stepBeside 7 = .ok (.iload_n 2, 1) := by decide +kernel
theorem dX2_stepBeside_8 : decode cX2_stepBeside 8 = .ok (.aload_n 0, 1) := by decide +kernel
theorem dX2_stepBeside_9 : decode cX2_stepBeside 9 = .ok (.getfield 32, 3) := by decide +kernel
theorem dX2_stepBeside_12 : decode cX2_stepBeside 12 = .ok (.arraylength, 1) := by decide +kernel
theorem dX2_stepBeside_13 : decode cX2_stepBeside 13 = .ok (.if_icmp .ge 26, 3) := by decide +kernel
theorem dX2_stepBeside_16 : decode cX2_stepBeside 16 = .ok (.aload_n 0, 1) := by decide +kernel
theorem dX2_stepBeside_17 : decode cX2_stepBeside 17 = .ok (.getfield 32, 3) := by decide +kernel
theorem dX2_stepBeside_20 : decode cX2_stepBeside 20 = .ok (.iload_n 2, 1) := by decide +kernel
theorem dX2_stepBeside_21 : decode cX2_stepBeside 21 = .ok (.aaload, 1) := by decide +kernel
theorem dX2_stepBeside_22 : decode cX2_stepBeside 22 = .ok (.aload_n 0, 1) := by decide +kernel
theorem dX2_stepBeside_23 : decode cX2_stepBeside 23 = .ok (.getfield 24, 3) := by decide +kernel
theorem dX2_stepBeside_26 : decode cX2_stepBeside 26 = .ok (.aload_n 0, 1) := by decide +kernel
theorem dX2_stepBeside_27 : decode cX2_stepBeside 27 = .ok (.getfield 27, 3) := by decide +kernel
theorem dX2_stepBeside_30 : decode cX2_stepBeside 30 = .ok (.invokevirtual 41, 3) := by decide +kernel
theorem dX2_stepBeside_33 : decode cX2_stepBeside 33 = .ok (.iinc 2 1, 3) := by decide +kernel
theorem dX2_stepBeside_36 : decode cX2_stepBeside 36 = .ok (.goto (-29), 3) := by decide +kernel
theorem dX2_stepBeside_39 : decode cX2_stepBeside 39 = .ok (.return_, 1) := by decide +kernel
theorem dX2_moveWarmth_0 : decode cX2_moveWarmth 0 = .ok (.iload_n 1, 1) := by decide +kernel
theorem dX2_moveWarmth_1 : decode cX2_moveWarmth 1 = .ok (.aload_n 0, 1) := by decide +kernel
theorem dX2_moveWarmth_2 : decode cX2_moveWarmth 2 = .ok (.getfield 32, 3) := by decide +kernel
theorem dX2_moveWarmth_5 : decode cX2_moveWarmth 5 = .ok (.iconst 0, 1) := by decide +kernel
theorem dX2_moveWarmth_6 : decode cX2_moveWarmth 6 = .ok (.aaload, 1) := by decide +kernel
theorem dX2_moveWarmth_7 : decode cX2_moveWarmth 7 = .ok (.getfield 45, 3) := by decide +kernel
theorem dX2_moveWarmth_10 : decode cX2_moveWarmth 10 = .ok (.isub, 1) := by decide +kernel
theorem dX2_moveWarmth_11 : decode cX2_moveWarmth 11 = .ok (.aload_n 0, 1) := by decide +kernel
theorem dX2_moveWarmth_12 : decode cX2_moveWarmth 12 = .ok (.getfield 21, 3) := by decide +kernel
theorem dX2_moveWarmth_15 : decode cX2_moveWarmth 15 = .ok (.imul, 1) := by decide +kernel
theorem dX2_moveWarmth_16 : decode cX2_moveWarmth 16 = .ok (.sipush 1000, 3) := by decide +kernel
theorem dX2_moveWarmth_19 : decode cX2_moveWarmth 19 = .ok (.idiv, 1) := by decide +kernel
theorem dX2_moveWarmth_20 : decode cX2_moveWarmth 20 = .ok (.istore_n 2, 1) := by decide +kernel
theorem dX2_moveWarmth_21 : decode cX2_moveWarmth 21 = .ok (.aload_n 0, 1) := by decide +kernel
theorem dX2_moveWarmth_22 : decode cX2_moveWarmth 22 = .ok (.dup, 1) := by decide +kernel
theorem dX2_moveWarmth_23 : decode cX2_moveWarmth 23 = .ok (.getfield 48, 3) := by decide +kernel
theorem dX2_moveWarmth_26 : decode cX2_moveWarmth 26 = .ok (.iload_n 2, 1) := by decide +kernel
theorem dX2_moveWarmth_27 : decode cX2_moveWarmth 27 = .ok (.i2l, 1) := by decide +kernel
theorem dX2_moveWarmth_28 : decode cX2_moveWarmth 28 = .ok (.ladd, 1) := by decide +kernel
theorem dX2_moveWarmth_29 : decode cX2_moveWarmth 29 = .ok (.putfield 48, 3) := by decide +kernel
theorem dX2_moveWarmth_32 : decode cX2_moveWarmth 32 = .ok (.iconst 0, 1) := by decide +kernel
theorem dX2_moveWarmth_33 : decode cX2_moveWarmth 33 = .ok (.istore_n 3, 1) := by decide +kernel
theorem dX2_moveWarmth_34 : decode cX2_moveWarmth 34 = .ok (.iload_n 3, 1) := by decide +kernel
theorem dX2_moveWarmth_35 : decode cX2_moveWarmth 35 = .ok (.aload_n 0, 1) := by decide +kernel
theorem dX2_moveWarmth_36 : decode cX2_moveWarmth 36 = .ok (.getfield 32, 3) := by decide +kernel
theorem dX2_moveWarmth_39 : decode cX2_moveWarmth 39 = .ok (.arraylength, 1) := by decide +kernel
theorem dX2_moveWarmth_40 : decode cX2_moveWarmth 40 = .ok (.if_icmp .ge 37, 3) := by decide +kernel
theorem dX2_moveWarmth_43 : decode cX2_moveWarmth 43 = .ok (.aload_n 0, 1) := by decide +kernel
theorem dX2_moveWarmth_44 : decode cX2_moveWarmth 44 = .ok (.iload_n 3, 1) := by decide +kernel
theorem dX2_moveWarmth_45 : decode cX2_moveWarmth 45 = .ok (.invokevirtual 52, 3) := by decide +kernel
theorem dX2_moveWarmth_48 : decode cX2_moveWarmth 48 = .ok (.istore 4, 2) := by decide +kernel
theorem dX2_moveWarmth_50 : decode cX2_moveWarmth 50 = .ok (.aload_n 0, 1) := by decide +kernel
theorem dX2_moveWarmth_51 : decode cX2_moveWarmth 51 = .ok (.getfield 32, 3) := by decide +kernel
theorem dX2_moveWarmth_54 : decode cX2_moveWarmth 54 = .ok (.iload_n 3, 1) := by decide +kernel
theorem dX2_moveWarmth_55 : decode cX2_moveWarmth 55 = .ok (.aaload, 1) := by decide +kernel
theorem dX2_moveWarmth_56 : decode cX2_moveWarmth 56 = .ok (.dup, 1) := by decide +kernel
theorem dX2_moveWarmth_57 : decode cX2_moveWarmth 57 = .ok (.getfield 45, 3) := by decide +kernel
theorem dX2_moveWarmth_60 : decode cX2_moveWarmth 60 = .ok (.iload_n 2, 1) := by decide +kernel
theorem dX2_moveWarmth_61 : decode cX2_moveWarmth 61 = .ok (.iload 4, 2) := by decide +kernel
theorem dX2_moveWarmth_63 : decode cX2_moveWarmth 63 = .ok (.isub, 1) := by decide +kernel
theorem dX2_moveWarmth_64 : decode cX2_moveWarmth 64 = .ok (.iadd, 1) := by decide +kernel
theorem dX2_moveWarmth_65 : decode cX2_moveWarmth 65 = .ok (.putfield 45, 3) := by decide +kernel
theorem dX2_moveWarmth_68 : decode cX2_moveWarmth 68 = .ok (.iload 4, 2) := by decide +kernel
theorem dX2_moveWarmth_70 : decode cX2_moveWarmth 70 = .ok (.istore_n 2, 1) := by decide +kernel
theorem dX2_moveWarmth_71 : decode cX2_moveWarmth 71 = .ok (.iinc 3 1, 3) := by decide +kernel
theorem dX2_moveWarmth_74 : decode cX2_moveWarmth 74 = .ok (.goto (-40), 3) := by decide +kernel
theorem dX2_moveWarmth_77 : decode cX2_moveWarmth 77 = .ok (.return_, 1) := by decide +kernel
theorem dX2_flowFrom_0 : decode cX2_flowFrom 0 = .ok (.iload_n 1, 1) := by decide +kernel
theorem dX2_flowFrom_1 : decode cX2_flowFrom 1 = .ok (.iconst 1, 1) := by decide +kernel
theorem dX2_flowFrom_2 : decode cX2_flowFrom 2 = .ok (.iadd, 1) := by decide +kernel
theorem dX2_flowFrom_3 : decode cX2_flowFrom 3 = .ok (.aload_n 0, 1) := by decide +kernel
theorem dX2_flowFrom_4 : decode cX2_flowFrom 4 = .ok (.getfield 32, 3) := by decide +kernel
theorem dX2_flowFrom_7 : decode cX2_flowFrom 7 = .ok (.arraylength, 1) := by decide +kernel
theorem dX2_flowFrom_8 : decode cX2_flowFrom 8 = .ok (.if_icmp .lt 5, 3) := by decide +kernel
theorem dX2_flowFrom_11 : decode cX2_flowFrom 11 = .ok (.iconst 0, 1) := by decide +kernel
theorem dX2_flowFrom_12 : decode cX2_flowFrom 12 = .ok (.ireturn, 1) := by decide +kernel
theorem dX2_flowFrom_13 : decode cX2_flowFrom 13 = .ok (.aload_n 0, 1) := by decide +kernel
theorem dX2_flowFrom_14 : decode cX2_flowFrom 14 = .ok (.getfield 32, 3) := by decide +kernel
theorem dX2_flowFrom_17 : decode cX2_flowFrom 17 = .ok (.iload_n 1, 1) := by decide +kernel
theorem dX2_flowFrom_18 : decode cX2_flowFrom 18 = .ok (.aaload, 1) := by decide +kernel
theorem dX2_flowFrom_19 : decode cX2_flowFrom 19 = .ok (.getfield 45, 3) := by decide +kernel
theorem dX2_flowFrom_22 : decode cX2_flowFrom 22 = .ok (.aload_n 0, 1) := by decide +kernel
theorem dX2_flowFrom_23 : decode cX2_flowFrom 23 = .ok (.getfield 32, 3) := by decide +kernel
theorem dX2_flowFrom_26 : decode cX2_flowFrom 26 = .ok (.iload_n 1, 1) := by decide +kernel
theorem dX2_flowFrom_27 : decode cX2_flowFrom 27 = .ok (.iconst 1, 1) := by decide +kernel
theorem dX2_flowFrom_28 : decode cX2_flowFrom 28 = .ok (.iadd, 1) := by decide +kernel
theorem dX2_flowFrom_29 : decode cX2_flowFrom 29 = .ok (.aaload, 1) := by decide +kernel
theorem dX2_flowFrom_30 : decode cX2_flowFrom 30 = .ok (.getfield 45, 3) := by decide +kernel
theorem dX2_flowFrom_33 : decode cX2_flowFrom 33 = .ok (.isub, 1) := by decide +kernel
theorem dX2_flowFrom_34 : decode cX2_flowFrom 34 = .ok (.aload_n 0, 1) := by decide +kernel
theorem dX2_flowFrom_35 : decode cX2_flowFrom 35 = .ok (.getfield 18, 3) := by decide +kernel
theorem dX2_flowFrom_38 : decode cX2_flowFrom 38 = .ok (.imul, 1) := by decide +kernel
theorem dX2_flowFrom_39 : decode cX2_flowFrom 39 = .ok (.sipush 1000, 3) := by decide +kernel
theorem dX2_flowFrom_42 : decode cX2_flowFrom 42 = .ok (.idiv, 1) := by decide +kernel
theorem dX2_flowFrom_43 : decode cX2_flowFrom 43 = .ok (.ireturn, 1) := by decide +kernel
theorem dX2_innermostWarmth_0 : decode cX2_innermostWarmth 0 = .ok (.aload_n 0, 1) := by decide +kernel
theorem dX2_innermostWarmth_1 : decode cX2_innermostWarmth 1 = .ok (.getfield 32, 3) := by decide +kernel
theorem dX2_innermostWarmth_4 : decode cX2_innermostWarmth 4 = .ok (.aload_n 0, 1) := by decide +kernel
theorem dX2_innermostWarmth_5 : decode cX2_innermostWarmth 5 = .ok (.getfield 32, 3) := by decide +kernel
theorem dX2_innermostWarmth_8 : decode cX2_innermostWarmth 8 = .ok (.arraylength, 1) := by decide +kernel
theorem dX2_innermostWarmth_9 : decode cX2_innermostWarmth 9 = .ok (.iconst 1, 1) := by decide +kernel
theorem dX2_innermostWarmth_10 : decode cX2_innermostWarmth 10 = .ok (.isub, 1) := by decide +kernel
theorem dX2_innermostWarmth_11 : decode cX2_innermostWarmth 11 = .ok (.aaload, 1) := by decide +kernel
theorem dX2_innermostWarmth_12 : decode cX2_innermostWarmth 12 = .ok (.getfield 45, 3) := by decide +kernel
theorem dX2_innermostWarmth_15 : decode cX2_innermostWarmth 15 = .ok (.ireturn, 1) := by decide +kernel
theorem dX2_warmthAstray_0 : decode cX2_warmthAstray 0 = .ok (.aload_n 0, 1) := by decide +kernel
theorem dX2_warmthAstray_1 : decode cX2_warmthAstray 1 = .ok (.getfield 48, 3) := by decide +kernel
theorem dX2_warmthAstray_4 : decode cX2_warmthAstray 4 = .ok (.lneg, 1) := by decide +kernel
theorem dX2_warmthAstray_5 : decode cX2_warmthAstray 5 = .ok (.lstore_n 1, 1) := by decide +kernel
theorem dX2_warmthAstray_6 : decode cX2_warmthAstray 6 = .ok (.iconst 0, 1) := by decide +kernel
theorem dX2_warmthAstray_7 : decode cX2_warmthAstray 7 = .ok (.istore_n 3, 1) := by decide +kernel
theorem dX2_warmthAstray_8 : decode cX2_warmthAstray 8 = .ok (.iload_n 3, 1) := by decide +kernel
theorem dX2_warmthAstray_9 : decode cX2_warmthAstray 9 = .ok (.aload_n 0, 1) := by decide +kernel
theorem dX2_warmthAstray_10 : decode cX2_warmthAstray 10 = .ok (.getfield 32, 3) := by decide +kernel
theorem dX2_warmthAstray_13 : decode cX2_warmthAstray 13 = .ok (.arraylength, 1) := by decide +kernel
theorem dX2_warmthAstray_14 : decode cX2_warmthAstray 14 = .ok (.if_icmp .ge 26, 3) := by decide +kernel
theorem dX2_warmthAstray_17 : decode cX2_warmthAstray 17 = .ok (.lload_n 1, 1) := by decide +kernel
theorem dX2_warmthAstray_18 : decode cX2_warmthAstray 18 = .ok (.aload_n 0, 1) := by decide +kernel
theorem dX2_warmthAstray_19 : decode cX2_warmthAstray 19 = .ok (.getfield 32, 3) := by decide +kernel
theorem dX2_warmthAstray_22 : decode cX2_warmthAstray 22 = .ok (.iload_n 3, 1) := by decide +kernel
theorem dX2_warmthAstray_23 : decode cX2_warmthAstray 23 = .ok (.aaload, 1) := by decide +kernel
theorem dX2_warmthAstray_24 : decode cX2_warmthAstray 24 = .ok (.getfield 45, 3) := by decide +kernel
theorem dX2_warmthAstray_27 : decode cX2_warmthAstray 27 = .ok (.sipush 200, 3) := by decide +kernel
theorem dX2_warmthAstray_30 : decode cX2_warmthAstray 30 = .ok (.isub, 1) := by decide +kernel
theorem dX2_warmthAstray_31 : decode cX2_warmthAstray 31 = .ok (.i2l, 1) := by decide +kernel
theorem dX2_warmthAstray_32 : decode cX2_warmthAstray 32 = .ok (.ladd, 1) := by decide +kernel
theorem dX2_warmthAstray_33 : decode cX2_warmthAstray 33 = .ok (.lstore_n 1, 1) := by decide +kernel
theorem dX2_warmthAstray_34 : decode cX2_warmthAstray 34 = .ok (.iinc 3 1, 3) := by decide +kernel
theorem dX2_warmthAstray_37 : decode cX2_warmthAstray 37 = .ok (.goto (-29), 3) := by decide +kernel
theorem dX2_warmthAstray_40 : decode cX2_warmthAstray 40 = .ok (.lload_n 1, 1) := by decide +kernel
theorem dX2_warmthAstray_41 : decode cX2_warmthAstray 41 = .ok (.lreturn, 1) := by decide +kernel
theorem dX2_digestFrom_0 : decode cX2_digestFrom 0 = .ok (.ldc2_w 56, 3) := by decide +kernel
theorem dX2_digestFrom_3 : decode cX2_digestFrom 3 = .ok (.lload_n 1, 1) := by decide +kernel
theorem dX2_digestFrom_4 : decode cX2_digestFrom 4 = .ok (.lmul, 1) := by decide +kernel
theorem dX2_digestFrom_5 : decode cX2_digestFrom 5 = .ok (.aload_n 0, 1) := by decide +kernel
theorem dX2_digestFrom_6 : decode cX2_digestFrom 6 = .ok (.getfield 48, 3) := by decide +kernel
theorem dX2_digestFrom_9 : decode cX2_digestFrom 9 = .ok (.ladd, 1) := by decide +kernel
theorem dX2_digestFrom_10 : decode cX2_digestFrom 10 = .ok (.lstore_n 3, 1) := by decide +kernel
theorem dX2_digestFrom_11 : decode cX2_digestFrom 11 = .ok (.iconst 0, 1) := by decide +kernel
theorem dX2_digestFrom_12 : decode cX2_digestFrom 12 = .ok (.istore 5, 2) := by decide +kernel
theorem dX2_digestFrom_14 : decode cX2_digestFrom 14 = .ok (.iload 5, 2) := by decide +kernel
theorem dX2_digestFrom_16 : decode cX2_digestFrom 16 = .ok (.aload_n 0, 1) := by decide +kernel
theorem dX2_digestFrom_17 : decode cX2_digestFrom 17 = .ok (.getfield 32, 3) := by decide +kernel
theorem dX2_digestFrom_20 : decode cX2_digestFrom 20 = .ok (.arraylength, 1) := by decide +kernel
theorem dX2_digestFrom_21 : decode cX2_digestFrom 21 = .ok (.if_icmp .ge 45, 3) := by decide +kernel
theorem dX2_digestFrom_24 : decode cX2_digestFrom 24 = .ok (.iconst 0, 1) := by decide +kernel
theorem dX2_digestFrom_25 : decode cX2_digestFrom 25 = .ok (.istore 6, 2) := by decide +kernel
theorem dX2_digestFrom_27 : decode cX2_digestFrom 27 = .ok (.iload 6, 2) := by decide +kernel
theorem dX2_digestFrom_29 : decode cX2_digestFrom 29 = .ok (.bipush 6, 2) := by decide +kernel
theorem dX2_digestFrom_31 : decode cX2_digestFrom 31 = .ok (.if_icmp .gt 29, 3) := by decide +kernel
theorem dX2_digestFrom_34 : decode cX2_digestFrom 34 = .ok (.ldc2_w 56, 3) := by decide +kernel
theorem dX2_digestFrom_37 : decode cX2_digestFrom 37 = .ok (.lload_n 3, 1) := by decide +kernel
theorem dX2_digestFrom_38 : decode cX2_digestFrom 38 = .ok (.lmul, 1) := by decide +kernel
theorem dX2_digestFrom_39 : decode cX2_digestFrom 39 = .ok (.aload_n 0, 1) := by decide +kernel
theorem dX2_digestFrom_40 : decode cX2_digestFrom 40 = .ok (.getfield 32, 3) := by decide +kernel
theorem dX2_digestFrom_43 : decode cX2_digestFrom 43 = .ok (.iload 5, 2) := by decide +kernel
theorem dX2_digestFrom_45 : decode cX2_digestFrom 45 = .ok (.aaload, 1) := by decide +kernel
theorem dX2_digestFrom_46 : decode cX2_digestFrom 46 = .ok (.iload 6, 2) := by decide +kernel
theorem dX2_digestFrom_48 : decode cX2_digestFrom 48 = .ok (.invokevirtual 58, 3) := by decide +kernel
theorem dX2_digestFrom_51 : decode cX2_digestFrom 51 = .ok (.i2l, 1) := by decide +kernel
theorem dX2_digestFrom_52 : decode cX2_digestFrom 52 = .ok (.ladd, 1) := by decide +kernel
theorem dX2_digestFrom_53 : decode cX2_digestFrom 53 = .ok (.lstore_n 3, 1) := by decide +kernel
theorem dX2_digestFrom_54 : decode cX2_digestFrom 54 = .ok (.iinc 6 1, 3) := by decide +kernel
theorem dX2_digestFrom_57 : decode cX2_digestFrom 57 = .ok (.goto (-30), 3) := by decide +kernel
theorem dX2_digestFrom_60 : decode cX2_digestFrom 60 = .ok (.iinc 5 1, 3) := by decide +kernel
theorem dX2_digestFrom_63 : decode cX2_digestFrom 63 = .ok (.goto (-49), 3) := by decide +kernel
theorem dX2_digestFrom_66 : decode cX2_digestFrom 66 = .ok (.lload_n 3, 1) := by decide +kernel
theorem dX2_digestFrom_67 : decode cX2_digestFrom 67 = .ok (.lreturn, 1) := by decide +kernel
theorem dX3_init_0 : decode cX3_init 0 = .ok (.aload_n 0, 1) := by decide +kernel
theorem dX3_init_1 : decode cX3_init 1 = .ok (.invokespecial 3, 3) := by decide +kernel
theorem dX3_init_4 : decode cX3_init 4 = .ok (.aload_n 0, 1) := by decide +kernel
theorem dX3_init_5 : decode cX3_init 5 = .ok (.iload_n 1, 1) := by decide +kernel
theorem dX3_init_6 : decode cX3_init 6 = .ok (.putfield 9, 3) := by decide +kernel
theorem dX3_init_9 : decode cX3_init 9 = .ok (.return_, 1) := by decide +kernel
theorem dX3_end_0 : decode cX3_end 0 = .ok (.aload_n 0, 1) := by decide +kernel
theorem dX3_end_1 : decode cX3_end 1 = .ok (.iconst 1, 1) := by decide +kernel
theorem dX3_end_2 : decode cX3_end 2 = .ok (.putfield 15, 3) := by decide +kernel
theorem dX3_end_5 : decode cX3_end 5 = .ok (.aload_n 0, 1) := by decide +kernel
theorem dX3_end_6 : decode cX3_end 6 = .ok (.iload_n 1, 1) := by decide +kernel
theorem dX3_end_7 : decode cX3_end 7 = .ok (.putfield 19, 3) := by decide +kernel
theorem dX3_end_10 : decode cX3_end 10 = .ok (.return_, 1) := by decide +kernel
theorem dX3_isWell_0 : decode cX3_isWell 0 = .ok (.aload_n 0, 1) := by decide +kernel
theorem dX3_isWell_1 : decode cX3_isWell 1 = .ok (.getfield 19, 3) := by decide +kernel
theorem dX3_isWell_4 : decode cX3_isWell 4 = .ok (.ifCond .eq 14, 3) := by decide +kernel
theorem dX3_isWell_7 : decode cX3_isWell 7 = .ok (.aload_n 0, 1) := by decide +kernel
theorem dX3_isWell_8 : decode cX3_isWell 8 = .ok (.getfield 22, 3) := by decide +kernel
theorem dX3_isWell_11 : decode cX3_isWell 11 = .ok (.ifCond .ne 7, 3) := by decide +kernel
theorem dX3_isWell_14 : decode cX3_isWell 14 = .ok (.iconst 1, 1) := by decide +kernel
theorem dX3_isWell_15 : decode cX3_isWell 15 = .ok (.goto 4, 3) := by decide +kernel
theorem dX3_isWell_18 : decode cX3_isWell 18 = .ok (.iconst 0, 1) := by decide +kernel
theorem dX3_isWell_19 : decode cX3_isWell 19 = .ok (.ireturn, 1) := by decide +kernel
theorem dX3_tell_0 : decode cX3_tell 0 = .ok (.iload_n 1, 1) := by decide +kernel
theorem dX3_tell_1 : decode cX3_tell 1 = .ok (.tableswitch 60 0 3 #[31, 36, 44, 52], 31) := by decide +kernel
theorem dX3_tell_32 : decode cX3_tell 32 = .ok (.aload_n 0, 1) := by decide +kernel
theorem dX3_tell_33 : decode cX3_tell 33 = .ok (.getfield 9, 3) := by decide +kernel
theorem dX3_tell_36 : decode cX3_tell 36 = .ok (.ireturn, 1) := by decide +kernel
theorem dX3_tell_37 : decode cX3_tell 37 = .ok (.aload_n 0, 1) := by decide +kernel
theorem dX3_tell_38 : decode cX3_tell 38 = .ok (.getfield 15, 3) := by decide +kernel
theorem dX3_tell_41 : decode cX3_tell 41 = .ok (.invokestatic 25, 3) := by decide +kernel
theorem dX3_tell_44 : decode cX3_tell 44 = .ok (.ireturn, 1) := by decide +kernel
theorem dX3_tell_45 : decode cX3_tell 45 = .ok (.aload_n 0, 1) := by decide +kernel
theorem dX3_tell_46 : decode cX3_tell 46 = .ok (.invokevirtual 29, 3) := by decide +kernel
theorem dX3_tell_49 : decode cX3_tell 49 = .ok (.invokestatic 25, 3) := by decide +kernel
theorem dX3_tell_52 : decode cX3_tell 52 = .ok (.ireturn, 1) := by decide +kernel
theorem dX3_tell_53 : decode cX3_tell 53 = .ok (.aload_n 0, 1) := by decide +kernel
theorem dX3_tell_54 : decode cX3_tell 54 = .ok (.getfield 33, 3) := by decide +kernel
theorem dX3_tell_57 : decode cX3_tell 57 = .ok (.invokestatic 25, 3) := by decide +kernel
theorem dX3_tell_60 : decode cX3_tell 60 = .ok (.ireturn, 1) := by decide +kernel
theorem dX3_tell_61 : decode cX3_tell 61 = .ok (.aload_n 0, 1) := by decide +kernel
theorem dX3_tell_62 : decode cX3_tell 62 = .ok (.getfield 36, 3) := by decide +kernel
theorem dX3_tell_65 : decode cX3_tell 65 = .ok (.ireturn, 1) := by decide +kernel
theorem dX3_digestFrom_0 : decode cX3_digestFrom 0 = .ok (.lload_n 1, 1) := by decide +kernel
theorem dX3_digestFrom_1 : decode cX3_digestFrom 1 = .ok (.lstore_n 3, 1) := by decide +kernel
theorem dX3_digestFrom_2 : decode cX3_digestFrom 2 = .ok (.iconst 0, 1) := by decide +kernel
theorem dX3_digestFrom_3 : decode cX3_digestFrom 3 = .ok (.istore 5, 2) := by decide +kernel
theorem dX3_digestFrom_5 : decode cX3_digestFrom 5 = .ok (.iload 5, 2) := by decide +kernel
theorem dX3_digestFrom_7 : decode cX3_digestFrom 7 = .ok (.iconst 4, 1) := by decide +kernel
theorem dX3_digestFrom_8 : decode cX3_digestFrom 8 = .ok (.if_icmp .gt 23, 3) := by decide +kernel
theorem dX3_digestFrom_11 : decode cX3_digestFrom 11 = .ok (.ldc2_w 39, 3) := by decide +kernel
theorem dX3_digestFrom_14 : decode cX3_digestFrom 14 = .ok (.lload_n 3, 1) := by decide +kernel
theorem dX3_digestFrom_15 : decode cX3_digestFrom 15 = .ok (.lmul, 1) := by decide +kernel
theorem dX3_digestFrom_16 : decode cX3_digestFrom 16 = .ok (.aload_n 0, 1) := by decide +kernel
theorem dX3_digestFrom_17 : decode cX3_digestFrom 17 = .ok (.iload 5, 2) := by decide +kernel
theorem dX3_digestFrom_19 : decode cX3_digestFrom 19 = .ok (.invokevirtual 41, 3) := by decide +kernel
theorem dX3_digestFrom_22 : decode cX3_digestFrom 22 = .ok (.i2l, 1) := by decide +kernel
theorem dX3_digestFrom_23 : decode cX3_digestFrom 23 = .ok (.ladd, 1) := by decide +kernel
theorem dX3_digestFrom_24 : decode cX3_digestFrom 24 = .ok (.lstore_n 3, 1) := by decide +kernel
theorem dX3_digestFrom_25 : decode cX3_digestFrom 25 = .ok (.iinc 5 1, 3) := by decide +kernel
theorem dX3_digestFrom_28 : decode cX3_digestFrom 28 = .ok (.goto (-23), 3) := by decide +kernel
theorem dX3_digestFrom_31 : decode cX3_digestFrom 31 = .ok (.lload_n 3, 1) := by decide +kernel
theorem dX3_digestFrom_32 : decode cX3_digestFrom 32 = .ok (.lreturn, 1) := by decide +kernel
theorem dX4_init_0 : decode cX4_init 0 = .ok (.aload_n 0, 1) := by decide +kernel
theorem dX4_init_1 : decode cX4_init 1 = .ok (.invokespecial 3, 3) := by decide +kernel
theorem dX4_init_4 : decode cX4_init 4 = .ok (.aload_n 0, 1) := by decide +kernel
theorem dX4_init_5 : decode cX4_init 5 = .ok (.sipush 200, 3) := by decide +kernel
theorem dX4_init_8 : decode cX4_init 8 = .ok (.putfield 9, 3) := by decide +kernel
theorem dX4_init_11 : decode cX4_init 11 = .ok (.aload_n 0, 1) := by decide +kernel
theorem dX4_init_12 : decode cX4_init 12 = .ok (.sipush 1000, 3) := by decide +kernel
theorem dX4_init_15 : decode cX4_init 15 = .ok (.putfield 15, 3) := by decide +kernel
theorem dX4_init_18 : decode cX4_init 18 = .ok (.return_, 1) := by decide +kernel
theorem dX4_change_0 : decode cX4_change 0 = .ok (.aload_n 0, 1) := by decide +kernel
theorem dX4_change_1 : decode cX4_change 1 = .ok (.getfield 9, 3) := by decide +kernel
theorem dX4_change_4 : decode cX4_change 4 = .ok (.sipush 7300, 3) := by decide +kernel
theorem dX4_change_7 : decode cX4_change 7 = .ok (.if_icmp .le 21, 3) := by decide +kernel
theorem dX4_change_10 : decode cX4_change 10 = .ok (.aload_n 0, 1) := by decide +kernel
theorem dX4_change_11 : decode cX4_change 11 = .ok (.aload_n 0, 1) := by decide +kernel
theorem dX4_change_12 : decode cX4_change 12 = .ok (.getfield 9, 3) := by decide +kernel
theorem dX4_change_15 : decode cX4_change 15 = .ok (.sipush 7300, 3) := by decide +kernel
theorem dX4_change_18 : decode cX4_change 18 = .ok (.isub, 1) := by decide +kernel
theorem dX4_change_19 : decode cX4_change 19 = .ok (.bipush 10, 2) := by decide +kernel
theorem dX4_change_21 : decode cX4_change 21 = .ok (.idiv, 1) := by decide +kernel
theorem dX4_change_22 : decode cX4_change 22 = .ok (.invokevirtual 18, 3) := by decide +kernel
theorem dX4_change_25 : decode cX4_change 25 = .ok (.goto 79, 3) := by decide +kernel
theorem dX4_change_28 : decode cX4_change 28 = .ok (.aload_n 0, 1) := by decide +kernel
theorem dX4_change_29 : decode cX4_change 29 = .ok (.getfield 9, 3) := by decide +kernel
theorem dX4_change_32 : decode cX4_change 32 = .ok (.sipush 5500, 3) := by decide +kernel
theorem dX4_change_35 : decode cX4_change 35 = .ok (.if_icmp .lt 18, 3) := by decide +kernel
theorem dX4_change_38 : decode cX4_change 38 = .ok (.aload_n 0, 1) := by decide +kernel
theorem dX4_change_39 : decode cX4_change 39 = .ok (.iload_n 1, 1) := by decide +kernel
theorem dX4_change_40 : decode cX4_change 40 = .ok (.aload_n 0, 1) := by decide +kernel
theorem dX4_change_41 : decode cX4_change 41 = .ok (.getfield 22, 3) := by decide +kernel
theorem dX4_change_44 : decode cX4_change 44 = .ok (.invokestatic 25, 3) := by decide +kernel
theorem dX4_change_47 : decode cX4_change 47 = .ok (.invokevirtual 31, 3) := by decide +kernel
theorem dX4_change_50 : decode cX4_change 50 = .ok (.goto 54, 3) := by decide +kernel
theorem dX4_change_53 : decode cX4_change 53 = .ok (.aload_n 0, 1) := by decide +kernel
theorem dX4_change_54 : decode cX4_change 54 = .ok (.getfield 9, 3) := by decide +kernel
theorem dX4_change_57 : decode cX4_change 57 = .ok (.sipush 3000, 3) := by decide +kernel
theorem dX4_change_60 : decode cX4_change 60 = .ok (.if_icmp .lt 18, 3) := by decide +kernel
theorem dX4_change_63 : decode cX4_change 63 = .ok (.aload_n 0, 1) := by decide +kernel
theorem dX4_change_64 : decode cX4_change 64 = .ok (.iload_n 2, 1) := by decide +kernel
theorem dX4_change_65 : decode cX4_change 65 = .ok (.aload_n 0, 1) := by decide +kernel
theorem dX4_change_66 : decode cX4_change 66 = .ok (.getfield 22, 3) := by decide +kernel
theorem dX4_change_69 : decode cX4_change 69 = .ok (.invokestatic 25, 3) := by decide +kernel
theorem dX4_change_72 : decode cX4_change 72 = .ok (.invokevirtual 34, 3) := by decide +kernel
theorem dX4_change_75 : decode cX4_change 75 = .ok (.goto 29, 3) := by decide +kernel
theorem dX4_change_78 : decode cX4_change 78 = .ok (.aload_n 0, 1) := by decide +kernel
theorem dX4_change_79 : decode cX4_change 79 = .ok (.aload_n 0, 1) := by decide +kernel
theorem dX4_change_80 : decode cX4_change 80 = .ok (.getfield 22, 3) := by decide +kernel
theorem dX4_change_83 : decode cX4_change 83 = .ok (.aload_n 0, 1) := by decide +kernel
theorem dX4_change_84 : decode cX4_change 84 = .ok (.getfield 37, 3) := by decide +kernel
theorem dX4_change_87 : decode cX4_change 87 = .ok (.iadd, 1) := by decide +kernel
theorem dX4_change_88 : decode cX4_change 88 = .ok (.sipush 3000, 3) := by decide +kernel
theorem dX4_change_91 : decode cX4_change 91 = .ok (.aload_n 0, 1) := by decide +kernel
theorem dX4_change_92 : decode cX4_change 92 = .ok (.getfield 9, 3) := by decide +kernel
theorem dX4_change_95 : decode cX4_change 95 = .ok (.isub, 1) := by decide +kernel
theorem dX4_change_96 : decode cX4_change 96 = .ok (.imul, 1) := by decide +kernel
theorem dX4_change_97 : decode cX4_change 97 = .ok (.sipush 2600, 3) := by decide +kernel
theorem dX4_change_100 : decode cX4_change 100 = .ok (.idiv, 1) := by decide +kernel
theorem dX4_change_101 : decode cX4_change 101 = .ok (.invokevirtual 40, 3) := by decide +kernel
theorem dX4_change_104 : decode cX4_change 104 = .ok (.aload_n 0, 1) := by decide +kernel
theorem dX4_change_105 : decode cX4_change 105 = .ok (.invokevirtual 43, 3) := by decide +kernel
theorem dX4_change_108 : decode cX4_change 108 = .ok (.return_, 1) := by decide +kernel
theorem dX4_becomeHot_0 : decode cX4_becomeHot 0 = .ok (.iload_n 1, 1) := by decide +kernel
theorem dX4_becomeHot_1 : decode cX4_becomeHot 1 = .ok (.aload_n 0, 1) := by decide +kernel
theorem dX4_becomeHot_2 : decode cX4_becomeHot 2 = .ok (.getfield 15, 3) := by decide +kernel
theorem dX4_becomeHot_5 : decode cX4_becomeHot 5 = .ok (.invokestatic 25, 3) := by decide +kernel
theorem dX4_becomeHot_8 : decode cX4_becomeHot 8 = .ok (.istore_n 2, 1) := by decide +kernel
theorem dX4_becomeHot_9 : decode cX4_becomeHot 9 = .ok (.iload_n 1, 1) := by decide +kernel
theorem dX4_becomeHot_10 : decode cX4_becomeHot 10 = .ok (.iload_n 2, 1) := by decide +kernel
theorem dX4_becomeHot_11 : decode cX4_becomeHot 11 = .ok (.isub, 1) := by decide +kernel
theorem dX4_becomeHot_12 : decode cX4_becomeHot 12 = .ok (.aload_n 0, 1) := by decide +kernel
theorem dX4_becomeHot_13 : decode cX4_becomeHot 13 = .ok (.getfield 46, 3) := by decide +kernel
theorem dX4_becomeHot_16 : decode cX4_becomeHot 16 = .ok (.invokestatic 25, 3) := by decide +kernel
theorem dX4_becomeHot_19 : decode cX4_becomeHot 19 = .ok (.istore_n 3, 1) := by decide +kernel
theorem dX4_becomeHot_20 : decode cX4_becomeHot 20 = .ok (.iload_n 1, 1) := by decide +kernel
theorem dX4_becomeHot_21 : decode cX4_becomeHot 21 = .ok (.iload_n 2, 1) := by decide +kernel
theorem dX4_becomeHot_22 : decode cX4_becomeHot 22 = .ok (.isub, 1) := by decide +kernel
theorem dX4_becomeHot_23 : decode cX4_becomeHot 23 = .ok (.iload_n 3, 1) := by decide +kernel
theorem dX4_becomeHot_24 : decode cX4_becomeHot 24 = .ok (.isub, 1) := by decide +kernel
theorem dX4_becomeHot_25 : decode cX4_becomeHot 25 = .ok (.aload_n 0, 1) := by decide +kernel
theorem dX4_becomeHot_26 : decode cX4_becomeHot 26 = .ok (.getfield 37, 3) := by decide +kernel
theorem dX4_becomeHot_29 : decode cX4_becomeHot 29 = .ok (.invokestatic 25, 3) := by decide +kernel
theorem dX4_becomeHot_32 : decode cX4_becomeHot 32 = .ok (.istore 4, 2) := by decide +kernel
theorem dX4_becomeHot_34 : decode cX4_becomeHot 34 = .ok (.aload_n 0, 1) := by decide +kernel
theorem dX4_becomeHot_35 : decode cX4_becomeHot 35 = .ok (.dup, 1) := by decide +kernel
theorem dX4_becomeHot_36 : decode cX4_becomeHot 36 = .ok (.getfield 15, 3) := by decide +kernel
theorem dX4_becomeHot_39 : decode cX4_becomeHot 39 = .ok (.iload_n 2, 1) := by decide +kernel
theorem dX4_becomeHot_40 : decode cX4_becomeHot 40 = .ok (.isub, 1) := by decide +kernel
theorem dX4_becomeHot_41 : decode cX4_becomeHot 41 = .ok (.putfield 15, 3) := by decide +kernel
theorem dX4_becomeHot_44 : decode cX4_becomeHot 44 = .ok (.aload_n 0, 1) := by decide +kernel
theorem dX4_becomeHot_45 : decode cX4_becomeHot 45 = .ok (.dup, 1) := by decide +kernel
theorem dX4_becomeHot_46 : decode cX4_becomeHot 46 = .ok (.getfield 46, 3) := by decide +kernel
theorem dX4_becomeHot_49 : decode cX4_becomeHot 49 = .ok (.iload_n 3, 1) := by decide +kernel
theorem dX4_becomeHot_50 : decode cX4_becomeHot 50 = .ok (.isub, 1) := by decide +kernel
theorem dX4_becomeHot_51 : decode cX4_becomeHot 51 = .ok (.putfield 46, 3) := by decide +kernel
theorem dX4_becomeHot_54 : decode cX4_becomeHot 54 = .ok (.aload_n 0, 1) := by decide +kernel
theorem dX4_becomeHot_55 : decode cX4_becomeHot 55 = .ok (.dup, 1) := by decide +kernel
theorem dX4_becomeHot_56 : decode cX4_becomeHot 56 = .ok (.getfield 37, 3) := by decide +kernel
theorem dX4_becomeHot_59 : decode cX4_becomeHot 59 = .ok (.iload 4, 2) := by decide +kernel
theorem dX4_becomeHot_61 : decode cX4_becomeHot 61 = .ok (.isub, 1) := by decide +kernel
theorem dX4_becomeHot_62 : decode cX4_becomeHot 62 = .ok (.putfield 37, 3) := by decide +kernel
theorem dX4_becomeHot_65 : decode cX4_becomeHot 65 = .ok (.aload_n 0, 1) := by decide +kernel
theorem dX4_becomeHot_66 : decode cX4_becomeHot 66 = .ok (.dup, 1) := by decide +kernel
theorem dX4_becomeHot_67 : decode cX4_becomeHot 67 = .ok (.getfield 22, 3) := by decide +kernel
theorem dX4_becomeHot_70 : decode cX4_becomeHot 70 = .ok (.iload_n 2, 1) := by decide +kernel
theorem dX4_becomeHot_71 : decode cX4_becomeHot 71 = .ok (.iload_n 3, 1) := by decide +kernel
theorem dX4_becomeHot_72 : decode cX4_becomeHot 72 = .ok (.iadd, 1) := by decide +kernel
