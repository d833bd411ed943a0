theorem dX6_massOf_28 : decode cX6_massOf 28 = .ok (.aload_n 0, 1) := by decide +kernel
theorem dX6_massOf_29 : decode cX6_massOf 29 = .ok (.getfield 15, 3) := by decide +kernel
theorem dX6_massOf_32 : decode cX6_massOf 32 = .ok (.aload_n 0, 1) := by decide +kernel
theorem dX6_massOf_33 : decode cX6_massOf 33 = .ok (.getfield 101, 3) := by decide +kernel
theorem dX6_massOf_36 : decode cX6_massOf 36 = .ok (.iconst 4, 1) := by decide +kernel
theorem dX6_massOf_37 : decode cX6_massOf 37 = .ok (.iload_n 1, 1) := by decide +kernel
theorem dX6_massOf_38 : decode cX6_massOf 38 = .ok (.imul, 1) := by decide +kernel
theorem dX6_massOf_39 : decode cX6_massOf 39 = .ok (.iload_n 3, 1) := by decide +kernel
theorem dX6_massOf_40 : decode cX6_massOf 40 = .ok (.iadd, 1) := by decide +kernel
theorem dX6_massOf_41 : decode cX6_massOf 41 = .ok (.iaload, 1) := by decide +kernel
theorem dX6_massOf_42 : decode cX6_massOf 42 = .ok (.iaload, 1) := by decide +kernel
theorem dX6_massOf_43 : decode cX6_massOf 43 = .ok (.iadd, 1) := by decide +kernel
theorem dX6_massOf_44 : decode cX6_massOf 44 = .ok (.istore_n 2, 1) := by decide +kernel
theorem dX6_massOf_45 : decode cX6_massOf 45 = .ok (.iinc 3 1, 3) := by decide +kernel
theorem dX6_massOf_48 : decode cX6_massOf 48 = .ok (.goto (-44), 3) := by decide +kernel
theorem dX6_massOf_51 : decode cX6_massOf 51 = .ok (.iload_n 2, 1) := by decide +kernel
theorem dX6_massOf_52 : decode cX6_massOf 52 = .ok (.ireturn, 1) := by decide +kernel
theorem dX6_loadOf_0 : decode cX6_loadOf 0 = .ok (.iconst 0, 1) := by decide +kernel
theorem dX6_loadOf_1 : decode cX6_loadOf 1 = .ok (.istore_n 2, 1) := by decide +kernel
theorem dX6_loadOf_2 : decode cX6_loadOf 2 = .ok (.iconst 0, 1) := by decide +kernel
theorem dX6_loadOf_3 : decode cX6_loadOf 3 = .ok (.istore_n 3, 1) := by decide +kernel
theorem dX6_loadOf_4 : decode cX6_loadOf 4 = .ok (.iload_n 3, 1) := by decide +kernel
theorem dX6_loadOf_5 : decode cX6_loadOf 5 = .ok (.iconst 4, 1) := by decide +kernel
theorem dX6_loadOf_6 : decode cX6_loadOf 6 = .ok (.if_icmp .ge 31, 3) := by decide +kernel
theorem dX6_loadOf_9 : decode cX6_loadOf 9 = .ok (.iload_n 2, 1) := by decide +kernel
theorem dX6_loadOf_10 : decode cX6_loadOf 10 = .ok (.aload_n 0, 1) := by decide +kernel
theorem dX6_loadOf_11 : decode cX6_loadOf 11 = .ok (.getfield 101, 3) := by decide +kernel
theorem dX6_loadOf_14 : decode cX6_loadOf 14 = .ok (.iconst 4, 1) := by decide +kernel
theorem dX6_loadOf_15 : decode cX6_loadOf 15 = .ok (.iload_n 1, 1) := by decide +kernel
theorem dX6_loadOf_16 : decode cX6_loadOf 16 = .ok (.imul, 1) := by decide +kernel
theorem dX6_loadOf_17 : decode cX6_loadOf 17 = .ok (.iload_n 3, 1) := by decide +kernel
theorem dX6_loadOf_18 : decode cX6_loadOf 18 = .ok (.iadd, 1) := by decide +kernel
theorem dX6_loadOf_19 : decode cX6_loadOf 19 = .ok (.iaload, 1) := by decide +kernel
theorem dX6_loadOf_20 : decode cX6_loadOf 20 = .ok (.iconst (-1), 1) := by decide +kernel
theorem dX6_loadOf_21 : decode cX6_loadOf 21 = .ok (.if_icmp .ne 7, 3) := by decide +kernel
theorem dX6_loadOf_24 : decode cX6_loadOf 24 = .ok (.iconst 0, 1) := by decide +kernel
theorem dX6_loadOf_25 : decode cX6_loadOf 25 = .ok (.goto 4, 3) := by decide +kernel
theorem dX6_loadOf_28 : decode cX6_loadOf 28 = .ok (.iconst 1, 1) := by decide +kernel
theorem dX6_loadOf_29 : decode cX6_loadOf 29 = .ok (.iadd, 1) := by decide +kernel
theorem dX6_loadOf_30 : decode cX6_loadOf 30 = .ok (.istore_n 2, 1) := by decide +kernel
theorem dX6_loadOf_31 : decode cX6_loadOf 31 = .ok (.iinc 3 1, 3) := by decide +kernel
theorem dX6_loadOf_34 : decode cX6_loadOf 34 = .ok (.goto (-30), 3) := by decide +kernel
theorem dX6_loadOf_37 : decode cX6_loadOf 37 = .ok (.iload_n 2, 1) := by decide +kernel
theorem dX6_loadOf_38 : decode cX6_loadOf 38 = .ok (.ireturn, 1) := by decide +kernel
theorem dX6_load_0 : decode cX6_load 0 = .ok (.iload_n 1, 1) := by decide +kernel
theorem dX6_load_1 : decode cX6_load 1 = .ok (.invokestatic 153, 3) := by decide +kernel
theorem dX6_load_4 : decode cX6_load 4 = .ok (.ifCond .eq 18, 3) := by decide +kernel
theorem dX6_load_7 : decode cX6_load 7 = .ok (.iload_n 2, 1) := by decide +kernel
theorem dX6_load_8 : decode cX6_load 8 = .ok (.invokestatic 156, 3) := by decide +kernel
theorem dX6_load_11 : decode cX6_load 11 = .ok (.ifCond .eq 11, 3) := by decide +kernel
theorem dX6_load_14 : decode cX6_load 14 = .ok (.aload_n 0, 1) := by decide +kernel
theorem dX6_load_15 : decode cX6_load 15 = .ok (.iload_n 3, 1) := by decide +kernel
theorem dX6_load_16 : decode cX6_load 16 = .ok (.invokevirtual 60, 3) := by decide +kernel
theorem dX6_load_19 : decode cX6_load 19 = .ok (.ifCond .ne 6, 3) := by decide +kernel
theorem dX6_load_22 : decode cX6_load 22 = .ok (.bipush (-2), 2) := by decide +kernel
theorem dX6_load_24 : decode cX6_load 24 = .ok (.ireturn, 1) := by decide +kernel
theorem dX6_load_25 : decode cX6_load 25 = .ok (.aload_n 0, 1) := by decide +kernel
theorem dX6_load_26 : decode cX6_load 26 = .ok (.getfield 34, 3) := by decide +kernel
theorem dX6_load_29 : decode cX6_load 29 = .ok (.iload_n 3, 1) := by decide +kernel
theorem dX6_load_30 : decode cX6_load 30 = .ok (.iaload, 1) := by decide +kernel
theorem dX6_load_31 : decode cX6_load 31 = .ok (.iconst (-1), 1) := by decide +kernel
theorem dX6_load_32 : decode cX6_load 32 = .ok (.if_icmp .ne 26, 3) := by decide +kernel
theorem dX6_load_35 : decode cX6_load 35 = .ok (.aload_n 0, 1) := by decide +kernel
theorem dX6_load_36 : decode cX6_load 36 = .ok (.getfield 101, 3) := by decide +kernel
theorem dX6_load_39 : decode cX6_load 39 = .ok (.iconst 4, 1) := by decide +kernel
theorem dX6_load_40 : decode cX6_load 40 = .ok (.iload_n 1, 1) := by decide +kernel
theorem dX6_load_41 : decode cX6_load 41 = .ok (.imul, 1) := by decide +kernel
theorem dX6_load_42 : decode cX6_load 42 = .ok (.iload_n 2, 1) := by decide +kernel
theorem dX6_load_43 : decode cX6_load 43 = .ok (.iadd, 1) := by decide +kernel
theorem dX6_load_44 : decode cX6_load 44 = .ok (.iaload, 1) := by decide +kernel
theorem dX6_load_45 : decode cX6_load 45 = .ok (.iconst (-1), 1) := by decide +kernel
theorem dX6_load_46 : decode cX6_load 46 = .ok (.if_icmp .ne 12, 3) := by decide +kernel
theorem dX6_load_49 : decode cX6_load 49 = .ok (.aload_n 0, 1) := by decide +kernel
theorem dX6_load_50 : decode cX6_load 50 = .ok (.getfield 111, 3) := by decide +kernel
theorem dX6_load_53 : decode cX6_load 53 = .ok (.iload_n 1, 1) := by decide +kernel
theorem dX6_load_54 : decode cX6_load 54 = .ok (.baload, 1) := by decide +kernel
theorem dX6_load_55 : decode cX6_load 55 = .ok (.ifCond .eq 7, 3) := by decide +kernel
theorem dX6_load_58 : decode cX6_load 58 = .ok (.iconst 1, 1) := by decide +kernel
theorem dX6_load_59 : decode cX6_load 59 = .ok (.goto 4, 3) := by decide +kernel
theorem dX6_load_62 : decode cX6_load 62 = .ok (.iconst 0, 1) := by decide +kernel
theorem dX6_load_63 : decode cX6_load 63 = .ok (.istore 4, 2) := by decide +kernel
theorem dX6_load_65 : decode cX6_load 65 = .ok (.iload 4, 2) := by decide +kernel
theorem dX6_load_67 : decode cX6_load 67 = .ok (.ifCond .ne 21, 3) := by decide +kernel
theorem dX6_load_70 : decode cX6_load 70 = .ok (.aload_n 0, 1) := by decide +kernel
theorem dX6_load_71 : decode cX6_load 71 = .ok (.iload_n 1, 1) := by decide +kernel
theorem dX6_load_72 : decode cX6_load 72 = .ok (.invokevirtual 159, 3) := by decide +kernel
theorem dX6_load_75 : decode cX6_load 75 = .ok (.aload_n 0, 1) := by decide +kernel
theorem dX6_load_76 : decode cX6_load 76 = .ok (.getfield 15, 3) := by decide +kernel
theorem dX6_load_79 : decode cX6_load 79 = .ok (.iload_n 3, 1) := by decide +kernel
theorem dX6_load_80 : decode cX6_load 80 = .ok (.iaload, 1) := by decide +kernel
theorem dX6_load_81 : decode cX6_load 81 = .ok (.iadd, 1) := by decide +kernel
theorem dX6_load_82 : decode cX6_load 82 = .ok (.sipush 1000, 3) := by decide +kernel
theorem dX6_load_85 : decode cX6_load 85 = .ok (.if_icmp .le 6, 3) := by decide +kernel
theorem dX6_load_88 : decode cX6_load 88 = .ok (.bipush (-3), 2) := by decide +kernel
theorem dX6_load_90 : decode cX6_load 90 = .ok (.ireturn, 1) := by decide +kernel
theorem dX6_load_91 : decode cX6_load 91 = .ok (.aload_n 0, 1) := by decide +kernel
theorem dX6_load_92 : decode cX6_load 92 = .ok (.getfield 101, 3) := by decide +kernel
theorem dX6_load_95 : decode cX6_load 95 = .ok (.iconst 4, 1) := by decide +kernel
theorem dX6_load_96 : decode cX6_load 96 = .ok (.iload_n 1, 1) := by decide +kernel
theorem dX6_load_97 : decode cX6_load 97 = .ok (.imul, 1) := by decide +kernel
theorem dX6_load_98 : decode cX6_load 98 = .ok (.iload_n 2, 1) := by decide +kernel
theorem dX6_load_99 : decode cX6_load 99 = .ok (.iadd, 1) := by decide +kernel
theorem dX6_load_100 : decode cX6_load 100 = .ok (.iload_n 3, 1) := by decide +kernel
theorem dX6_load_101 : decode cX6_load 101 = .ok (.iastore, 1) := by decide +kernel
theorem dX6_load_102 : decode cX6_load 102 = .ok (.aload_n 0, 1) := by decide +kernel
theorem dX6_load_103 : decode cX6_load 103 = .ok (.getfield 34, 3) := by decide +kernel
theorem dX6_load_106 : decode cX6_load 106 = .ok (.iload_n 3, 1) := by decide +kernel
theorem dX6_load_107 : decode cX6_load 107 = .ok (.iload_n 1, 1) := by decide +kernel
theorem dX6_load_108 : decode cX6_load 108 = .ok (.iastore, 1) := by decide +kernel
theorem dX6_load_109 : decode cX6_load 109 = .ok (.iconst 1, 1) := by decide +kernel
theorem dX6_load_110 : decode cX6_load 110 = .ok (.ireturn, 1) := by decide +kernel
theorem dX6_unload_0 : decode cX6_unload 0 = .ok (.iload_n 1, 1) := by decide +kernel
theorem dX6_unload_1 : decode cX6_unload 1 = .ok (.invokestatic 153, 3) := by decide +kernel
theorem dX6_unload_4 : decode cX6_unload 4 = .ok (.ifCond .eq 10, 3) := by decide +kernel
theorem dX6_unload_7 : decode cX6_unload 7 = .ok (.iload_n 2, 1) := by decide +kernel
theorem dX6_unload_8 : decode cX6_unload 8 = .ok (.invokestatic 156, 3) := by decide +kernel
theorem dX6_unload_11 : decode cX6_unload 11 = .ok (.ifCond .ne 6, 3) := by decide +kernel
theorem dX6_unload_14 : decode cX6_unload 14 = .ok (.bipush (-2), 2) := by decide +kernel
theorem dX6_unload_16 : decode cX6_unload 16 = .ok (.ireturn, 1) := by decide +kernel
theorem dX6_unload_17 : decode cX6_unload 17 = .ok (.aload_n 0, 1) := by decide +kernel
theorem dX6_unload_18 : decode cX6_unload 18 = .ok (.getfield 101, 3) := by decide +kernel
theorem dX6_unload_21 : decode cX6_unload 21 = .ok (.iconst 4, 1) := by decide +kernel
theorem dX6_unload_22 : decode cX6_unload 22 = .ok (.iload_n 1, 1) := by decide +kernel
theorem dX6_unload_23 : decode cX6_unload 23 = .ok (.imul, 1) := by decide +kernel
theorem dX6_unload_24 : decode cX6_unload 24 = .ok (.iload_n 2, 1) := by decide +kernel
theorem dX6_unload_25 : decode cX6_unload 25 = .ok (.iadd, 1) := by decide +kernel
theorem dX6_unload_26 : decode cX6_unload 26 = .ok (.iaload, 1) := by decide +kernel
theorem dX6_unload_27 : decode cX6_unload 27 = .ok (.istore_n 3, 1) := by decide +kernel
theorem dX6_unload_28 : decode cX6_unload 28 = .ok (.iload_n 3, 1) := by decide +kernel
theorem dX6_unload_29 : decode cX6_unload 29 = .ok (.iconst (-1), 1) := by decide +kernel
theorem dX6_unload_30 : decode cX6_unload 30 = .ok (.if_icmp .eq 12, 3) := by decide +kernel
theorem dX6_unload_33 : decode cX6_unload 33 = .ok (.aload_n 0, 1) := by decide +kernel
theorem dX6_unload_34 : decode cX6_unload 34 = .ok (.getfield 111, 3) := by decide +kernel
theorem dX6_unload_37 : decode cX6_unload 37 = .ok (.iload_n 1, 1) := by decide +kernel
theorem dX6_unload_38 : decode cX6_unload 38 = .ok (.baload, 1) := by decide +kernel
theorem dX6_unload_39 : decode cX6_unload 39 = .ok (.ifCond .eq 6, 3) := by decide +kernel
theorem dX6_unload_42 : decode cX6_unload 42 = .ok (.bipush (-3), 2) := by decide +kernel
theorem dX6_unload_44 : decode cX6_unload 44 = .ok (.ireturn, 1) := by decide +kernel
theorem dX6_unload_45 : decode cX6_unload 45 = .ok (.aload_n 0, 1) := by decide +kernel
theorem dX6_unload_46 : decode cX6_unload 46 = .ok (.getfield 101, 3) := by decide +kernel
theorem dX6_unload_49 : decode cX6_unload 49 = .ok (.iconst 4, 1) := by decide +kernel
theorem dX6_unload_50 : decode cX6_unload 50 = .ok (.iload_n 1, 1) := by decide +kernel
theorem dX6_unload_51 : decode cX6_unload 51 = .ok (.imul, 1) := by decide +kernel
theorem dX6_unload_52 : decode cX6_unload 52 = .ok (.iload_n 2, 1) := by decide +kernel
theorem dX6_unload_53 : decode cX6_unload 53 = .ok (.iadd, 1) := by decide +kernel
theorem dX6_unload_54 : decode cX6_unload 54 = .ok (.iconst (-1), 1) := by decide +kernel
theorem dX6_unload_55 : decode cX6_unload 55 = .ok (.iastore, 1) := by decide +kernel
theorem dX6_unload_56 : decode cX6_unload 56 = .ok (.aload_n 0, 1) := by decide +kernel
theorem dX6_unload_57 : decode cX6_unload 57 = .ok (.getfield 34, 3) := by decide +kernel
theorem dX6_unload_60 : decode cX6_unload 60 = .ok (.iload_n 3, 1) := by decide +kernel
theorem dX6_unload_61 : decode cX6_unload 61 = .ok (.iconst (-1), 1) := by decide +kernel
theorem dX6_unload_62 : decode cX6_unload 62 = .ok (.iastore, 1) := by decide +kernel
theorem dX6_unload_63 : decode cX6_unload 63 = .ok (.iload_n 3, 1) := by decide +kernel
theorem dX6_unload_64 : decode cX6_unload 64 = .ok (.ireturn, 1) := by decide +kernel
theorem dX6_probe_0 : decode cX6_probe 0 = .ok (.iload_n 1, 1) := by decide +kernel
theorem dX6_probe_1 : decode cX6_probe 1 = .ok (.invokestatic 153, 3) := by decide +kernel
theorem dX6_probe_4 : decode cX6_probe 4 = .ok (.ifCond .eq 24, 3) := by decide +kernel
theorem dX6_probe_7 : decode cX6_probe 7 = .ok (.iload_n 2, 1) := by decide +kernel
theorem dX6_probe_8 : decode cX6_probe 8 = .ok (.invokestatic 156, 3) := by decide +kernel
theorem dX6_probe_11 : decode cX6_probe 11 = .ok (.ifCond .eq 17, 3) := by decide +kernel
theorem dX6_probe_14 : decode cX6_probe 14 = .ok (.iload 4, 2) := by decide +kernel
theorem dX6_probe_16 : decode cX6_probe 16 = .ok (.sipush (-500), 3) := by decide +kernel
theorem dX6_probe_19 : decode cX6_probe 19 = .ok (.sipush 500, 3) := by decide +kernel
theorem dX6_probe_22 : decode cX6_probe 22 = .ok (.invokestatic 1, 3) := by decide +kernel
theorem dX6_probe_25 : decode cX6_probe 25 = .ok (.ifCond .ne 6, 3) := by decide +kernel
theorem dX6_probe_28 : decode cX6_probe 28 = .ok (.bipush (-2), 2) := by decide +kernel
theorem dX6_probe_30 : decode cX6_probe 30 = .ok (.ireturn, 1) := by decide +kernel
theorem dX6_probe_31 : decode cX6_probe 31 = .ok (.aload_n 0, 1) := by decide +kernel
theorem dX6_probe_32 : decode cX6_probe 32 = .ok (.getfield 104, 3) := by decide +kernel
theorem dX6_probe_35 : decode cX6_probe 35 = .ok (.iconst 4, 1) := by decide +kernel
theorem dX6_probe_36 : decode cX6_probe 36 = .ok (.iload_n 1, 1) := by decide +kernel
theorem dX6_probe_37 : decode cX6_probe 37 = .ok (.imul, 1) := by decide +kernel
theorem dX6_probe_38 : decode cX6_probe 38 = .ok (.iload_n 2, 1) := by decide +kernel
theorem dX6_probe_39 : decode cX6_probe 39 = .ok (.iadd, 1) := by decide +kernel
theorem dX6_probe_40 : decode cX6_probe 40 = .ok (.iload_n 3, 1) := by decide +kernel
theorem dX6_probe_41 : decode cX6_probe 41 = .ok (.bastore, 1) := by decide +kernel
theorem dX6_probe_42 : decode cX6_probe 42 = .ok (.aload_n 0, 1) := by decide +kernel
theorem dX6_probe_43 : decode cX6_probe 43 = .ok (.getfield 108, 3) := by decide +kernel
theorem dX6_probe_46 : decode cX6_probe 46 = .ok (.iconst 4, 1) := by decide +kernel
theorem dX6_probe_47 : decode cX6_probe 47 = .ok (.iload_n 1, 1) := by decide +kernel
theorem dX6_probe_48 : decode cX6_probe 48 = .ok (.imul, 1) := by decide +kernel
theorem dX6_probe_49 : decode cX6_probe 49 = .ok (.iload_n 2, 1) := by decide +kernel
theorem dX6_probe_50 : decode cX6_probe 50 = .ok (.iadd, 1) := by decide +kernel
theorem dX6_probe_51 : decode cX6_probe 51 = .ok (.iload 4, 2) := by decide +kernel
theorem dX6_probe_53 : decode cX6_probe 53 = .ok (.iastore, 1) := by decide +kernel
theorem dX6_probe_54 : decode cX6_probe 54 = .ok (.iconst 1, 1) := by decide +kernel
theorem dX6_probe_55 : decode cX6_probe 55 = .ok (.ireturn, 1) := by decide +kernel
theorem dX6_run_0 : decode cX6_run 0 = .ok (.iload_n 1, 1) := by decide +kernel
theorem dX6_run_1 : decode cX6_run 1 = .ok (.invokestatic 153, 3) := by decide +kernel
theorem dX6_run_4 : decode cX6_run 4 = .ok (.ifCond .ne 6, 3) := by decide +kernel
theorem dX6_run_7 : decode cX6_run 7 = .ok (.bipush (-2), 2) := by decide +kernel
theorem dX6_run_9 : decode cX6_run 9 = .ok (.ireturn, 1) := by decide +kernel
theorem dX6_run_10 : decode cX6_run 10 = .ok (.aload_n 0, 1) := by decide +kernel
theorem dX6_run_11 : decode cX6_run 11 = .ok (.getfield 111, 3) := by decide +kernel
theorem dX6_run_14 : decode cX6_run 14 = .ok (.iload_n 1, 1) := by decide +kernel
theorem dX6_run_15 : decode cX6_run 15 = .ok (.baload, 1) := by decide +kernel
theorem dX6_run_16 : decode cX6_run 16 = .ok (.ifCond .ne 20, 3) := by decide +kernel
theorem dX6_run_19 : decode cX6_run 19 = .ok (.aload_n 0, 1) := by decide +kernel
theorem dX6_run_20 : decode cX6_run 20 = .ok (.getfield 89, 3) := by decide +kernel
theorem dX6_run_23 : decode cX6_run 23 = .ok (.iload_n 1, 1) := by decide +kernel
theorem dX6_run_24 : decode cX6_run 24 = .ok (.iaload, 1) := by decide +kernel
theorem dX6_run_25 : decode cX6_run 25 = .ok (.ifCond .eq 11, 3) := by decide +kernel
theorem dX6_run_28 : decode cX6_run 28 = .ok (.aload_n 0, 1) := by decide +kernel
theorem dX6_run_29 : decode cX6_run 29 = .ok (.iload_n 1, 1) := by decide +kernel
theorem dX6_run_30 : decode cX6_run 30 = .ok (.invokevirtual 162, 3) := by decide +kernel
theorem dX6_run_33 : decode cX6_run 33 = .ok (.ifCond .ne 6, 3) := by decide +kernel
theorem dX6_run_36 : decode cX6_run 36 = .ok (.bipush (-3), 2) := by decide +kernel
theorem dX6_run_38 : decode cX6_run 38 = .ok (.ireturn, 1) := by decide +kernel
theorem dX6_run_39 : decode cX6_run 39 = .ok (.aload_n 0, 1) := by decide +kernel
theorem dX6_run_40 : decode cX6_run 40 = .ok (.getfield 165, 3) := by decide +kernel
theorem dX6_run_43 : decode cX6_run 43 = .ok (.bipush 100, 2) := by decide +kernel
theorem dX6_run_45 : decode cX6_run 45 = .ok (.if_icmp .ne 6, 3) := by decide +kernel
theorem dX6_run_48 : decode cX6_run 48 = .ok (.bipush (-4), 2) := by decide +kernel
theorem dX6_run_50 : decode cX6_run 50 = .ok (.ireturn, 1) := by decide +kernel
theorem dX6_run_51 : decode cX6_run 51 = .ok (.aload_n 0, 1) := by decide +kernel
theorem dX6_run_52 : decode cX6_run 52 = .ok (.getfield 126, 3) := by decide +kernel
theorem dX6_run_55 : decode cX6_run 55 = .ok (.aload_n 0, 1) := by decide +kernel
theorem dX6_run_56 : decode cX6_run 56 = .ok (.getfield 165, 3) := by decide +kernel
theorem dX6_run_59 : decode cX6_run 59 = .ok (.iload_n 1, 1) := by decide +kernel
theorem dX6_run_60 : decode cX6_run 60 = .ok (.iastore, 1) := by decide +kernel
theorem dX6_run_61 : decode cX6_run 61 = .ok (.aload_n 0, 1) := by decide +kernel
theorem dX6_run_62 : decode cX6_run 62 = .ok (.getfield 111, 3) := by decide +kernel
theorem dX6_run_65 : decode cX6_run 65 = .ok (.iload_n 1, 1) := by decide +kernel
theorem dX6_run_66 : decode cX6_run 66 = .ok (.iconst 1, 1) := by decide +kernel
theorem dX6_run_67 : decode cX6_run 67 = .ok (.bastore, 1) := by decide +kernel
theorem dX6_run_68 : decode cX6_run 68 = .ok (.aload_n 0, 1) := by decide +kernel
theorem dX6_run_69 : decode cX6_run 69 = .ok (.getfield 114, 3) := by decide +kernel
theorem dX6_run_72 : decode cX6_run 72 = .ok (.iload_n 1, 1) := by decide +kernel
theorem dX6_run_73 : decode cX6_run 73 = .ok (.iconst 0, 1) := by decide +kernel
theorem dX6_run_74 : decode cX6_run 74 = .ok (.iastore, 1) := by decide +kernel
theorem dX6_run_75 : decode cX6_run 75 = .ok (.aload_n 0, 1) := by decide +kernel
theorem dX6_run_76 : decode cX6_run 76 = .ok (.getfield 117, 3) := by decide +kernel
theorem dX6_run_79 : decode cX6_run 79 = .ok (.iload_n 1, 1) := by decide +kernel
theorem dX6_run_80 : decode cX6_run 80 = .ok (.iconst 0, 1) := by decide +kernel
theorem dX6_run_81 : decode cX6_run 81 = .ok (.iastore, 1) := by decide +kernel
theorem dX6_run_82 : decode cX6_run 82 = .ok (.aload_n 0, 1) := by decide +kernel
theorem dX6_run_83 : decode cX6_run 83 = .ok (.getfield 120, 3) := by decide +kernel
theorem dX6_run_86 : decode cX6_run 86 = .ok (.iload_n 1, 1) := by decide +kernel
theorem dX6_run_87 : decode cX6_run 87 = .ok (.aload_n 0, 1) := by decide +kernel
theorem dX6_run_88 : decode cX6_run 88 = .ok (.getfield 165, 3) := by decide +kernel
theorem dX6_run_91 : decode cX6_run 91 = .ok (.iastore, 1) := by decide +kernel
theorem dX6_run_92 : decode cX6_run 92 = .ok (.iconst 0, 1) := by decide +kernel
theorem dX6_run_93 : decode cX6_run 93 = .ok (.istore_n 2, 1) := by decide +kernel
theorem dX6_run_94 : decode cX6_run 94 = .ok (.iload_n 2, 1) := by decide +kernel
theorem dX6_run_95 : decode cX6_run 95 = .ok (.iconst 4, 1) := by decide +kernel
theorem dX6_run_96 : decode cX6_run 96 = .ok (.if_icmp .ge 42, 3) := by decide +kernel
theorem dX6_run_99 : decode cX6_run 99 = .ok (.aload_n 0, 1) := by decide +kernel
theorem dX6_run_100 : decode cX6_run 100 = .ok (.getfield 101, 3) := by decide +kernel
theorem dX6_run_103 : decode cX6_run 103 = .ok (.iconst 4, 1) := by decide +kernel
theorem dX6_run_104 : decode cX6_run 104 = .ok (.iload_n 1, 1) := by decide +kernel
theorem dX6_run_105 : decode cX6_run 105 = .ok (.imul, 1) := by decide +kernel
theorem dX6_run_106 : decode cX6_run 106 = .ok (.iload_n 2, 1) := by decide +kernel
theorem dX6_run_107 : decode cX6_run 107 = .ok (.iadd, 1) := by decide +kernel
theorem dX6_run_108 : decode cX6_run 108 = .ok (.iaload, 1) := by decide +kernel
theorem dX6_run_109 : decode cX6_run 109 = .ok (.iconst (-1), 1) := by decide +kernel
theorem dX6_run_110 : decode cX6_run 110 = .ok (.if_icmp .eq 22, 3) := by decide +kernel
theorem dX6_run_113 : decode cX6_run 113 = .ok (.aload_n 0, 1) := by decide +kernel
theorem dX6_run_114 : decode cX6_run 114 = .ok (.getfield 37, 3) := by decide +kernel
theorem dX6_run_117 : decode cX6_run 117 = .ok (.aload_n 0, 1) := by decide +kernel
theorem dX6_run_118 : decode cX6_run 118 = .ok (.getfield 101, 3) := by decide +kernel
theorem dX6_run_121 : decode cX6_run 121 = .ok (.iconst 4, 1) := by decide +kernel
theorem dX6_run_122 : decode cX6_run 122 = .ok (.iload_n 1, 1) := by decide +kernel
theorem dX6_run_123 : decode cX6_run 123 = .ok (.imul, 1) := by decide +kernel
theorem dX6_run_124 : decode cX6_run 124 = .ok (.iload_n 2, 1) := by decide +kernel
theorem dX6_run_125 : decode cX6_run 125 = .ok (.iadd, 1) := by decide +kernel
theorem dX6_run_126 : decode cX6_run 126 = .ok (.iaload, 1) := by decide +kernel
theorem dX6_run_127 : decode cX6_run 127 = .ok (.aload_n 0, 1) := by decide +kernel
theorem dX6_run_128 : decode cX6_run 128 = .ok (.getfield 165, 3) := by decide +kernel
theorem dX6_run_131 : decode cX6_run 131 = .ok (.iastore, 1) := by decide +kernel
theorem dX6_run_132 : decode cX6_run 132 = .ok (.iinc 2 1, 3) := by decide +kernel
theorem dX6_run_135 : decode cX6_run 135 = .ok (.goto (-41), 3) := by decide +kernel
theorem dX6_run_138 : decode cX6_run 138 = .ok (.aload_n 0, 1) := by decide +kernel
theorem dX6_run_139 : decode cX6_run 139 = .ok (.dup, 1) := by decide +kernel
theorem dX6_run_140 : decode cX6_run 140 = .ok (.getfield 165, 3) := by decide +kernel
theorem dX6_run_143 : decode cX6_run 143 = .ok (.iconst 1, 1) := by decide +kernel
theorem dX6_run_144 : decode cX6_run 144 = .ok (.iadd, 1) := by decide +kernel
theorem dX6_run_145 : decode cX6_run 145 = .ok (.putfield 165, 3) := by decide +kernel
theorem dX6_run_148 : decode cX6_run 148 = .ok (.aload_n 0, 1) := by decide +kernel
theorem dX6_run_149 : decode cX6_run 149 = .ok (.getfield 165, 3) := by decide +kernel
theorem dX6_run_152 : decode cX6_run 152 = .ok (.iconst 1, 1) := by decide +kernel
theorem dX6_run_153 : decode cX6_run 153 = .ok (.isub, 1) := by decide +kernel
theorem dX6_run_154 : decode cX6_run 154 = .ok (.ireturn, 1) := by decide +kernel
theorem dX6_liveAt_0 : decode cX6_liveAt 0 = .ok (.iconst 0, 1) := by decide +kernel
theorem dX6_liveAt_1 : decode cX6_liveAt 1 = .ok (.istore_n 3, 1) := by decide +kernel
theorem dX6_liveAt_2 : decode cX6_liveAt 2 = .ok (.iconst 1, 1) := by decide +kernel
theorem dX6_liveAt_3 : decode cX6_liveAt 3 = .ok (.istore 4, 2) := by decide +kernel
theorem dX6_liveAt_5 : decode cX6_liveAt 5 = .ok (.iconst 4, 1) := by decide +kernel
theorem dX6_liveAt_6 : decode cX6_liveAt 6 = .ok (.iload_n 1, 1) := by decide +kernel
theorem dX6_liveAt_7 : decode cX6_liveAt 7 = .ok (.imul, 1) := by decide +kernel
theorem dX6_liveAt_8 : decode cX6_liveAt 8 = .ok (.istore 5, 2) := by decide +kernel
theorem dX6_liveAt_10 : decode cX6_liveAt 10 = .ok (.iload 5, 2) := by decide +kernel
theorem dX6_liveAt_12 : decode cX6_liveAt 12 = .ok (.iconst 4, 1) := by decide +kernel
theorem dX6_liveAt_13 : decode cX6_liveAt 13 = .ok (.iload_n 1, 1) := by decide +kernel
theorem dX6_liveAt_14 : decode cX6_liveAt 14 = .ok (.imul, 1) := by decide +kernel
theorem dX6_liveAt_15 : decode cX6_liveAt 15 = .ok (.iconst 4, 1) := by decide +kernel
theorem dX6_liveAt_16 : decode cX6_liveAt 16 = .ok (.iadd, 1) := by decide +kernel
theorem dX6_liveAt_17 : decode cX6_liveAt 17 = .ok (.if_icmp .ge 68, 3) := by decide +kernel
theorem dX6_liveAt_20 : decode cX6_liveAt 20 = .ok (.aload_n 0, 1) := by decide +kernel
theorem dX6_liveAt_21 : decode cX6_liveAt 21 = .ok (.getfield 104, 3) := by decide +kernel
theorem dX6_liveAt_24 : decode cX6_liveAt 24 = .ok (.iload 5, 2) := by decide +kernel
theorem dX6_liveAt_26 : decode cX6_liveAt 26 = .ok (.baload, 1) := by decide +kernel
theorem dX6_liveAt_27 : decode cX6_liveAt 27 = .ok (.ifCond .eq 52, 3) := by decide +kernel
theorem dX6_liveAt_30 : decode cX6_liveAt 30 = .ok (.aload_n 0, 1) := by decide +kernel
theorem dX6_liveAt_31 : decode cX6_liveAt 31 = .ok (.getfield 101, 3) := by decide +kernel
theorem dX6_liveAt_34 : decode cX6_liveAt 34 = .ok (.iload 5, 2) := by decide +kernel
theorem dX6_liveAt_36 : decode cX6_liveAt 36 = .ok (.iaload, 1) := by decide +kernel
theorem dX6_liveAt_37 : decode cX6_liveAt 37 = .ok (.iconst (-1), 1) := by decide +kernel
theorem dX6_liveAt_38 : decode cX6_liveAt 38 = .ok (.if_icmp .eq 41, 3) := by decide +kernel
theorem dX6_liveAt_41 : decode cX6_liveAt 41 = .ok (.iinc 3 1, 3) := by decide +kernel
theorem dX6_liveAt_44 : decode cX6_liveAt 44 = .ok (.iload 4, 2) := by decide +kernel
theorem dX6_liveAt_46 : decode cX6_liveAt 46 = .ok (.ifCond .eq 30, 3) := by decide +kernel
theorem dX6_liveAt_49 : decode cX6_liveAt 49 = .ok (.aload_n 0, 1) := by decide +kernel
theorem dX6_liveAt_50 : decode cX6_liveAt 50 = .ok (.aload_n 0, 1) := by decide +kernel
theorem dX6_liveAt_51 : decode cX6_liveAt 51 = .ok (.getfield 101, 3) := by decide +kernel
theorem dX6_liveAt_54 : decode cX6_liveAt 54 = .ok (.iload 5, 2) := by decide +kernel
theorem dX6_liveAt_56 : decode cX6_liveAt 56 = .ok (.iaload, 1) := by decide +kernel
theorem dX6_liveAt_57 : decode cX6_liveAt 57 = .ok (.invokevirtual 67, 3) := by decide +kernel
theorem dX6_liveAt_60 : decode cX6_liveAt 60 = .ok (.aload_n 0, 1) := by decide +kernel
theorem dX6_liveAt_61 : decode cX6_liveAt 61 = .ok (.getfield 108, 3) := by decide +kernel
theorem dX6_liveAt_64 : decode cX6_liveAt 64 = .ok (.iload 5, 2) := by decide +kernel
theorem dX6_liveAt_66 : decode cX6_liveAt 66 = .ok (.iaload, 1) := by decide +kernel
theorem dX6_liveAt_67 : decode cX6_liveAt 67 = .ok (.iadd, 1) := by decide +kernel
theorem dX6_liveAt_68 : decode cX6_liveAt 68 = .ok (.iload_n 2, 1) := by decide +kernel
theorem dX6_liveAt_69 : decode cX6_liveAt 69 = .ok (.if_icmp .lt 7, 3) := by decide +kernel
theorem dX6_liveAt_72 : decode cX6_liveAt 72 = .ok (.iconst 1, 1) := by decide +kernel
theorem dX6_liveAt_73 : decode cX6_liveAt 73 = .ok (.goto 4, 3) := by decide +kernel
theorem dX6_liveAt_76 : decode cX6_liveAt 76 = .ok (.iconst 0, 1) := by decide +kernel
theorem dX6_liveAt_77 : decode cX6_liveAt 77 = .ok (.istore 4, 2) := by decide +kernel
theorem dX6_liveAt_79 : decode cX6_liveAt 79 = .ok (.iinc 5 1, 3) := by decide +kernel
theorem dX6_liveAt_82 : decode cX6_liveAt 82 = .ok (.goto (-72), 3) := by decide +kernel
theorem dX6_liveAt_85 : decode cX6_liveAt 85 = .ok (.iload 4, 2) := by decide +kernel
theorem dX6_liveAt_87 : decode cX6_liveAt 87 = .ok (.ifCond .eq 7, 3) := by decide +kernel
theorem dX6_liveAt_90 : decode cX6_liveAt 90 = .ok (.iload_n 3, 1) := by decide +kernel
theorem dX6_liveAt_91 : decode cX6_liveAt 91 = .ok (.goto 4, 3) := by decide +kernel
theorem dX6_liveAt_94 : decode cX6_liveAt 94 = .ok (.iconst (-1), 1) := by decide +kernel
theorem dX6_liveAt_95 : decode cX6_liveAt 95 = .ok (.ireturn, 1) := by decide +kernel
theorem dX6_ticks_0 : decode cX6_ticks 0 = .ok (.bipush 8, 2) := by decide +kernel
theorem dX6_ticks_2 : decode cX6_ticks 2 = .ok (.iload_n 1, 1) := by decide +kernel
theorem dX6_ticks_3 : decode cX6_ticks 3 = .ok (.imul, 1) := by decide +kernel
theorem dX6_ticks_4 : decode cX6_ticks 4 = .ok (.aload_n 0, 1) := by decide +kernel
theorem dX6_ticks_5 : decode cX6_ticks 5 = .ok (.getfield 114, 3) := by decide +kernel
theorem dX6_ticks_8 : decode cX6_ticks 8 = .ok (.iload_n 1, 1) := by decide +kernel
theorem dX6_ticks_9 : decode cX6_ticks 9 = .ok (.iaload, 1) := by decide +kernel
theorem dX6_ticks_10 : decode cX6_ticks 10 = .ok (.iadd, 1) := by decide +kernel
theorem dX6_ticks_11 : decode cX6_ticks 11 = .ok (.istore_n 2, 1) := by decide +kernel
theorem dX6_ticks_12 : decode cX6_ticks 12 = .ok (.aload_n 0, 1) := by decide +kernel
theorem dX6_ticks_13 : decode cX6_ticks 13 = .ok (.getfield 95, 3) := by decide +kernel
theorem dX6_ticks_16 : decode cX6_ticks 16 = .ok (.iload_n 2, 1) := by decide +kernel
theorem dX6_ticks_17 : decode cX6_ticks 17 = .ok (.iaload, 1) := by decide +kernel
theorem dX6_ticks_18 : decode cX6_ticks 18 = .ok (.istore_n 3, 1) := by decide +kernel
theorem dX6_ticks_19 : decode cX6_ticks 19 = .ok (.aload_n 0, 1) := by decide +kernel
theorem dX6_ticks_20 : decode cX6_ticks 20 = .ok (.getfield 98, 3) := by decide +kernel
theorem dX6_ticks_23 : decode cX6_ticks 23 = .ok (.iload_n 2, 1) := by decide +kernel
theorem dX6_ticks_24 : decode cX6_ticks 24 = .ok (.iaload, 1) := by decide +kernel
theorem dX6_ticks_25 : decode cX6_ticks 25 = .ok (.istore 4, 2) := by decide +kernel
theorem dX6_ticks_27 : decode cX6_ticks 27 = .ok (.aload_n 0, 1) := by decide +kernel
theorem dX6_ticks_28 : decode cX6_ticks 28 = .ok (.getfield 92, 3) := by decide +kernel
theorem dX6_ticks_31 : decode cX6_ticks 31 = .ok (.iload_n 2, 1) := by decide +kernel
theorem dX6_ticks_32 : decode cX6_ticks 32 = .ok (.iaload, 1) := by decide +kernel
theorem dX6_ticks_33 : decode cX6_ticks 33 = .ok (.istore 5, 2) := by decide +kernel
theorem dX6_ticks_35 : decode cX6_ticks 35 = .ok (.iload 5, 2) := by decide +kernel
theorem dX6_ticks_37 : decode cX6_ticks 37 = .ok (.ifCond .ne 77, 3) := by decide +kernel
theorem dX6_ticks_40 : decode cX6_ticks 40 = .ok (.aload_n 0, 1) := by decide +kernel
theorem dX6_ticks_41 : decode cX6_ticks 41 = .ok (.getfield 83, 3) := by decide +kernel
theorem dX6_ticks_44 : decode cX6_ticks 44 = .ok (.iload_n 1, 1) := by decide +kernel
theorem dX6_ticks_45 : decode cX6_ticks 45 = .ok (.aload_n 0, 1) := by decide +kernel
theorem dX6_ticks_46 : decode cX6_ticks 46 = .ok (.getfield 83, 3) := by decide +kernel
theorem dX6_ticks_49 : decode cX6_ticks 49 = .ok (.iload_n 1, 1) := by decide +kernel
theorem dX6_ticks_50 : decode cX6_ticks 50 = .ok (.iaload, 1) := by decide +kernel
theorem dX6_ticks_51 : decode cX6_ticks 51 = .ok (.iload_n 3, 1) := by decide +kernel
theorem dX6_ticks_52 : decode cX6_ticks 52 = .ok (.if_icmp .ge 32, 3) := by decide +kernel
theorem dX6_ticks_55 : decode cX6_ticks 55 = .ok (.aload_n 0, 1) := by decide +kernel
theorem dX6_ticks_56 : decode cX6_ticks 56 = .ok (.getfield 83, 3) := by decide +kernel
theorem dX6_ticks_59 : decode cX6_ticks 59 = .ok (.iload_n 1, 1) := by decide +kernel
theorem dX6_ticks_60 : decode cX6_ticks 60 = .ok (.iaload, 1) := by decide +kernel
theorem dX6_ticks_61 : decode cX6_ticks 61 = .ok (.iload 4, 2) := by decide +kernel
theorem dX6_ticks_63 : decode cX6_ticks 63 = .ok (.iadd, 1) := by decide +kernel
theorem dX6_ticks_64 : decode cX6_ticks 64 = .ok (.iload_n 3, 1) := by decide +kernel
theorem dX6_ticks_65 : decode cX6_ticks 65 = .ok (.if_icmp .ge 15, 3) := by decide +kernel
theorem dX6_ticks_68 : decode cX6_ticks 68 = .ok (.aload_n 0, 1) := by decide +kernel
theorem dX6_ticks_69 : decode cX6_ticks 69 = .ok (.getfield 83, 3) := by decide +kernel
theorem dX6_ticks_72 : decode cX6_ticks 72 = .ok (.iload_n 1, 1) := by decide +kernel
theorem dX6_ticks_73 : decode cX6_ticks 73 = .ok (.iaload, 1) := by decide +kernel
theorem dX6_ticks_74 : decode cX6_ticks 74 = .ok (.iload 4, 2) := by decide +kernel
theorem dX6_ticks_76 : decode cX6_ticks 76 = .ok (.iadd, 1) := by decide +kernel
theorem dX6_ticks_77 : decode cX6_ticks 77 = .ok (.goto 33, 3) := by decide +kernel
theorem dX6_ticks_80 : decode cX6_ticks 80 = .ok (.iload_n 3, 1) := by decide +kernel
theorem dX6_ticks_81 : decode cX6_ticks 81 = .ok (.goto 29, 3) := by decide +kernel
theorem dX6_ticks_84 : decode cX6_ticks 84 = .ok (.aload_n 0, 1) := by decide +kernel
theorem dX6_ticks_85 : decode cX6_ticks 85 = .ok (.getfield 83, 3) := by decide +kernel
theorem dX6_ticks_88 : decode cX6_ticks 88 = .ok (.iload_n 1, 1) := by decide +kernel
theorem dX6_ticks_89 : decode cX6_ticks 89 = .ok (.iaload, 1) := by decide +kernel
theorem dX6_ticks_90 : decode cX6_ticks 90 = .ok (.iload 4, 2) := by decide +kernel
theorem dX6_ticks_92 : decode cX6_ticks 92 = .ok (.isub, 1) := by decide +kernel
theorem dX6_ticks_93 : decode cX6_ticks 93 = .ok (.iload_n 3, 1) := by decide +kernel
theorem dX6_ticks_94 : decode cX6_ticks 94 = .ok (.if_icmp .le 15, 3) := by decide +kernel
theorem dX6_ticks_97 : decode cX6_ticks 97 = .ok (.aload_n 0, 1) := by decide +kernel
theorem dX6_ticks_98 : decode cX6_ticks 98 = .ok (.getfield 83, 3) := by decide +kernel
theorem dX6_ticks_101 : decode cX6_ticks 101 = .ok (.iload_n 1, 1) := by decide +kernel
theorem dX6_ticks_102 : decode cX6_ticks 102 = .ok (.iaload, 1) := by decide +kernel
theorem dX6_ticks_103 : decode cX6_ticks 103 = .ok (.iload 4, 2) := by decide +kernel
theorem dX6_ticks_105 : decode cX6_ticks 105 = .ok (.isub, 1) := by decide +kernel
theorem dX6_ticks_106 : decode cX6_ticks 106 = .ok (.goto 4, 3) := by decide +kernel
theorem dX6_ticks_109 : decode cX6_ticks 109 = .ok (.iload_n 3, 1) := by decide +kernel
theorem dX6_ticks_110 : decode cX6_ticks 110 = .ok (.iastore, 1) := by decide +kernel
theorem dX6_ticks_111 : decode cX6_ticks 111 = .ok (.goto 16, 3) := by decide +kernel
theorem dX6_ticks_114 : decode cX6_ticks 114 = .ok (.iload 5, 2) := by decide +kernel
theorem dX6_ticks_116 : decode cX6_ticks 116 = .ok (.iconst 3, 1) := by decide +kernel
theorem dX6_ticks_117 : decode cX6_ticks 117 = .ok (.if_icmp .ge 10, 3) := by decide +kernel
theorem dX6_ticks_120 : decode cX6_ticks 120 = .ok (.aload_n 0, 1) := by decide +kernel
theorem dX6_ticks_121 : decode cX6_ticks 121 = .ok (.getfield 83, 3) := by decide +kernel
theorem dX6_ticks_124 : decode cX6_ticks 124 = .ok (.iload_n 1, 1) := by decide +kernel
theorem dX6_ticks_125 : decode cX6_ticks 125 = .ok (.iload_n 3, 1) := by decide +kernel
theorem dX6_ticks_126 : decode cX6_ticks 126 = .ok (.iastore, 1) := by decide +kernel
theorem dX6_ticks_127 : decode cX6_ticks 127 = .ok (.iconst 4, 1) := by decide +kernel
theorem dX6_ticks_128 : decode cX6_ticks 128 = .ok (.iload_n 1, 1) := by decide +kernel
theorem dX6_ticks_129 : decode cX6_ticks 129 = .ok (.imul, 1) := by decide +kernel
theorem dX6_ticks_130 : decode cX6_ticks 130 = .ok (.istore 6, 2) := by decide +kernel
theorem dX6_ticks_132 : decode cX6_ticks 132 = .ok (.iload 6, 2) := by decide +kernel
theorem dX6_ticks_134 : decode cX6_ticks 134 = .ok (.iconst 4, 1) := by decide +kernel
theorem dX6_ticks_135 : decode cX6_ticks 135 = .ok (.iload_n 1, 1) := by decide +kernel
theorem dX6_ticks_136 : decode cX6_ticks 136 = .ok (.imul, 1) := by decide +kernel
theorem dX6_ticks_137 : decode cX6_ticks 137 = .ok (.iconst 4, 1) := by decide +kernel
theorem dX6_ticks_138 : decode cX6_ticks 138 = .ok (.iadd, 1) := by decide +kernel
theorem dX6_ticks_139 : decode cX6_ticks 139 = .ok (.if_icmp .ge 44, 3) := by decide +kernel
theorem dX6_ticks_142 : decode cX6_ticks 142 = .ok (.aload_n 0, 1) := by decide +kernel
theorem dX6_ticks_143 : decode cX6_ticks 143 = .ok (.getfield 101, 3) := by decide +kernel
theorem dX6_ticks_146 : decode cX6_ticks 146 = .ok (.iload 6, 2) := by decide +kernel
theorem dX6_ticks_148 : decode cX6_ticks 148 = .ok (.iaload, 1) := by decide +kernel
theorem dX6_ticks_149 : decode cX6_ticks 149 = .ok (.iconst (-1), 1) := by decide +kernel
theorem dX6_ticks_150 : decode cX6_ticks 150 = .ok (.if_icmp .eq 27, 3) := by decide +kernel
theorem dX6_ticks_153 : decode cX6_ticks 153 = .ok (.aload_n 0, 1) := by decide +kernel
theorem dX6_ticks_154 : decode cX6_ticks 154 = .ok (.aload_n 0, 1) := by decide +kernel
theorem dX6_ticks_155 : decode cX6_ticks 155 = .ok (.getfield 101, 3) := by decide +kernel
theorem dX6_ticks_158 : decode cX6_ticks 158 = .ok (.iload 6, 2) := by decide +kernel
theorem dX6_ticks_160 : decode cX6_ticks 160 = .ok (.iaload, 1) := by decide +kernel
theorem dX6_ticks_161 : decode cX6_ticks 161 = .ok (.aload_n 0, 1) := by decide +kernel
theorem dX6_ticks_162 : decode cX6_ticks 162 = .ok (.getfield 83, 3) := by decide +kernel
theorem dX6_ticks_165 : decode cX6_ticks 165 = .ok (.iload_n 1, 1) := by decide +kernel
theorem dX6_ticks_166 : decode cX6_ticks 166 = .ok (.iaload, 1) := by decide +kernel
theorem dX6_ticks_167 : decode cX6_ticks 167 = .ok (.aload_n 0, 1) := by decide +kernel
theorem dX6_ticks_168 : decode cX6_ticks 168 = .ok (.getfield 86, 3) := by decide +kernel
theorem dX6_ticks_171 : decode cX6_ticks 171 = .ok (.iload_n 1, 1) := by decide +kernel
theorem dX6_ticks_172 : decode cX6_ticks 172 = .ok (.iaload, 1) := by decide +kernel
theorem dX6_ticks_173 : decode cX6_ticks 173 = .ok (.iadd, 1) := by decide +kernel
theorem dX6_ticks_174 : decode cX6_ticks 174 = .ok (.invokevirtual 64, 3) := by decide +kernel
theorem dX6_ticks_177 : decode cX6_ticks 177 = .ok (.iinc 6 1, 3) := by decide +kernel
theorem dX6_ticks_180 : decode cX6_ticks 180 = .ok (.goto (-48), 3) := by decide +kernel
theorem dX6_ticks_183 : decode cX6_ticks 183 = .ok (.aload_n 0, 1) := by decide +kernel
theorem dX6_ticks_184 : decode cX6_ticks 184 = .ok (.getfield 141, 3) := by decide +kernel
theorem dX6_ticks_187 : decode cX6_ticks 187 = .ok (.aload_n 0, 1) := by decide +kernel
theorem dX6_ticks_188 : decode cX6_ticks 188 = .ok (.getfield 120, 3) := by decide +kernel
theorem dX6_ticks_191 : decode cX6_ticks 191 = .ok (.iload_n 1, 1) := by decide +kernel
theorem dX6_ticks_192 : decode cX6_ticks 192 = .ok (.iaload, 1) := by decide +kernel
theorem dX6_ticks_193 : decode cX6_ticks 193 = .ok (.dup2, 1) := by decide +kernel
theorem dX6_ticks_194 : decode cX6_ticks 194 = .ok (.iaload, 1) := by decide +kernel
theorem dX6_ticks_195 : decode cX6_ticks 195 = .ok (.iconst 1, 1) := by decide +kernel
theorem dX6_ticks_196 : decode cX6_ticks 196 = .ok (.iadd, 1) := by decide +kernel
theorem dX6_ticks_197 : decode cX6_ticks 197 = .ok (.iastore, 1) := by decide +kernel
theorem dX6_ticks_198 : decode cX6_ticks 198 = .ok (.iload 5, 2) := by decide +kernel
theorem dX6_ticks_200 : decode cX6_ticks 200 = .ok (.ifCond .ne 17, 3) := by decide +kernel
theorem dX6_ticks_203 : decode cX6_ticks 203 = .ok (.aload_n 0, 1) := by decide +kernel
theorem dX6_ticks_204 : decode cX6_ticks 204 = .ok (.getfield 83, 3) := by decide +kernel
theorem dX6_ticks_207 : decode cX6_ticks 207 = .ok (.iload_n 1, 1) := by decide +kernel
theorem dX6_ticks_208 : decode cX6_ticks 208 = .ok (.iaload, 1) := by decide +kernel
theorem dX6_ticks_209 : decode cX6_ticks 209 = .ok (.iload_n 3, 1) := by decide +kernel
theorem dX6_ticks_210 : decode cX6_ticks 210 = .ok (.if_icmp .ne 7, 3) := by decide +kernel
theorem dX6_ticks_213 : decode cX6_ticks 213 = .ok (.iconst 1, 1) := by decide +kernel
theorem dX6_ticks_214 : decode cX6_ticks 214 = .ok (.goto 4, 3) := by decide +kernel
theorem dX6_ticks_217 : decode cX6_ticks 217 = .ok (.iconst 0, 1) := by decide +kernel
theorem dX6_ticks_218 : decode cX6_ticks 218 = .ok (.istore 6, 2) := by decide +kernel
theorem dX6_ticks_220 : decode cX6_ticks 220 = .ok (.iload 5, 2) := by decide +kernel
theorem dX6_ticks_222 : decode cX6_ticks 222 = .ok (.iconst 1, 1) := by decide +kernel
theorem dX6_ticks_223 : decode cX6_ticks 223 = .ok (.if_icmp .ne 81, 3) := by decide +kernel
theorem dX6_ticks_226 : decode cX6_ticks 226 = .ok (.aload_n 0, 1) := by decide +kernel
theorem dX6_ticks_227 : decode cX6_ticks 227 = .ok (.iload_n 1, 1) := by decide +kernel
theorem dX6_ticks_228 : decode cX6_ticks 228 = .ok (.iload_n 3, 1) := by decide +kernel
theorem dX6_ticks_229 : decode cX6_ticks 229 = .ok (.bipush 100, 2) := by decide +kernel
theorem dX6_ticks_231 : decode cX6_ticks 231 = .ok (.isub, 1) := by decide +kernel
theorem dX6_ticks_232 : decode cX6_ticks 232 = .ok (.invokevirtual 168, 3) := by decide +kernel
theorem dX6_ticks_235 : decode cX6_ticks 235 = .ok (.istore 7, 2) := by decide +kernel
theorem dX6_ticks_237 : decode cX6_ticks 237 = .ok (.aload_n 0, 1) := by decide +kernel
theorem dX6_ticks_238 : decode cX6_ticks 238 = .ok (.getfield 117, 3) := by decide +kernel
theorem dX6_ticks_241 : decode cX6_ticks 241 = .ok (.iload_n 1, 1) := by decide +kernel
theorem dX6_ticks_242 : decode cX6_ticks 242 = .ok (.dup2, 1) := by decide +kernel
theorem dX6_ticks_243 : decode cX6_ticks 243 = .ok (.iaload, 1) := by decide +kernel
theorem dX6_ticks_244 : decode cX6_ticks 244 = .ok (.iload 7, 2) := by decide +kernel
theorem dX6_ticks_246 : decode cX6_ticks 246 = .ok (.ifCond .le 7, 3) := by decide +kernel
theorem dX6_ticks_249 : decode cX6_ticks 249 = .ok (.iconst 1, 1) := by decide +kernel
theorem dX6_ticks_250 : decode cX6_ticks 250 = .ok (.goto 4, 3) := by decide +kernel
theorem dX6_ticks_253 : decode cX6_ticks 253 = .ok (.iconst 0, 1) := by decide +kernel
theorem dX6_ticks_254 : decode cX6_ticks 254 = .ok (.iadd, 1) := by decide +kernel
theorem dX6_ticks_255 : decode cX6_ticks 255 = .ok (.iastore, 1) := by decide +kernel
theorem dX6_ticks_256 : decode cX6_ticks 256 = .ok (.aload_n 0, 1) := by decide +kernel
theorem dX6_ticks_257 : decode cX6_ticks 257 = .ok (.getfield 135, 3) := by decide +kernel
theorem dX6_ticks_260 : decode cX6_ticks 260 = .ok (.aload_n 0, 1) := by decide +kernel
theorem dX6_ticks_261 : decode cX6_ticks 261 = .ok (.getfield 120, 3) := by decide +kernel
theorem dX6_ticks_264 : decode cX6_ticks 264 = .ok (.iload_n 1, 1) := by decide +kernel
theorem dX6_ticks_265 : decode cX6_ticks 265 = .ok (.iaload, 1) := by decide +kernel
theorem dX6_ticks_266 : decode cX6_ticks 266 = .ok (.aload_n 0, 1) := by decide +kernel
theorem dX6_ticks_267 : decode cX6_ticks 267 = .ok (.getfield 135, 3) := by decide +kernel
theorem dX6_ticks_270 : decode cX6_ticks 270 = .ok (.aload_n 0, 1) := by decide +kernel
theorem dX6_ticks_271 : decode cX6_ticks 271 = .ok (.getfield 120, 3) := by decide +kernel
theorem dX6_ticks_274 : decode cX6_ticks 274 = .ok (.iload_n 1, 1) := by decide +kernel
theorem dX6_ticks_275 : decode cX6_ticks 275 = .ok (.iaload, 1) := by decide +kernel
theorem dX6_ticks_276 : decode cX6_ticks 276 = .ok (.baload, 1) := by decide +kernel
theorem dX6_ticks_277 : decode cX6_ticks 277 = .ok (.ifCond .ne 18, 3) := by decide +kernel
theorem dX6_ticks_280 : decode cX6_ticks 280 = .ok (.iload 7, 2) := by decide +kernel
theorem dX6_ticks_282 : decode cX6_ticks 282 = .ok (.iconst 1, 1) := by decide +kernel
theorem dX6_ticks_283 : decode cX6_ticks 283 = .ok (.if_icmp .ne 16, 3) := by decide +kernel
theorem dX6_ticks_286 : decode cX6_ticks 286 = .ok (.aload_n 0, 1) := by decide +kernel
theorem dX6_ticks_287 : decode cX6_ticks 287 = .ok (.iload_n 1, 1) := by decide +kernel
theorem dX6_ticks_288 : decode cX6_ticks 288 = .ok (.invokevirtual 162, 3) := by decide +kernel
theorem dX6_ticks_291 : decode cX6_ticks 291 = .ok (.iconst 1, 1) := by decide +kernel
theorem dX6_ticks_292 : decode cX6_ticks 292 = .ok (.if_icmp .le 7, 3) := by decide +kernel
theorem dX6_ticks_295 : decode cX6_ticks 295 = .ok (.iconst 1, 1) := by decide +kernel
theorem dX6_ticks_296 : decode cX6_ticks 296 = .ok (.goto 4, 3) := by decide +kernel
theorem dX6_ticks_299 : decode cX6_ticks 299 = .ok (.iconst 0, 1) := by decide +kernel
theorem dX6_ticks_300 : decode cX6_ticks 300 = .ok (.bastore, 1) := by decide +kernel
theorem dX6_ticks_301 : decode cX6_ticks 301 = .ok (.goto 19, 3) := by decide +kernel
theorem dX6_ticks_304 : decode cX6_ticks 304 = .ok (.iload 5, 2) := by decide +kernel
theorem dX6_ticks_306 : decode cX6_ticks 306 = .ok (.iconst 1, 1) := by decide +kernel
theorem dX6_ticks_307 : decode cX6_ticks 307 = .ok (.if_icmp .le 13, 3) := by decide +kernel
theorem dX6_ticks_310 : decode cX6_ticks 310 = .ok (.aload_n 0, 1) := by decide +kernel
theorem dX6_ticks_311 : decode cX6_ticks 311 = .ok (.getfield 117, 3) := by decide +kernel
theorem dX6_ticks_314 : decode cX6_ticks 314 = .ok (.iload_n 1, 1) := by decide +kernel
theorem dX6_ticks_315 : decode cX6_ticks 315 = .ok (.dup2, 1) := by decide +kernel
theorem dX6_ticks_316 : decode cX6_ticks 316 = .ok (.iaload, 1) := by decide +kernel
theorem dX6_ticks_317 : decode cX6_ticks 317 = .ok (.iconst 1, 1) := by decide +kernel
theorem dX6_ticks_318 : decode cX6_ticks 318 = .ok (.iadd, 1) := by decide +kernel
theorem dX6_ticks_319 : decode cX6_ticks 319 = .ok (.iastore, 1) := by decide +kernel
theorem dX6_ticks_320 : decode cX6_ticks 320 = .ok (.iload 6, 2) := by decide +kernel
theorem dX6_ticks_322 : decode cX6_ticks 322 = .ok (.ifCond .ne 19, 3) := by decide +kernel
theorem dX6_ticks_325 : decode cX6_ticks 325 = .ok (.iload 5, 2) := by decide +kernel
theorem dX6_ticks_327 : decode cX6_ticks 327 = .ok (.ifCond .le 18, 3) := by decide +kernel
theorem dX6_ticks_330 : decode cX6_ticks 330 = .ok (.aload_n 0, 1) := by decide +kernel
theorem dX6_ticks_331 : decode cX6_ticks 331 = .ok (.getfield 117, 3) := by decide +kernel
theorem dX6_ticks_334 : decode cX6_ticks 334 = .ok (.iload_n 1, 1) := by decide +kernel
theorem dX6_ticks_335 : decode cX6_ticks 335 = .ok (.iaload, 1) := by decide +kernel
theorem dX6_ticks_336 : decode cX6_ticks 336 = .ok (.iload 4, 2) := by decide +kernel
theorem dX6_ticks_338 : decode cX6_ticks 338 = .ok (.if_icmp .ne 7, 3) := by decide +kernel
theorem dX6_ticks_341 : decode cX6_ticks 341 = .ok (.iconst 1, 1) := by decide +kernel
theorem dX6_ticks_342 : decode cX6_ticks 342 = .ok (.goto 4, 3) := by decide +kernel
theorem dX6_ticks_345 : decode cX6_ticks 345 = .ok (.iconst 0, 1) := by decide +kernel
theorem dX6_ticks_346 : decode cX6_ticks 346 = .ok (.istore 6, 2) := by decide +kernel
theorem dX6_ticks_348 : decode cX6_ticks 348 = .ok (.iload 6, 2) := by decide +kernel
theorem dX6_ticks_350 : decode cX6_ticks 350 = .ok (.ifCond .eq 66, 3) := by decide +kernel
theorem dX6_ticks_353 : decode cX6_ticks 353 = .ok (.aload_n 0, 1) := by decide +kernel
theorem dX6_ticks_354 : decode cX6_ticks 354 = .ok (.getfield 114, 3) := by decide +kernel
theorem dX6_ticks_357 : decode cX6_ticks 357 = .ok (.iload_n 1, 1) := by decide +kernel
theorem dX6_ticks_358 : decode cX6_ticks 358 = .ok (.dup2, 1) := by decide +kernel
theorem dX6_ticks_359 : decode cX6_ticks 359 = .ok (.iaload, 1) := by decide +kernel
theorem dX6_ticks_360 : decode cX6_ticks 360 = .ok (.iconst 1, 1) := by decide +kernel
theorem dX6_ticks_361 : decode cX6_ticks 361 = .ok (.iadd, 1) := by decide +kernel
theorem dX6_ticks_362 : decode cX6_ticks 362 = .ok (.iastore, 1) := by decide +kernel
theorem dX6_ticks_363 : decode cX6_ticks 363 = .ok (.aload_n 0, 1) := by decide +kernel
theorem dX6_ticks_364 : decode cX6_ticks 364 = .ok (.getfield 117, 3) := by decide +kernel
theorem dX6_ticks_367 : decode cX6_ticks 367 = .ok (.iload_n 1, 1) := by decide +kernel
theorem dX6_ticks_368 : decode cX6_ticks 368 = .ok (.iconst 0, 1) := by decide +kernel
theorem dX6_ticks_369 : decode cX6_ticks 369 = .ok (.iastore, 1) := by decide +kernel
theorem dX6_ticks_370 : decode cX6_ticks 370 = .ok (.aload_n 0, 1) := by decide +kernel
theorem dX6_ticks_371 : decode cX6_ticks 371 = .ok (.getfield 114, 3) := by decide +kernel
theorem dX6_ticks_374 : decode cX6_ticks 374 = .ok (.iload_n 1, 1) := by decide +kernel
theorem dX6_ticks_375 : decode cX6_ticks 375 = .ok (.iaload, 1) := by decide +kernel
theorem dX6_ticks_376 : decode cX6_ticks 376 = .ok (.aload_n 0, 1) := by decide +kernel
theorem dX6_ticks_377 : decode cX6_ticks 377 = .ok (.getfield 89, 3) := by decide +kernel
theorem dX6_ticks_380 : decode cX6_ticks 380 = .ok (.iload_n 1, 1) := by decide +kernel
theorem dX6_ticks_381 : decode cX6_ticks 381 = .ok (.iaload, 1) := by decide +kernel
theorem dX6_ticks_382 : decode cX6_ticks 382 = .ok (.if_icmp .ne 34, 3) := by decide +kernel
theorem dX6_ticks_385 : decode cX6_ticks 385 = .ok (.aload_n 0, 1) := by decide +kernel
theorem dX6_ticks_386 : decode cX6_ticks 386 = .ok (.getfield 111, 3) := by decide +kernel
theorem dX6_ticks_389 : decode cX6_ticks 389 = .ok (.iload_n 1, 1) := by decide +kernel
theorem dX6_ticks_390 : decode cX6_ticks 390 = .ok (.iconst 0, 1) := by decide +kernel
theorem dX6_ticks_391 : decode cX6_ticks 391 = .ok (.bastore, 1) := by decide +kernel
theorem dX6_ticks_392 : decode cX6_ticks 392 = .ok (.aload_n 0, 1) := by decide +kernel
theorem dX6_ticks_393 : decode cX6_ticks 393 = .ok (.getfield 129, 3) := by decide +kernel
theorem dX6_ticks_396 : decode cX6_ticks 396 = .ok (.aload_n 0, 1) := by decide +kernel
theorem dX6_ticks_397 : decode cX6_ticks 397 = .ok (.getfield 120, 3) := by decide +kernel
theorem dX6_ticks_400 : decode cX6_ticks 400 = .ok (.iload_n 1, 1) := by decide +kernel
theorem dX6_ticks_401 : decode cX6_ticks 401 = .ok (.iaload, 1) := by decide +kernel
theorem dX6_ticks_402 : decode cX6_ticks 402 = .ok (.iconst 1, 1) := by decide +kernel
theorem dX6_ticks_403 : decode cX6_ticks 403 = .ok (.bastore, 1) := by decide +kernel
theorem dX6_ticks_404 : decode cX6_ticks 404 = .ok (.aload_n 0, 1) := by decide +kernel
theorem dX6_ticks_405 : decode cX6_ticks 405 = .ok (.getfield 132, 3) := by decide +kernel
theorem dX6_ticks_408 : decode cX6_ticks 408 = .ok (.aload_n 0, 1) := by decide +kernel
theorem dX6_ticks_409 : decode cX6_ticks 409 = .ok (.getfield 120, 3) := by decide +kernel
theorem dX6_ticks_412 : decode cX6_ticks 412 = .ok (.iload_n 1, 1) := by decide +kernel
theorem dX6_ticks_413 : decode cX6_ticks 413 = .ok (.iaload, 1) := by decide +kernel
theorem dX6_ticks_414 : decode cX6_ticks 414 = .ok (.iconst 1, 1) := by decide +kernel
theorem dX6_ticks_415 : decode cX6_ticks 415 = .ok (.bastore, 1) := by decide +kernel
theorem dX6_ticks_416 : decode cX6_ticks 416 = .ok (.return_, 1) := by decide +kernel
theorem dX6_running_0 : decode cX6_running 0 = .ok (.iconst 0, 1) := by decide +kernel
theorem dX6_running_1 : decode cX6_running 1 = .ok (.istore_n 1, 1) := by decide +kernel
theorem dX6_running_2 : decode cX6_running 2 = .ok (.iconst 0, 1) := by decide +kernel
theorem dX6_running_3 : decode cX6_running 3 = .ok (.istore_n 2, 1) := by decide +kernel
theorem dX6_running_4 : decode cX6_running 4 = .ok (.iload_n 2, 1) := by decide +kernel
theorem dX6_running_5 : decode cX6_running 5 = .ok (.iconst 3, 1) := by decide +kernel
theorem dX6_running_6 : decode cX6_running 6 = .ok (.if_icmp .ge 26, 3) := by decide +kernel
theorem dX6_running_9 : decode cX6_running 9 = .ok (.iload_n 1, 1) := by decide +kernel
theorem dX6_running_10 : decode cX6_running 10 = .ok (.aload_n 0, 1) := by decide +kernel
theorem dX6_running_11 : decode cX6_running 11 = .ok (.getfield 111, 3) := by decide +kernel
theorem dX6_running_14 : decode cX6_running 14 = .ok (.iload_n 2, 1) := by decide +kernel
theorem dX6_running_15 : decode cX6_running 15 = .ok (.baload, 1) := by decide +kernel
theorem dX6_running_16 : decode cX6_running 16 = .ok (.ifCond .eq 7, 3) := by decide +kernel
theorem dX6_running_19 : decode cX6_running 19 = .ok (.iconst 1, 1) := by decide +kernel
theorem dX6_running_20 : decode cX6_running 20 = .ok (.goto 4, 3) := by decide +kernel
theorem dX6_running_23 : decode cX6_running 23 = .ok (.iconst 0, 1) := by decide +kernel
theorem dX6_running_24 : decode cX6_running 24 = .ok (.iadd, 1) := by decide +kernel
theorem dX6_running_25 : decode cX6_running 25 = .ok (.istore_n 1, 1) := by decide +kernel
theorem dX6_running_26 : decode cX6_running 26 = .ok (.iinc 2 1, 3) := by decide +kernel
theorem dX6_running_29 : decode cX6_running 29 = .ok (.goto (-25), 3) := by decide +kernel
theorem dX6_running_32 : decode cX6_running 32 = .ok (.iload_n 1, 1) := by decide +kernel
theorem dX6_running_33 : decode cX6_running 33 = .ok (.ireturn, 1) := by decide +kernel
theorem dX6_tick_0 : decode cX6_tick 0 = .ok (.iload_n 1, 1) := by decide +kernel
theorem dX6_tick_1 : decode cX6_tick 1 = .ok (.iconst 1, 1) := by decide +kernel
theorem dX6_tick_2 : decode cX6_tick 2 = .ok (.sipush 200, 3) := by decide +kernel
theorem dX6_tick_5 : decode cX6_tick 5 = .ok (.invokestatic 1, 3) := by decide +kernel
theorem dX6_tick_8 : decode cX6_tick 8 = .ok (.ifCond .ne 6, 3) := by decide +kernel
theorem dX6_tick_11 : decode cX6_tick 11 = .ok (.bipush (-2), 2) := by decide +kernel
theorem dX6_tick_13 : decode cX6_tick 13 = .ok (.ireturn, 1) := by decide +kernel
theorem dX6_tick_14 : decode cX6_tick 14 = .ok (.iconst 0, 1) := by decide +kernel
theorem dX6_tick_15 : decode cX6_tick 15 = .ok (.istore_n 2, 1) := by decide +kernel
theorem dX6_tick_16 : decode cX6_tick 16 = .ok (.iload_n 2, 1) := by decide +kernel
theorem dX6_tick_17 : decode cX6_tick 17 = .ok (.iload_n 1, 1) := by decide +kernel
theorem dX6_tick_18 : decode cX6_tick 18 = .ok (.if_icmp .ge 36, 3) := by decide +kernel
theorem dX6_tick_21 : decode cX6_tick 21 = .ok (.iconst 0, 1) := by decide +kernel
theorem dX6_tick_22 : decode cX6_tick 22 = .ok (.istore_n 3, 1) := by decide +kernel
theorem dX6_tick_23 : decode cX6_tick 23 = .ok (.iload_n 3, 1) := by decide +kernel
theorem dX6_tick_24 : decode cX6_tick 24 = .ok (.iconst 3, 1) := by decide +kernel
theorem dX6_tick_25 : decode cX6_tick 25 = .ok (.if_icmp .ge 23, 3) := by decide +kernel
theorem dX6_tick_28 : decode cX6_tick 28 = .ok (.aload_n 0, 1) := by decide +kernel
theorem dX6_tick_29 : decode cX6_tick 29 = .ok (.getfield 111, 3) := by decide +kernel
theorem dX6_tick_32 : decode cX6_tick 32 = .ok (.iload_n 3, 1) := by decide +kernel
theorem dX6_tick_33 : decode cX6_tick 33 = .ok (.baload, 1) := by decide +kernel
theorem dX6_tick_34 : decode cX6_tick 34 = .ok (.ifCond .eq 8, 3) := by decide +kernel
theorem dX6_tick_37 : decode cX6_tick 37 = .ok (.aload_n 0, 1) := by decide +kernel
theorem dX6_tick_38 : decode cX6_tick 38 = .ok (.iload_n 3, 1) := by decide +kernel
theorem dX6_tick_39 : decode cX6_tick 39 = .ok (.invokevirtual 172, 3) := by decide +kernel
theorem dX6_tick_42 : decode cX6_tick 42 = .ok (.iinc 3 1, 3) := by decide +kernel
theorem dX6_tick_45 : decode cX6_tick 45 = .ok (.goto (-22), 3) := by decide +kernel
theorem dX6_tick_48 : decode cX6_tick 48 = .ok (.iinc 2 1, 3) := by decide +kernel
theorem dX6_tick_51 : decode cX6_tick 51 = .ok (.goto (-35), 3) := by decide +kernel
theorem dX6_tick_54 : decode cX6_tick 54 = .ok (.aload_n 0, 1) := by decide +kernel
theorem dX6_tick_55 : decode cX6_tick 55 = .ok (.invokevirtual 176, 3) := by decide +kernel
theorem dX6_tick_58 : decode cX6_tick 58 = .ok (.ireturn, 1) := by decide +kernel
theorem dX6_stop_0 : decode cX6_stop 0 = .ok (.iload_n 1, 1) := by decide +kernel
theorem dX6_stop_1 : decode cX6_stop 1 = .ok (.invokestatic 153, 3) := by decide +kernel
theorem dX6_stop_4 : decode cX6_stop 4 = .ok (.ifCond .ne 6, 3) := by decide +kernel
theorem dX6_stop_7 : decode cX6_stop 7 = .ok (.bipush (-2), 2) := by decide +kernel
theorem dX6_stop_9 : decode cX6_stop 9 = .ok (.ireturn, 1) := by decide +kernel
theorem dX6_stop_10 : decode cX6_stop 10 = .ok (.aload_n 0, 1) := by decide +kernel
theorem dX6_stop_11 : decode cX6_stop 11 = .ok (.getfield 111, 3) := by decide +kernel
theorem dX6_stop_14 : decode cX6_stop 14 = .ok (.iload_n 1, 1) := by decide +kernel
theorem dX6_stop_15 : decode cX6_stop 15 = .ok (.baload, 1) := by decide +kernel
theorem dX6_stop_16 : decode cX6_stop 16 = .ok (.ifCond .ne 6, 3) := by decide +kernel
theorem dX6_stop_19 : decode cX6_stop 19 = .ok (.bipush (-3), 2) := by decide +kernel
theorem dX6_stop_21 : decode cX6_stop 21 = .ok (.ireturn, 1) := by decide +kernel
theorem dX6_stop_22 : decode cX6_stop 22 = .ok (.aload_n 0, 1) := by decide +kernel
theorem dX6_stop_23 : decode cX6_stop 23 = .ok (.getfield 111, 3) := by decide +kernel
theorem dX6_stop_26 : decode cX6_stop 26 = .ok (.iload_n 1, 1) := by decide +kernel
theorem dX6_stop_27 : decode cX6_stop 27 = .ok (.iconst 0, 1) := by decide +kernel
theorem dX6_stop_28 : decode cX6_stop 28 = .ok (.bastore, 1) := by decide +kernel
theorem dX6_stop_29 : decode cX6_stop 29 = .ok (.aload_n 0, 1) := by decide +kernel
theorem dX6_stop_30 : decode cX6_stop 30 = .ok (.getfield 129, 3) := by decide +kernel
theorem dX6_stop_33 : decode cX6_stop 33 = .ok (.aload_n 0, 1) := by decide +kernel
theorem dX6_stop_34 : decode cX6_stop 34 = .ok (.getfield 120, 3) := by decide +kernel
theorem dX6_stop_37 : decode cX6_stop 37 = .ok (.iload_n 1, 1) := by decide +kernel
theorem dX6_stop_38 : decode cX6_stop 38 = .ok (.iaload, 1) := by decide +kernel
theorem dX6_stop_39 : decode cX6_stop 39 = .ok (.iconst 1, 1) := by decide +kernel
theorem dX6_stop_40 : decode cX6_stop 40 = .ok (.bastore, 1) := by decide +kernel
theorem dX6_stop_41 : decode cX6_stop 41 = .ok (.aload_n 0, 1) := by decide +kernel
theorem dX6_stop_42 : decode cX6_stop 42 = .ok (.getfield 114, 3) := by decide +kernel
theorem dX6_stop_45 : decode cX6_stop 45 = .ok (.iload_n 1, 1) := by decide +kernel
theorem dX6_stop_46 : decode cX6_stop 46 = .ok (.iaload, 1) := by decide +kernel
theorem dX6_stop_47 : decode cX6_stop 47 = .ok (.ireturn, 1) := by decide +kernel
theorem dX6_survey_0 : decode cX6_survey 0 = .ok (.iload_n 1, 1) := by decide +kernel
theorem dX6_survey_1 : decode cX6_survey 1 = .ok (.invokestatic 153, 3) := by decide +kernel
theorem dX6_survey_4 : decode cX6_survey 4 = .ok (.ifCond .eq 16, 3) := by decide +kernel
theorem dX6_survey_7 : decode cX6_survey 7 = .ok (.iload_n 2, 1) := by decide +kernel
theorem dX6_survey_8 : decode cX6_survey 8 = .ok (.sipush (-500), 3) := by decide +kernel
theorem dX6_survey_11 : decode cX6_survey 11 = .ok (.sipush 500, 3) := by decide +kernel
theorem dX6_survey_14 : decode cX6_survey 14 = .ok (.invokestatic 1, 3) := by decide +kernel
theorem dX6_survey_17 : decode cX6_survey 17 = .ok (.ifCond .ne 6, 3) := by decide +kernel
theorem dX6_survey_20 : decode cX6_survey 20 = .ok (.bipush (-2), 2) := by decide +kernel
theorem dX6_survey_22 : decode cX6_survey 22 = .ok (.ireturn, 1) := by decide +kernel
theorem dX6_survey_23 : decode cX6_survey 23 = .ok (.aload_n 0, 1) := by decide +kernel
theorem dX6_survey_24 : decode cX6_survey 24 = .ok (.getfield 111, 3) := by decide +kernel
theorem dX6_survey_27 : decode cX6_survey 27 = .ok (.iload_n 1, 1) := by decide +kernel
theorem dX6_survey_28 : decode cX6_survey 28 = .ok (.baload, 1) := by decide +kernel
theorem dX6_survey_29 : decode cX6_survey 29 = .ok (.ifCond .eq 6, 3) := by decide +kernel
theorem dX6_survey_32 : decode cX6_survey 32 = .ok (.bipush (-3), 2) := by decide +kernel
theorem dX6_survey_34 : decode cX6_survey 34 = .ok (.ireturn, 1) := by decide +kernel
theorem dX6_survey_35 : decode cX6_survey 35 = .ok (.iconst 0, 1) := by decide +kernel
theorem dX6_survey_36 : decode cX6_survey 36 = .ok (.istore_n 3, 1) := by decide +kernel
theorem dX6_survey_37 : decode cX6_survey 37 = .ok (.aload_n 0, 1) := by decide +kernel
theorem dX6_survey_38 : decode cX6_survey 38 = .ok (.getfield 123, 3) := by decide +kernel
theorem dX6_survey_41 : decode cX6_survey 41 = .ok (.iload_n 1, 1) := by decide +kernel
theorem dX6_survey_42 : decode cX6_survey 42 = .ok (.iaload, 1) := by decide +kernel
theorem dX6_survey_43 : decode cX6_survey 43 = .ok (.istore 4, 2) := by decide +kernel
theorem dX6_survey_45 : decode cX6_survey 45 = .ok (.iload 4, 2) := by decide +kernel
theorem dX6_survey_47 : decode cX6_survey 47 = .ok (.aload_n 0, 1) := by decide +kernel
theorem dX6_survey_48 : decode cX6_survey 48 = .ok (.getfield 165, 3) := by decide +kernel
theorem dX6_survey_51 : decode cX6_survey 51 = .ok (.if_icmp .ge 41, 3) := by decide +kernel
theorem dX6_survey_54 : decode cX6_survey 54 = .ok (.aload_n 0, 1) := by decide +kernel
theorem dX6_survey_55 : decode cX6_survey 55 = .ok (.getfield 86, 3) := by decide +kernel
theorem dX6_survey_58 : decode cX6_survey 58 = .ok (.iload_n 1, 1) := by decide +kernel
theorem dX6_survey_59 : decode cX6_survey 59 = .ok (.iaload, 1) := by decide +kernel
theorem dX6_survey_60 : decode cX6_survey 60 = .ok (.iload_n 2, 1) := by decide +kernel
theorem dX6_survey_61 : decode cX6_survey 61 = .ok (.if_icmp .eq 31, 3) := by decide +kernel
theorem dX6_survey_64 : decode cX6_survey 64 = .ok (.aload_n 0, 1) := by decide +kernel
theorem dX6_survey_65 : decode cX6_survey 65 = .ok (.getfield 126, 3) := by decide +kernel
theorem dX6_survey_68 : decode cX6_survey 68 = .ok (.iload 4, 2) := by decide +kernel
theorem dX6_survey_70 : decode cX6_survey 70 = .ok (.iaload, 1) := by decide +kernel
theorem dX6_survey_71 : decode cX6_survey 71 = .ok (.iload_n 1, 1) := by decide +kernel
theorem dX6_survey_72 : decode cX6_survey 72 = .ok (.if_icmp .ne 14, 3) := by decide +kernel
theorem dX6_survey_75 : decode cX6_survey 75 = .ok (.aload_n 0, 1) := by decide +kernel
theorem dX6_survey_76 : decode cX6_survey 76 = .ok (.getfield 138, 3) := by decide +kernel
theorem dX6_survey_79 : decode cX6_survey 79 = .ok (.iload 4, 2) := by decide +kernel
theorem dX6_survey_81 : decode cX6_survey 81 = .ok (.iconst 1, 1) := by decide +kernel
theorem dX6_survey_82 : decode cX6_survey 82 = .ok (.bastore, 1) := by decide +kernel
theorem dX6_survey_83 : decode cX6_survey 83 = .ok (.iinc 3 1, 3) := by decide +kernel
theorem dX6_survey_86 : decode cX6_survey 86 = .ok (.iinc 4 1, 3) := by decide +kernel
theorem dX6_survey_89 : decode cX6_survey 89 = .ok (.goto (-44), 3) := by decide +kernel
theorem dX6_survey_92 : decode cX6_survey 92 = .ok (.aload_n 0, 1) := by decide +kernel
theorem dX6_survey_93 : decode cX6_survey 93 = .ok (.getfield 86, 3) := by decide +kernel
theorem dX6_survey_96 : decode cX6_survey 96 = .ok (.iload_n 1, 1) := by decide +kernel
theorem dX6_survey_97 : decode cX6_survey 97 = .ok (.iload_n 2, 1) := by decide +kernel
theorem dX6_survey_98 : decode cX6_survey 98 = .ok (.iastore, 1) := by decide +kernel
theorem dX6_survey_99 : decode cX6_survey 99 = .ok (.aload_n 0, 1) := by decide +kernel
theorem dX6_survey_100 : decode cX6_survey 100 = .ok (.getfield 123, 3) := by decide +kernel
theorem dX6_survey_103 : decode cX6_survey 103 = .ok (.iload_n 1, 1) := by decide +kernel
theorem dX6_survey_104 : decode cX6_survey 104 = .ok (.aload_n 0, 1) := by decide +kernel
theorem dX6_survey_105 : decode cX6_survey 105 = .ok (.getfield 165, 3) := by decide +kernel
theorem dX6_survey_108 : decode cX6_survey 108 = .ok (.iastore, 1) := by decide +kernel
theorem dX6_survey_109 : decode cX6_survey 109 = .ok (.iload_n 3, 1) := by decide +kernel
theorem dX6_survey_110 : decode cX6_survey 110 = .ok (.ireturn, 1) := by decide +kernel
theorem dX6_about_0 : decode cX6_about 0 = .ok (.iload_n 1, 1) := by decide +kernel
theorem dX6_about_1 : decode cX6_about 1 = .ok (.invokestatic 153, 3) := by decide +kernel
theorem dX6_about_4 : decode cX6_about 4 = .ok (.ifCond .ne 6, 3) := by decide +kernel
theorem dX6_about_7 : decode cX6_about 7 = .ok (.bipush (-2), 2) := by decide +kernel
theorem dX6_about_9 : decode cX6_about 9 = .ok (.ireturn, 1) := by decide +kernel
theorem dX6_about_10 : decode cX6_about 10 = .ok (.iload_n 2, 1) := by decide +kernel
theorem dX6_about_11 : decode cX6_about 11 = .ok (.tableswitch 123 0 6 #[41, 48, 55, 70, 90, 110, 116], 41) := by decide +kernel
theorem dX6_about_52 : decode cX6_about 52 = .ok (.aload_n 0, 1) := by decide +kernel
theorem dX6_about_53 : decode cX6_about 53 = .ok (.getfield 83, 3) := by decide +kernel
theorem dX6_about_56 : decode cX6_about 56 = .ok (.iload_n 1, 1) := by decide +kernel
theorem dX6_about_57 : decode cX6_about 57 = .ok (.iaload, 1) := by decide +kernel
theorem dX6_about_58 : decode cX6_about 58 = .ok (.ireturn, 1) := by decide +kernel
theorem dX6_about_59 : decode cX6_about 59 = .ok (.aload_n 0, 1) := by decide +kernel
theorem dX6_about_60 : decode cX6_about 60 = .ok (.getfield 86, 3) := by decide +kernel
theorem dX6_about_63 : decode cX6_about 63 = .ok (.iload_n 1, 1) := by decide +kernel
theorem dX6_about_64 : decode cX6_about 64 = .ok (.iaload, 1) := by decide +kernel
theorem dX6_about_65 : decode cX6_about 65 = .ok (.ireturn, 1) := by decide +kernel
theorem dX6_about_66 : decode cX6_about 66 = .ok (.aload_n 0, 1) := by decide +kernel
theorem dX6_about_67 : decode cX6_about 67 = .ok (.getfield 111, 3) := by decide +kernel
theorem dX6_about_70 : decode cX6_about 70 = .ok (.iload_n 1, 1) := by decide +kernel
theorem dX6_about_71 : decode cX6_about 71 = .ok (.baload, 1) := by decide +kernel
theorem dX6_about_72 : decode cX6_about 72 = .ok (.ifCond .eq 7, 3) := by decide +kernel
theorem dX6_about_75 : decode cX6_about 75 = .ok (.iconst 1, 1) := by decide +kernel
theorem dX6_about_76 : decode cX6_about 76 = .ok (.goto 4, 3) := by decide +kernel
theorem dX6_about_79 : decode cX6_about 79 = .ok (.iconst 0, 1) := by decide +kernel
theorem dX6_about_80 : decode cX6_about 80 = .ok (.ireturn, 1) := by decide +kernel
theorem dX6_about_81 : decode cX6_about 81 = .ok (.aload_n 0, 1) := by decide +kernel
theorem dX6_about_82 : decode cX6_about 82 = .ok (.getfield 111, 3) := by decide +kernel
theorem dX6_about_85 : decode cX6_about 85 = .ok (.iload_n 1, 1) := by decide +kernel
theorem dX6_about_86 : decode cX6_about 86 = .ok (.baload, 1) := by decide +kernel
theorem dX6_about_87 : decode cX6_about 87 = .ok (.ifCond .eq 12, 3) := by decide +kernel
theorem dX6_about_90 : decode cX6_about 90 = .ok (.aload_n 0, 1) := by decide +kernel
theorem dX6_about_91 : decode cX6_about 91 = .ok (.getfield 114, 3) := by decide +kernel
theorem dX6_about_94 : decode cX6_about 94 = .ok (.iload_n 1, 1) := by decide +kernel
theorem dX6_about_95 : decode cX6_about 95 = .ok (.iaload, 1) := by decide +kernel
theorem dX6_about_96 : decode cX6_about 96 = .ok (.goto 4, 3) := by decide +kernel
theorem dX6_about_99 : decode cX6_about 99 = .ok (.iconst (-1), 1) := by decide +kernel
theorem dX6_about_100 : decode cX6_about 100 = .ok (.ireturn, 1) := by decide +kernel
theorem dX6_about_101 : decode cX6_about 101 = .ok (.aload_n 0, 1) := by decide +kernel
theorem dX6_about_102 : decode cX6_about 102 = .ok (.getfield 111, 3) := by decide +kernel
theorem dX6_about_105 : decode cX6_about 105 = .ok (.iload_n 1, 1) := by decide +kernel
theorem dX6_about_106 : decode cX6_about 106 = .ok (.baload, 1) := by decide +kernel
theorem dX6_about_107 : decode cX6_about 107 = .ok (.ifCond .eq 12, 3) := by decide +kernel
theorem dX6_about_110 : decode cX6_about 110 = .ok (.aload_n 0, 1) := by decide +kernel
theorem dX6_about_111 : decode cX6_about 111 = .ok (.getfield 117, 3) := by decide +kernel
theorem dX6_about_114 : decode cX6_about 114 = .ok (.iload_n 1, 1) := by decide +kernel
theorem dX6_about_115 : decode cX6_about 115 = .ok (.iaload, 1) := by decide +kernel
theorem dX6_about_116 : decode cX6_about 116 = .ok (.goto 4, 3) := by decide +kernel
theorem dX6_about_119 : decode cX6_about 119 = .ok (.iconst 0, 1) := by decide +kernel
theorem dX6_about_120 : decode cX6_about 120 = .ok (.ireturn, 1) := by decide +kernel
theorem dX6_about_121 : decode cX6_about 121 = .ok (.aload_n 0, 1) := by decide +kernel
theorem dX6_about_122 : decode cX6_about 122 = .ok (.iload_n 1, 1) := by decide +kernel
theorem dX6_about_123 : decode cX6_about 123 = .ok (.invokevirtual 159, 3) := by decide +kernel
theorem dX6_about_126 : decode cX6_about 126 = .ok (.ireturn, 1) := by decide +kernel
theorem dX6_about_127 : decode cX6_about 127 = .ok (.aload_n 0, 1) := by decide +kernel
theorem dX6_about_128 : decode cX6_about 128 = .ok (.getfield 89, 3) := by decide +kernel
theorem dX6_about_131 : decode cX6_about 131 = .ok (.iload_n 1, 1) := by decide +kernel
theorem dX6_about_132 : decode cX6_about 132 = .ok (.iaload, 1) := by decide +kernel
theorem dX6_about_133 : decode cX6_about 133 = .ok (.ireturn, 1) := by decide +kernel
theorem dX6_about_134 : decode cX6_about 134 = .ok (.bipush (-2), 2) := by decide +kernel
theorem dX6_about_136 : decode cX6_about 136 = .ok (.ireturn, 1) := by decide +kernel
theorem dX6_isWell_0 : decode cX6_isWell 0 = .ok (.aload_n 0, 1) := by decide +kernel
theorem dX6_isWell_1 : decode cX6_isWell 1 = .ok (.getfield 132, 3) := by decide +kernel
theorem dX6_isWell_4 : decode cX6_isWell 4 = .ok (.iload_n 1, 1) := by decide +kernel
theorem dX6_isWell_5 : decode cX6_isWell 5 = .ok (.baload, 1) := by decide +kernel
theorem dX6_isWell_6 : decode cX6_isWell 6 = .ok (.ifCond .eq 16, 3) := by decide +kernel
theorem dX6_isWell_9 : decode cX6_isWell 9 = .ok (.aload_n 0, 1) := by decide +kernel
theorem dX6_isWell_10 : decode cX6_isWell 10 = .ok (.getfield 135, 3) := by decide +kernel
theorem dX6_isWell_13 : decode cX6_isWell 13 = .ok (.iload_n 1, 1) := by decide +kernel
theorem dX6_isWell_14 : decode cX6_isWell 14 = .ok (.baload, 1) := by decide +kernel
theorem dX6_isWell_15 : decode cX6_isWell 15 = .ok (.ifCond .ne 7, 3) := by decide +kernel
theorem dX6_isWell_18 : decode cX6_isWell 18 = .ok (.iconst 1, 1) := by decide +kernel
theorem dX6_isWell_19 : decode cX6_isWell 19 = .ok (.goto 4, 3) := by decide +kernel
theorem dX6_isWell_22 : decode cX6_isWell 22 = .ok (.iconst 0, 1) := by decide +kernel
theorem dX6_isWell_23 : decode cX6_isWell 23 = .ok (.ireturn, 1) := by decide +kernel
theorem dX6_runAt_0 : decode cX6_runAt 0 = .ok (.iload_n 1, 1) := by decide +kernel
theorem dX6_runAt_1 : decode cX6_runAt 1 = .ok (.ifCond .lt 12, 3) := by decide +kernel
theorem dX6_runAt_4 : decode cX6_runAt 4 = .ok (.iload_n 2, 1) := by decide +kernel
theorem dX6_runAt_5 : decode cX6_runAt 5 = .ok (.iconst 0, 1) := by decide +kernel
theorem dX6_runAt_6 : decode cX6_runAt 6 = .ok (.iconst 4, 1) := by decide +kernel
theorem dX6_runAt_7 : decode cX6_runAt 7 = .ok (.invokestatic 1, 3) := by decide +kernel
theorem dX6_runAt_10 : decode cX6_runAt 10 = .ok (.ifCond .ne 6, 3) := by decide +kernel
theorem dX6_runAt_13 : decode cX6_runAt 13 = .ok (.bipush (-2), 2) := by decide +kernel
theorem dX6_runAt_15 : decode cX6_runAt 15 = .ok (.ireturn, 1) := by decide +kernel
theorem dX6_runAt_16 : decode cX6_runAt 16 = .ok (.iload_n 1, 1) := by decide +kernel
theorem dX6_runAt_17 : decode cX6_runAt 17 = .ok (.aload_n 0, 1) := by decide +kernel
theorem dX6_runAt_18 : decode cX6_runAt 18 = .ok (.getfield 165, 3) := by decide +kernel
theorem dX6_runAt_21 : decode cX6_runAt 21 = .ok (.if_icmp .lt 5, 3) := by decide +kernel
theorem dX6_runAt_24 : decode cX6_runAt 24 = .ok (.iconst (-1), 1) := by decide +kernel
theorem dX6_runAt_25 : decode cX6_runAt 25 = .ok (.ireturn, 1) := by decide +kernel
theorem dX6_runAt_26 : decode cX6_runAt 26 = .ok (.iload_n 2, 1) := by decide +kernel
theorem dX6_runAt_27 : decode cX6_runAt 27 = .ok (.ifCond .ne 10, 3) := by decide +kernel
theorem dX6_runAt_30 : decode cX6_runAt 30 = .ok (.aload_n 0, 1) := by decide +kernel
theorem dX6_runAt_31 : decode cX6_runAt 31 = .ok (.getfield 126, 3) := by decide +kernel
theorem dX6_runAt_34 : decode cX6_runAt 34 = .ok (.iload_n 1, 1) := by decide +kernel
theorem dX6_runAt_35 : decode cX6_runAt 35 = .ok (.iaload, 1) := by decide +kernel
theorem dX6_runAt_36 : decode cX6_runAt 36 = .ok (.ireturn, 1) := by decide +kernel
theorem dX6_runAt_37 : decode cX6_runAt 37 = .ok (.iload_n 2, 1) := by decide +kernel
theorem dX6_runAt_38 : decode cX6_runAt 38 = .ok (.iconst 4, 1) := by decide +kernel
theorem dX6_runAt_39 : decode cX6_runAt 39 = .ok (.if_icmp .ne 10, 3) := by decide +kernel
theorem dX6_runAt_42 : decode cX6_runAt 42 = .ok (.aload_n 0, 1) := by decide +kernel
theorem dX6_runAt_43 : decode cX6_runAt 43 = .ok (.getfield 141, 3) := by decide +kernel
theorem dX6_runAt_46 : decode cX6_runAt 46 = .ok (.iload_n 1, 1) := by decide +kernel
theorem dX6_runAt_47 : decode cX6_runAt 47 = .ok (.iaload, 1) := by decide +kernel
theorem dX6_runAt_48 : decode cX6_runAt 48 = .ok (.ireturn, 1) := by decide +kernel
theorem dX6_runAt_49 : decode cX6_runAt 49 = .ok (.iload_n 2, 1) := by decide +kernel
theorem dX6_runAt_50 : decode cX6_runAt 50 = .ok (.iconst 1, 1) := by decide +kernel
theorem dX6_runAt_51 : decode cX6_runAt 51 = .ok (.if_icmp .ne 15, 3) := by decide +kernel
theorem dX6_runAt_54 : decode cX6_runAt 54 = .ok (.aload_n 0, 1) := by decide +kernel
theorem dX6_runAt_55 : decode cX6_runAt 55 = .ok (.getfield 129, 3) := by decide +kernel
theorem dX6_runAt_58 : decode cX6_runAt 58 = .ok (.iload_n 1, 1) := by decide +kernel
theorem dX6_runAt_59 : decode cX6_runAt 59 = .ok (.baload, 1) := by decide +kernel
theorem dX6_runAt_60 : decode cX6_runAt 60 = .ok (.ifCond .eq 35, 3) := by decide +kernel
theorem dX6_runAt_63 : decode cX6_runAt 63 = .ok (.goto 28, 3) := by decide +kernel
theorem dX6_runAt_66 : decode cX6_runAt 66 = .ok (.iload_n 2, 1) := by decide +kernel
theorem dX6_runAt_67 : decode cX6_runAt 67 = .ok (.iconst 2, 1) := by decide +kernel
theorem dX6_runAt_68 : decode cX6_runAt 68 = .ok (.if_icmp .ne 14, 3) := by decide +kernel
theorem dX6_runAt_71 : decode cX6_runAt 71 = .ok (.aload_n 0, 1) := by decide +kernel
theorem dX6_runAt_72 : decode cX6_runAt 72 = .ok (.iload_n 1, 1) := by decide +kernel
theorem dX6_runAt_73 : decode cX6_runAt 73 = .ok (.invokevirtual 180, 3) := by decide +kernel
theorem dX6_runAt_76 : decode cX6_runAt 76 = .ok (.ifCond .eq 19, 3) := by decide +kernel
theorem dX6_runAt_79 : decode cX6_runAt 79 = .ok (.goto 12, 3) := by decide +kernel
theorem dX6_runAt_82 : decode cX6_runAt 82 = .ok (.aload_n 0, 1) := by decide +kernel
theorem dX6_runAt_83 : decode cX6_runAt 83 = .ok (.getfield 138, 3) := by decide +kernel
theorem dX6_runAt_86 : decode cX6_runAt 86 = .ok (.iload_n 1, 1) := by decide +kernel
theorem dX6_runAt_87 : decode cX6_runAt 87 = .ok (.baload, 1) := by decide +kernel
theorem dX6_runAt_88 : decode cX6_runAt 88 = .ok (.ifCond .eq 7, 3) := by decide +kernel
theorem dX6_runAt_91 : decode cX6_runAt 91 = .ok (.iconst 1, 1) := by decide +kernel
theorem dX6_runAt_92 : decode cX6_runAt 92 = .ok (.goto 4, 3) := by decide +kernel
theorem dX6_runAt_95 : decode cX6_runAt 95 = .ok (.iconst 0, 1) := by decide +kernel
theorem dX6_runAt_96 : decode cX6_runAt 96 = .ok (.ireturn, 1) := by decide +kernel
theorem dX6_paper_0 : decode cX6_paper 0 = .ok (.aload_n 0, 1) := by decide +kernel
theorem dX6_paper_1 : decode cX6_paper 1 = .ok (.iload_n 1, 1) := by decide +kernel
theorem dX6_paper_2 : decode cX6_paper 2 = .ok (.invokevirtual 60, 3) := by decide +kernel
theorem dX6_paper_5 : decode cX6_paper 5 = .ok (.ifCond .eq 8, 3) := by decide +kernel
theorem dX6_paper_8 : decode cX6_paper 8 = .ok (.iload_n 2, 1) := by decide +kernel
theorem dX6_paper_9 : decode cX6_paper 9 = .ok (.iload_n 3, 1) := by decide +kernel
theorem dX6_paper_10 : decode cX6_paper 10 = .ok (.if_icmp .le 6, 3) := by decide +kernel
theorem dX6_paper_13 : decode cX6_paper 13 = .ok (.bipush (-2), 2) := by decide +kernel
theorem dX6_paper_15 : decode cX6_paper 15 = .ok (.ireturn, 1) := by decide +kernel
theorem dX6_paper_16 : decode cX6_paper 16 = .ok (.aload_n 0, 1) := by decide +kernel
theorem dX6_paper_17 : decode cX6_paper 17 = .ok (.getfield 37, 3) := by decide +kernel
theorem dX6_paper_20 : decode cX6_paper 20 = .ok (.iload_n 1, 1) := by decide +kernel
theorem dX6_paper_21 : decode cX6_paper 21 = .ok (.iaload, 1) := by decide +kernel
theorem dX6_paper_22 : decode cX6_paper 22 = .ok (.istore 4, 2) := by decide +kernel
theorem dX6_paper_24 : decode cX6_paper 24 = .ok (.iload 4, 2) := by decide +kernel
theorem dX6_paper_26 : decode cX6_paper 26 = .ok (.iconst (-1), 1) := by decide +kernel
theorem dX6_paper_27 : decode cX6_paper 27 = .ok (.if_icmp .ne 6, 3) := by decide +kernel
theorem dX6_paper_30 : decode cX6_paper 30 = .ok (.bipush (-10), 2) := by decide +kernel
theorem dX6_paper_32 : decode cX6_paper 32 = .ok (.ireturn, 1) := by decide +kernel
theorem dX6_paper_33 : decode cX6_paper 33 = .ok (.aload_n 0, 1) := by decide +kernel
theorem dX6_paper_34 : decode cX6_paper 34 = .ok (.getfield 138, 3) := by decide +kernel
theorem dX6_paper_37 : decode cX6_paper 37 = .ok (.iload 4, 2) := by decide +kernel
theorem dX6_paper_39 : decode cX6_paper 39 = .ok (.baload, 1) := by decide +kernel
theorem dX6_paper_40 : decode cX6_paper 40 = .ok (.ifCond .eq 6, 3) := by decide +kernel
theorem dX6_paper_43 : decode cX6_paper 43 = .ok (.bipush (-11), 2) := by decide +kernel
theorem dX6_paper_45 : decode cX6_paper 45 = .ok (.ireturn, 1) := by decide +kernel
theorem dX6_paper_46 : decode cX6_paper 46 = .ok (.aload_n 0, 1) := by decide +kernel
theorem dX6_paper_47 : decode cX6_paper 47 = .ok (.iload 4, 2) := by decide +kernel
theorem dX6_paper_49 : decode cX6_paper 49 = .ok (.invokevirtual 180, 3) := by decide +kernel
theorem dX6_paper_52 : decode cX6_paper 52 = .ok (.ifCond .ne 6, 3) := by decide +kernel
theorem dX6_paper_55 : decode cX6_paper 55 = .ok (.bipush (-12), 2) := by decide +kernel
theorem dX6_paper_57 : decode cX6_paper 57 = .ok (.ireturn, 1) := by decide +kernel
theorem dX6_paper_58 : decode cX6_paper 58 = .ok (.aload_n 0, 1) := by decide +kernel
theorem dX6_paper_59 : decode cX6_paper 59 = .ok (.bipush 6, 2) := by decide +kernel
theorem dX6_paper_61 : decode cX6_paper 61 = .ok (.iload_n 1, 1) := by decide +kernel
theorem dX6_paper_62 : decode cX6_paper 62 = .ok (.imul, 1) := by decide +kernel
theorem dX6_paper_63 : decode cX6_paper 63 = .ok (.invokevirtual 72, 3) := by decide +kernel
theorem dX6_paper_66 : decode cX6_paper 66 = .ok (.iload_n 2, 1) := by decide +kernel
theorem dX6_paper_67 : decode cX6_paper 67 = .ok (.iload_n 3, 1) := by decide +kernel
theorem dX6_paper_68 : decode cX6_paper 68 = .ok (.invokestatic 1, 3) := by decide +kernel
theorem dX6_paper_71 : decode cX6_paper 71 = .ok (.ifCond .ne 6, 3) := by decide +kernel
theorem dX6_paper_74 : decode cX6_paper 74 = .ok (.bipush (-13), 2) := by decide +kernel
theorem dX6_paper_76 : decode cX6_paper 76 = .ok (.ireturn, 1) := by decide +kernel
theorem dX6_paper_77 : decode cX6_paper 77 = .ok (.aload_n 0, 1) := by decide +kernel
theorem dX6_paper_78 : decode cX6_paper 78 = .ok (.getfield 40, 3) := by decide +kernel
theorem dX6_paper_81 : decode cX6_paper 81 = .ok (.bipush 6, 2) := by decide +kernel
theorem dX6_paper_83 : decode cX6_paper 83 = .ok (.iload_n 1, 1) := by decide +kernel
theorem dX6_paper_84 : decode cX6_paper 84 = .ok (.imul, 1) := by decide +kernel
theorem dX6_paper_85 : decode cX6_paper 85 = .ok (.iaload, 1) := by decide +kernel
theorem dX6_paper_86 : decode cX6_paper 86 = .ok (.sipush 500, 3) := by decide +kernel
theorem dX6_paper_89 : decode cX6_paper 89 = .ok (.if_icmp .le 8, 3) := by decide +kernel
theorem dX6_paper_92 : decode cX6_paper 92 = .ok (.bipush (-14), 2) := by decide +kernel
theorem dX6_paper_94 : decode cX6_paper 94 = .ok (.goto 4, 3) := by decide +kernel
theorem dX6_paper_97 : decode cX6_paper 97 = .ok (.iconst 1, 1) := by decide +kernel
theorem dX6_paper_98 : decode cX6_paper 98 = .ok (.ireturn, 1) := by decide +kernel
theorem dX6_job_0 : decode cX6_job 0 = .ok (.iload_n 1, 1) := by decide +kernel
theorem dX6_job_1 : decode cX6_job 1 = .ok (.iconst 1, 1) := by decide +kernel
theorem dX6_job_2 : decode cX6_job 2 = .ok (.sipush 1000, 3) := by decide +kernel
theorem dX6_job_5 : decode cX6_job 5 = .ok (.invokestatic 1, 3) := by decide +kernel
theorem dX6_job_8 : decode cX6_job 8 = .ok (.ifCond .eq 14, 3) := by decide +kernel
theorem dX6_job_11 : decode cX6_job 11 = .ok (.iload_n 2, 1) := by decide +kernel
theorem dX6_job_12 : decode cX6_job 12 = .ok (.iconst 0, 1) := by decide +kernel
theorem dX6_job_13 : decode cX6_job 13 = .ok (.sipush 10000, 3) := by decide +kernel
theorem dX6_job_16 : decode cX6_job 16 = .ok (.invokestatic 1, 3) := by decide +kernel
theorem dX6_job_19 : decode cX6_job 19 = .ok (.ifCond .ne 6, 3) := by decide +kernel
theorem dX6_job_22 : decode cX6_job 22 = .ok (.bipush (-2), 2) := by decide +kernel
theorem dX6_job_24 : decode cX6_job 24 = .ok (.ireturn, 1) := by decide +kernel
theorem dX6_job_25 : decode cX6_job 25 = .ok (.aload_n 0, 1) := by decide +kernel
theorem dX6_job_26 : decode cX6_job 26 = .ok (.getfield 183, 3) := by decide +kernel
theorem dX6_job_29 : decode cX6_job 29 = .ok (.bipush 7, 2) := by decide +kernel
theorem dX6_job_31 : decode cX6_job 31 = .ok (.if_icmp .ne 6, 3) := by decide +kernel
theorem dX6_job_34 : decode cX6_job 34 = .ok (.bipush (-4), 2) := by decide +kernel
theorem dX6_job_36 : decode cX6_job 36 = .ok (.ireturn, 1) := by decide +kernel
theorem dX6_job_37 : decode cX6_job 37 = .ok (.aload_n 0, 1) := by decide +kernel
theorem dX6_job_38 : decode cX6_job 38 = .ok (.getfield 144, 3) := by decide +kernel
theorem dX6_job_41 : decode cX6_job 41 = .ok (.aload_n 0, 1) := by decide +kernel
theorem dX6_job_42 : decode cX6_job 42 = .ok (.getfield 183, 3) := by decide +kernel
theorem dX6_job_45 : decode cX6_job 45 = .ok (.iload_n 1, 1) := by decide +kernel
theorem dX6_job_46 : decode cX6_job 46 = .ok (.iastore, 1) := by decide +kernel
theorem dX6_job_47 : decode cX6_job 47 = .ok (.aload_n 0, 1) := by decide +kernel
theorem dX6_job_48 : decode cX6_job 48 = .ok (.getfield 147, 3) := by decide +kernel
theorem dX6_job_51 : decode cX6_job 51 = .ok (.aload_n 0, 1) := by decide +kernel
theorem dX6_job_52 : decode cX6_job 52 = .ok (.getfield 183, 3) := by decide +kernel
theorem dX6_job_55 : decode cX6_job 55 = .ok (.iload_n 2, 1) := by decide +kernel
theorem dX6_job_56 : decode cX6_job 56 = .ok (.iastore, 1) := by decide +kernel
theorem dX6_job_57 : decode cX6_job 57 = .ok (.aload_n 0, 1) := by decide +kernel
theorem dX6_job_58 : decode cX6_job 58 = .ok (.dup, 1) := by decide +kernel
theorem dX6_job_59 : decode cX6_job 59 = .ok (.getfield 183, 3) := by decide +kernel
theorem dX6_job_62 : decode cX6_job 62 = .ok (.iconst 1, 1) := by decide +kernel
theorem dX6_job_63 : decode cX6_job 63 = .ok (.iadd, 1) := by decide +kernel
theorem dX6_job_64 : decode cX6_job 64 = .ok (.putfield 183, 3) := by decide +kernel
theorem dX6_job_67 : decode cX6_job 67 = .ok (.aload_n 0, 1) := by decide +kernel
theorem dX6_job_68 : decode cX6_job 68 = .ok (.getfield 183, 3) := by decide +kernel
theorem dX6_job_71 : decode cX6_job 71 = .ok (.iconst 1, 1) := by decide +kernel
theorem dX6_job_72 : decode cX6_job 72 = .ok (.isub, 1) := by decide +kernel
theorem dX6_job_73 : decode cX6_job 73 = .ok (.ireturn, 1) := by decide +kernel
theorem dX6_clearJobs_0 : decode cX6_clearJobs 0 = .ok (.aload_n 0, 1) := by decide +kernel
theorem dX6_clearJobs_1 : decode cX6_clearJobs 1 = .ok (.getfield 183, 3) := by decide +kernel
theorem dX6_clearJobs_4 : decode cX6_clearJobs 4 = .ok (.istore_n 1, 1) := by decide +kernel
theorem dX6_clearJobs_5 : decode cX6_clearJobs 5 = .ok (.aload_n 0, 1) := by decide +kernel
theorem dX6_clearJobs_6 : decode cX6_clearJobs 6 = .ok (.iconst 0, 1) := by decide +kernel
theorem dX6_clearJobs_7 : decode cX6_clearJobs 7 = .ok (.putfield 183, 3) := by decide +kernel
theorem dX6_clearJobs_10 : decode cX6_clearJobs 10 = .ok (.iload_n 1, 1) := by decide +kernel
theorem dX6_clearJobs_11 : decode cX6_clearJobs 11 = .ok (.ireturn, 1) := by decide +kernel
theorem dX6_lateBy_0 : decode cX6_lateBy 0 = .ok (.aload_n 0, 1) := by decide +kernel
theorem dX6_lateBy_1 : decode cX6_lateBy 1 = .ok (.getfield 144, 3) := by decide +kernel
theorem dX6_lateBy_4 : decode cX6_lateBy 4 = .ok (.iload_n 2, 1) := by decide +kernel
theorem dX6_lateBy_5 : decode cX6_lateBy 5 = .ok (.iaload, 1) := by decide +kernel
theorem dX6_lateBy_6 : decode cX6_lateBy 6 = .ok (.istore_n 3, 1) := by decide +kernel
theorem dX6_lateBy_7 : decode cX6_lateBy 7 = .ok (.iconst 0, 1) := by decide +kernel
theorem dX6_lateBy_8 : decode cX6_lateBy 8 = .ok (.istore 4, 2) := by decide +kernel
theorem dX6_lateBy_10 : decode cX6_lateBy 10 = .ok (.iload 4, 2) := by decide +kernel
theorem dX6_lateBy_12 : decode cX6_lateBy 12 = .ok (.aload_n 0, 1) := by decide +kernel
theorem dX6_lateBy_13 : decode cX6_lateBy 13 = .ok (.getfield 183, 3) := by decide +kernel
theorem dX6_lateBy_16 : decode cX6_lateBy 16 = .ok (.if_icmp .ge 33, 3) := by decide +kernel
theorem dX6_lateBy_19 : decode cX6_lateBy 19 = .ok (.iload_n 3, 1) := by decide +kernel
theorem dX6_lateBy_20 : decode cX6_lateBy 20 = .ok (.iload_n 1, 1) := by decide +kernel
theorem dX6_lateBy_21 : decode cX6_lateBy 21 = .ok (.iload 4, 2) := by decide +kernel
theorem dX6_lateBy_23 : decode cX6_lateBy 23 = .ok (.ishr, 1) := by decide +kernel
theorem dX6_lateBy_24 : decode cX6_lateBy 24 = .ok (.iconst 1, 1) := by decide +kernel
theorem dX6_lateBy_25 : decode cX6_lateBy 25 = .ok (.iand, 1) := by decide +kernel
theorem dX6_lateBy_26 : decode cX6_lateBy 26 = .ok (.iconst 1, 1) := by decide +kernel
theorem dX6_lateBy_27 : decode cX6_lateBy 27 = .ok (.if_icmp .ne 13, 3) := by decide +kernel
theorem dX6_lateBy_30 : decode cX6_lateBy 30 = .ok (.aload_n 0, 1) := by decide +kernel
theorem dX6_lateBy_31 : decode cX6_lateBy 31 = .ok (.getfield 144, 3) := by decide +kernel
theorem dX6_lateBy_34 : decode cX6_lateBy 34 = .ok (.iload 4, 2) := by decide +kernel
theorem dX6_lateBy_36 : decode cX6_lateBy 36 = .ok (.iaload, 1) := by decide +kernel
theorem dX6_lateBy_37 : decode cX6_lateBy 37 = .ok (.goto 4, 3) := by decide +kernel
theorem dX6_lateBy_40 : decode cX6_lateBy 40 = .ok (.iconst 0, 1) := by decide +kernel
theorem dX6_lateBy_41 : decode cX6_lateBy 41 = .ok (.iadd, 1) := by decide +kernel
theorem dX6_lateBy_42 : decode cX6_lateBy 42 = .ok (.istore_n 3, 1) := by decide +kernel
theorem dX6_lateBy_43 : decode cX6_lateBy 43 = .ok (.iinc 4 1, 3) := by decide +kernel
theorem dX6_lateBy_46 : decode cX6_lateBy 46 = .ok (.goto (-36), 3) := by decide +kernel
