theorem dX4_becomeHot_73 : decode cX4_becomeHot 73 = .ok (.iload 4, 2) := by decide +kernel
theorem dX4_becomeHot_75 : decode cX4_becomeHot 75 = .ok (.iadd, 1) := by decide +kernel
theorem dX4_becomeHot_76 : decode cX4_becomeHot 76 = .ok (.iadd, 1) := by decide +kernel
theorem dX4_becomeHot_77 : decode cX4_becomeHot 77 = .ok (.putfield 22, 3) := by decide +kernel
theorem dX4_becomeHot_80 : decode cX4_becomeHot 80 = .ok (.return_, 1) := by decide +kernel
theorem dX4_becomeLamellar_0 : decode cX4_becomeLamellar 0 = .ok (.aload_n 0, 1) := by decide +kernel
theorem dX4_becomeLamellar_1 : decode cX4_becomeLamellar 1 = .ok (.dup, 1) := by decide +kernel
theorem dX4_becomeLamellar_2 : decode cX4_becomeLamellar 2 = .ok (.getfield 22, 3) := by decide +kernel
theorem dX4_becomeLamellar_5 : decode cX4_becomeLamellar 5 = .ok (.iload_n 1, 1) := by decide +kernel
theorem dX4_becomeLamellar_6 : decode cX4_becomeLamellar 6 = .ok (.isub, 1) := by decide +kernel
theorem dX4_becomeLamellar_7 : decode cX4_becomeLamellar 7 = .ok (.putfield 22, 3) := by decide +kernel
theorem dX4_becomeLamellar_10 : decode cX4_becomeLamellar 10 = .ok (.aload_n 0, 1) := by decide +kernel
theorem dX4_becomeLamellar_11 : decode cX4_becomeLamellar 11 = .ok (.dup, 1) := by decide +kernel
theorem dX4_becomeLamellar_12 : decode cX4_becomeLamellar 12 = .ok (.getfield 15, 3) := by decide +kernel
theorem dX4_becomeLamellar_15 : decode cX4_becomeLamellar 15 = .ok (.iload_n 1, 1) := by decide +kernel
theorem dX4_becomeLamellar_16 : decode cX4_becomeLamellar 16 = .ok (.iadd, 1) := by decide +kernel
theorem dX4_becomeLamellar_17 : decode cX4_becomeLamellar 17 = .ok (.putfield 15, 3) := by decide +kernel
theorem dX4_becomeLamellar_20 : decode cX4_becomeLamellar 20 = .ok (.return_, 1) := by decide +kernel
theorem dX4_becomeTough_0 : decode cX4_becomeTough 0 = .ok (.aload_n 0, 1) := by decide +kernel
theorem dX4_becomeTough_1 : decode cX4_becomeTough 1 = .ok (.dup, 1) := by decide +kernel
theorem dX4_becomeTough_2 : decode cX4_becomeTough 2 = .ok (.getfield 22, 3) := by decide +kernel
theorem dX4_becomeTough_5 : decode cX4_becomeTough 5 = .ok (.iload_n 1, 1) := by decide +kernel
theorem dX4_becomeTough_6 : decode cX4_becomeTough 6 = .ok (.isub, 1) := by decide +kernel
theorem dX4_becomeTough_7 : decode cX4_becomeTough 7 = .ok (.putfield 22, 3) := by decide +kernel
theorem dX4_becomeTough_10 : decode cX4_becomeTough 10 = .ok (.aload_n 0, 1) := by decide +kernel
theorem dX4_becomeTough_11 : decode cX4_becomeTough 11 = .ok (.dup, 1) := by decide +kernel
theorem dX4_becomeTough_12 : decode cX4_becomeTough 12 = .ok (.getfield 46, 3) := by decide +kernel
theorem dX4_becomeTough_15 : decode cX4_becomeTough 15 = .ok (.iload_n 1, 1) := by decide +kernel
theorem dX4_becomeTough_16 : decode cX4_becomeTough 16 = .ok (.iadd, 1) := by decide +kernel
theorem dX4_becomeTough_17 : decode cX4_becomeTough 17 = .ok (.putfield 46, 3) := by decide +kernel
theorem dX4_becomeTough_20 : decode cX4_becomeTough 20 = .ok (.return_, 1) := by decide +kernel
theorem dX4_becomeHard_0 : decode cX4_becomeHard 0 = .ok (.aload_n 0, 1) := by decide +kernel
theorem dX4_becomeHard_1 : decode cX4_becomeHard 1 = .ok (.getfield 37, 3) := by decide +kernel
theorem dX4_becomeHard_4 : decode cX4_becomeHard 4 = .ok (.iload_n 1, 1) := by decide +kernel
theorem dX4_becomeHard_5 : decode cX4_becomeHard 5 = .ok (.if_icmp .ge 37, 3) := by decide +kernel
theorem dX4_becomeHard_8 : decode cX4_becomeHard 8 = .ok (.iload_n 1, 1) := by decide +kernel
theorem dX4_becomeHard_9 : decode cX4_becomeHard 9 = .ok (.aload_n 0, 1) := by decide +kernel
theorem dX4_becomeHard_10 : decode cX4_becomeHard 10 = .ok (.getfield 37, 3) := by decide +kernel
theorem dX4_becomeHard_13 : decode cX4_becomeHard 13 = .ok (.isub, 1) := by decide +kernel
theorem dX4_becomeHard_14 : decode cX4_becomeHard 14 = .ok (.aload_n 0, 1) := by decide +kernel
theorem dX4_becomeHard_15 : decode cX4_becomeHard 15 = .ok (.getfield 22, 3) := by decide +kernel
theorem dX4_becomeHard_18 : decode cX4_becomeHard 18 = .ok (.invokestatic 25, 3) := by decide +kernel
theorem dX4_becomeHard_21 : decode cX4_becomeHard 21 = .ok (.istore_n 2, 1) := by decide +kernel
theorem dX4_becomeHard_22 : decode cX4_becomeHard 22 = .ok (.aload_n 0, 1) := by decide +kernel
theorem dX4_becomeHard_23 : decode cX4_becomeHard 23 = .ok (.dup, 1) := by decide +kernel
theorem dX4_becomeHard_24 : decode cX4_becomeHard 24 = .ok (.getfield 22, 3) := by decide +kernel
theorem dX4_becomeHard_27 : decode cX4_becomeHard 27 = .ok (.iload_n 2, 1) := by decide +kernel
theorem dX4_becomeHard_28 : decode cX4_becomeHard 28 = .ok (.isub, 1) := by decide +kernel
theorem dX4_becomeHard_29 : decode cX4_becomeHard 29 = .ok (.putfield 22, 3) := by decide +kernel
theorem dX4_becomeHard_32 : decode cX4_becomeHard 32 = .ok (.aload_n 0, 1) := by decide +kernel
theorem dX4_becomeHard_33 : decode cX4_becomeHard 33 = .ok (.dup, 1) := by decide +kernel
theorem dX4_becomeHard_34 : decode cX4_becomeHard 34 = .ok (.getfield 37, 3) := by decide +kernel
theorem dX4_becomeHard_37 : decode cX4_becomeHard 37 = .ok (.iload_n 2, 1) := by decide +kernel
theorem dX4_becomeHard_38 : decode cX4_becomeHard 38 = .ok (.iadd, 1) := by decide +kernel
theorem dX4_becomeHard_39 : decode cX4_becomeHard 39 = .ok (.putfield 37, 3) := by decide +kernel
theorem dX4_becomeHard_42 : decode cX4_becomeHard 42 = .ok (.return_, 1) := by decide +kernel
theorem dX4_draw_0 : decode cX4_draw 0 = .ok (.aload_n 0, 1) := by decide +kernel
theorem dX4_draw_1 : decode cX4_draw 1 = .ok (.getfield 37, 3) := by decide +kernel
theorem dX4_draw_4 : decode cX4_draw 4 = .ok (.ifCond .le 39, 3) := by decide +kernel
theorem dX4_draw_7 : decode cX4_draw 7 = .ok (.aload_n 0, 1) := by decide +kernel
theorem dX4_draw_8 : decode cX4_draw 8 = .ok (.getfield 9, 3) := by decide +kernel
theorem dX4_draw_11 : decode cX4_draw 11 = .ok (.sipush 1500, 3) := by decide +kernel
theorem dX4_draw_14 : decode cX4_draw 14 = .ok (.sipush 6500, 3) := by decide +kernel
theorem dX4_draw_17 : decode cX4_draw 17 = .ok (.invokestatic 49, 3) := by decide +kernel
theorem dX4_draw_20 : decode cX4_draw 20 = .ok (.ifCond .eq 23, 3) := by decide +kernel
theorem dX4_draw_23 : decode cX4_draw 23 = .ok (.aload_n 0, 1) := by decide +kernel
theorem dX4_draw_24 : decode cX4_draw 24 = .ok (.dup, 1) := by decide +kernel
theorem dX4_draw_25 : decode cX4_draw 25 = .ok (.getfield 53, 3) := by decide +kernel
theorem dX4_draw_28 : decode cX4_draw 28 = .ok (.aload_n 0, 1) := by decide +kernel
theorem dX4_draw_29 : decode cX4_draw 29 = .ok (.getfield 9, 3) := by decide +kernel
theorem dX4_draw_32 : decode cX4_draw 32 = .ok (.sipush 1500, 3) := by decide +kernel
theorem dX4_draw_35 : decode cX4_draw 35 = .ok (.isub, 1) := by decide +kernel
theorem dX4_draw_36 : decode cX4_draw 36 = .ok (.bipush 100, 2) := by decide +kernel
theorem dX4_draw_38 : decode cX4_draw 38 = .ok (.idiv, 1) := by decide +kernel
theorem dX4_draw_39 : decode cX4_draw 39 = .ok (.iadd, 1) := by decide +kernel
theorem dX4_draw_40 : decode cX4_draw 40 = .ok (.putfield 53, 3) := by decide +kernel
theorem dX4_draw_43 : decode cX4_draw 43 = .ok (.aload_n 0, 1) := by decide +kernel
theorem dX4_draw_44 : decode cX4_draw 44 = .ok (.getfield 22, 3) := by decide +kernel
theorem dX4_draw_47 : decode cX4_draw 47 = .ok (.sipush 500, 3) := by decide +kernel
theorem dX4_draw_50 : decode cX4_draw 50 = .ok (.if_icmp .le 8, 3) := by decide +kernel
theorem dX4_draw_53 : decode cX4_draw 53 = .ok (.aload_n 0, 1) := by decide +kernel
theorem dX4_draw_54 : decode cX4_draw 54 = .ok (.iconst 0, 1) := by decide +kernel
theorem dX4_draw_55 : decode cX4_draw 55 = .ok (.putfield 53, 3) := by decide +kernel
theorem dX4_draw_58 : decode cX4_draw 58 = .ok (.return_, 1) := by decide +kernel
theorem dX4_hardness_0 : decode cX4_hardness 0 = .ok (.sipush 800, 3) := by decide +kernel
theorem dX4_hardness_3 : decode cX4_hardness 3 = .ok (.sipush 400, 3) := by decide +kernel
theorem dX4_hardness_6 : decode cX4_hardness 6 = .ok (.aload_n 0, 1) := by decide +kernel
theorem dX4_hardness_7 : decode cX4_hardness 7 = .ok (.getfield 53, 3) := by decide +kernel
theorem dX4_hardness_10 : decode cX4_hardness 10 = .ok (.bipush 50, 2) := by decide +kernel
theorem dX4_hardness_12 : decode cX4_hardness 12 = .ok (.idiv, 1) := by decide +kernel
theorem dX4_hardness_13 : decode cX4_hardness 13 = .ok (.invokestatic 25, 3) := by decide +kernel
theorem dX4_hardness_16 : decode cX4_hardness 16 = .ok (.isub, 1) := by decide +kernel
theorem dX4_hardness_17 : decode cX4_hardness 17 = .ok (.istore_n 1, 1) := by decide +kernel
theorem dX4_hardness_18 : decode cX4_hardness 18 = .ok (.sipush 200, 3) := by decide +kernel
theorem dX4_hardness_21 : decode cX4_hardness 21 = .ok (.aload_n 0, 1) := by decide +kernel
theorem dX4_hardness_22 : decode cX4_hardness 22 = .ok (.getfield 22, 3) := by decide +kernel
theorem dX4_hardness_25 : decode cX4_hardness 25 = .ok (.imul, 1) := by decide +kernel
theorem dX4_hardness_26 : decode cX4_hardness 26 = .ok (.sipush 250, 3) := by decide +kernel
theorem dX4_hardness_29 : decode cX4_hardness 29 = .ok (.aload_n 0, 1) := by decide +kernel
theorem dX4_hardness_30 : decode cX4_hardness 30 = .ok (.getfield 15, 3) := by decide +kernel
theorem dX4_hardness_33 : decode cX4_hardness 33 = .ok (.imul, 1) := by decide +kernel
theorem dX4_hardness_34 : decode cX4_hardness 34 = .ok (.iadd, 1) := by decide +kernel
theorem dX4_hardness_35 : decode cX4_hardness 35 = .ok (.sipush 450, 3) := by decide +kernel
theorem dX4_hardness_38 : decode cX4_hardness 38 = .ok (.aload_n 0, 1) := by decide +kernel
theorem dX4_hardness_39 : decode cX4_hardness 39 = .ok (.getfield 46, 3) := by decide +kernel
theorem dX4_hardness_42 : decode cX4_hardness 42 = .ok (.imul, 1) := by decide +kernel
theorem dX4_hardness_43 : decode cX4_hardness 43 = .ok (.iadd, 1) := by decide +kernel
theorem dX4_hardness_44 : decode cX4_hardness 44 = .ok (.iload_n 1, 1) := by decide +kernel
theorem dX4_hardness_45 : decode cX4_hardness 45 = .ok (.aload_n 0, 1) := by decide +kernel
theorem dX4_hardness_46 : decode cX4_hardness 46 = .ok (.getfield 37, 3) := by decide +kernel
theorem dX4_hardness_49 : decode cX4_hardness 49 = .ok (.imul, 1) := by decide +kernel
theorem dX4_hardness_50 : decode cX4_hardness 50 = .ok (.iadd, 1) := by decide +kernel
theorem dX4_hardness_51 : decode cX4_hardness 51 = .ok (.sipush 1000, 3) := by decide +kernel
theorem dX4_hardness_54 : decode cX4_hardness 54 = .ok (.idiv, 1) := by decide +kernel
theorem dX4_hardness_55 : decode cX4_hardness 55 = .ok (.ireturn, 1) := by decide +kernel
theorem dX4_tell_0 : decode cX4_tell 0 = .ok (.iload_n 1, 1) := by decide +kernel
theorem dX4_tell_1 : decode cX4_tell 1 = .ok (.tableswitch 69 0 5 #[39, 44, 49, 54, 59, 64], 39) := by decide +kernel
theorem dX4_tell_40 : decode cX4_tell 40 = .ok (.aload_n 0, 1) := by decide +kernel
theorem dX4_tell_41 : decode cX4_tell 41 = .ok (.getfield 9, 3) := by decide +kernel
theorem dX4_tell_44 : decode cX4_tell 44 = .ok (.ireturn, 1) := by decide +kernel
theorem dX4_tell_45 : decode cX4_tell 45 = .ok (.aload_n 0, 1) := by decide +kernel
theorem dX4_tell_46 : decode cX4_tell 46 = .ok (.getfield 22, 3) := by decide +kernel
theorem dX4_tell_49 : decode cX4_tell 49 = .ok (.ireturn, 1) := by decide +kernel
theorem dX4_tell_50 : decode cX4_tell 50 = .ok (.aload_n 0, 1) := by decide +kernel
theorem dX4_tell_51 : decode cX4_tell 51 = .ok (.getfield 15, 3) := by decide +kernel
theorem dX4_tell_54 : decode cX4_tell 54 = .ok (.ireturn, 1) := by decide +kernel
theorem dX4_tell_55 : decode cX4_tell 55 = .ok (.aload_n 0, 1) := by decide +kernel
theorem dX4_tell_56 : decode cX4_tell 56 = .ok (.getfield 46, 3) := by decide +kernel
theorem dX4_tell_59 : decode cX4_tell 59 = .ok (.ireturn, 1) := by decide +kernel
theorem dX4_tell_60 : decode cX4_tell 60 = .ok (.aload_n 0, 1) := by decide +kernel
theorem dX4_tell_61 : decode cX4_tell 61 = .ok (.getfield 37, 3) := by decide +kernel
theorem dX4_tell_64 : decode cX4_tell 64 = .ok (.ireturn, 1) := by decide +kernel
theorem dX4_tell_65 : decode cX4_tell 65 = .ok (.aload_n 0, 1) := by decide +kernel
theorem dX4_tell_66 : decode cX4_tell 66 = .ok (.getfield 53, 3) := by decide +kernel
theorem dX4_tell_69 : decode cX4_tell 69 = .ok (.ireturn, 1) := by decide +kernel
theorem dX4_tell_70 : decode cX4_tell 70 = .ok (.aload_n 0, 1) := by decide +kernel
theorem dX4_tell_71 : decode cX4_tell 71 = .ok (.invokevirtual 56, 3) := by decide +kernel
theorem dX4_tell_74 : decode cX4_tell 74 = .ok (.ireturn, 1) := by decide +kernel
theorem dX5_init_0 : decode cX5_init 0 = .ok (.aload_n 0, 1) := by decide +kernel
theorem dX5_init_1 : decode cX5_init 1 = .ok (.invokespecial 1, 3) := by decide +kernel
theorem dX5_init_4 : decode cX5_init 4 = .ok (.aload_n 0, 1) := by decide +kernel
theorem dX5_init_5 : decode cX5_init 5 = .ok (.bipush 12, 2) := by decide +kernel
theorem dX5_init_7 : decode cX5_init 7 = .ok (.anewarray 9, 3) := by decide +kernel
theorem dX5_init_10 : decode cX5_init 10 = .ok (.putfield 11, 3) := by decide +kernel
theorem dX5_init_13 : decode cX5_init 13 = .ok (.aload_n 0, 1) := by decide +kernel
theorem dX5_init_14 : decode cX5_init 14 = .ok (.iconst 3, 1) := by decide +kernel
theorem dX5_init_15 : decode cX5_init 15 = .ok (.anewarray 15, 3) := by decide +kernel
theorem dX5_init_18 : decode cX5_init 18 = .ok (.putfield 17, 3) := by decide +kernel
theorem dX5_init_21 : decode cX5_init 21 = .ok (.aload_n 0, 1) := by decide +kernel
theorem dX5_init_22 : decode cX5_init 22 = .ok (.bipush 100, 2) := by decide +kernel
theorem dX5_init_24 : decode cX5_init 24 = .ok (.anewarray 21, 3) := by decide +kernel
theorem dX5_init_27 : decode cX5_init 27 = .ok (.putfield 23, 3) := by decide +kernel
theorem dX5_init_30 : decode cX5_init 30 = .ok (.aload_n 0, 1) := by decide +kernel
theorem dX5_init_31 : decode cX5_init 31 = .ok (.new 27, 3) := by decide +kernel
theorem dX5_init_34 : decode cX5_init 34 = .ok (.dup, 1) := by decide +kernel
theorem dX5_init_35 : decode cX5_init 35 = .ok (.invokespecial 29, 3) := by decide +kernel
theorem dX5_init_38 : decode cX5_init 38 = .ok (.putfield 30, 3) := by decide +kernel
theorem dX5_init_41 : decode cX5_init 41 = .ok (.iconst 0, 1) := by decide +kernel
theorem dX5_init_42 : decode cX5_init 42 = .ok (.istore_n 1, 1) := by decide +kernel
theorem dX5_init_43 : decode cX5_init 43 = .ok (.iload_n 1, 1) := by decide +kernel
theorem dX5_init_44 : decode cX5_init 44 = .ok (.iconst 3, 1) := by decide +kernel
theorem dX5_init_45 : decode cX5_init 45 = .ok (.if_icmp .ge 22, 3) := by decide +kernel
theorem dX5_init_48 : decode cX5_init 48 = .ok (.aload_n 0, 1) := by decide +kernel
theorem dX5_init_49 : decode cX5_init 49 = .ok (.getfield 17, 3) := by decide +kernel
theorem dX5_init_52 : decode cX5_init 52 = .ok (.iload_n 1, 1) := by decide +kernel
theorem dX5_init_53 : decode cX5_init 53 = .ok (.new 15, 3) := by decide +kernel
theorem dX5_init_56 : decode cX5_init 56 = .ok (.dup, 1) := by decide +kernel
theorem dX5_init_57 : decode cX5_init 57 = .ok (.invokespecial 34, 3) := by decide +kernel
theorem dX5_init_60 : decode cX5_init 60 = .ok (.aastore, 1) := by decide +kernel
theorem dX5_init_61 : decode cX5_init 61 = .ok (.iinc 1 1, 3) := by decide +kernel
theorem dX5_init_64 : decode cX5_init 64 = .ok (.goto (-21), 3) := by decide +kernel
theorem dX5_init_67 : decode cX5_init 67 = .ok (.return_, 1) := by decide +kernel
theorem dX5_part_0 : decode cX5_part 0 = .ok (.iload_n 1, 1) := by decide +kernel
theorem dX5_part_1 : decode cX5_part 1 = .ok (.iconst 1, 1) := by decide +kernel
theorem dX5_part_2 : decode cX5_part 2 = .ok (.bipush 6, 2) := by decide +kernel
theorem dX5_part_4 : decode cX5_part 4 = .ok (.invokestatic 35, 3) := by decide +kernel
theorem dX5_part_7 : decode cX5_part 7 = .ok (.ifCond .eq 61, 3) := by decide +kernel
theorem dX5_part_10 : decode cX5_part 10 = .ok (.iload_n 2, 1) := by decide +kernel
theorem dX5_part_11 : decode cX5_part 11 = .ok (.iconst 1, 1) := by decide +kernel
theorem dX5_part_12 : decode cX5_part 12 = .ok (.sipush 1000, 3) := by decide +kernel
theorem dX5_part_15 : decode cX5_part 15 = .ok (.invokestatic 35, 3) := by decide +kernel
theorem dX5_part_18 : decode cX5_part 18 = .ok (.ifCond .eq 50, 3) := by decide +kernel
theorem dX5_part_21 : decode cX5_part 21 = .ok (.iload_n 3, 1) := by decide +kernel
theorem dX5_part_22 : decode cX5_part 22 = .ok (.iconst 1, 1) := by decide +kernel
theorem dX5_part_23 : decode cX5_part 23 = .ok (.sipush 300, 3) := by decide +kernel
theorem dX5_part_26 : decode cX5_part 26 = .ok (.invokestatic 35, 3) := by decide +kernel
theorem dX5_part_29 : decode cX5_part 29 = .ok (.ifCond .eq 39, 3) := by decide +kernel
theorem dX5_part_32 : decode cX5_part 32 = .ok (.iload 4, 2) := by decide +kernel
theorem dX5_part_34 : decode cX5_part 34 = .ok (.iconst 1, 1) := by decide +kernel
theorem dX5_part_35 : decode cX5_part 35 = .ok (.sipush 300, 3) := by decide +kernel
theorem dX5_part_38 : decode cX5_part 38 = .ok (.invokestatic 35, 3) := by decide +kernel
theorem dX5_part_41 : decode cX5_part 41 = .ok (.ifCond .eq 27, 3) := by decide +kernel
theorem dX5_part_44 : decode cX5_part 44 = .ok (.iload 5, 2) := by decide +kernel
theorem dX5_part_46 : decode cX5_part 46 = .ok (.iconst 0, 1) := by decide +kernel
theorem dX5_part_47 : decode cX5_part 47 = .ok (.sipush 200, 3) := by decide +kernel
theorem dX5_part_50 : decode cX5_part 50 = .ok (.invokestatic 35, 3) := by decide +kernel
theorem dX5_part_53 : decode cX5_part 53 = .ok (.ifCond .eq 15, 3) := by decide +kernel
theorem dX5_part_56 : decode cX5_part 56 = .ok (.iload 6, 2) := by decide +kernel
theorem dX5_part_58 : decode cX5_part 58 = .ok (.iconst 0, 1) := by decide +kernel
theorem dX5_part_59 : decode cX5_part 59 = .ok (.sipush 200, 3) := by decide +kernel
theorem dX5_part_62 : decode cX5_part 62 = .ok (.invokestatic 35, 3) := by decide +kernel
theorem dX5_part_65 : decode cX5_part 65 = .ok (.ifCond .ne 6, 3) := by decide +kernel
theorem dX5_part_68 : decode cX5_part 68 = .ok (.bipush (-2), 2) := by decide +kernel
theorem dX5_part_70 : decode cX5_part 70 = .ok (.ireturn, 1) := by decide +kernel
theorem dX5_part_71 : decode cX5_part 71 = .ok (.aload_n 0, 1) := by decide +kernel
theorem dX5_part_72 : decode cX5_part 72 = .ok (.getfield 39, 3) := by decide +kernel
theorem dX5_part_75 : decode cX5_part 75 = .ok (.bipush 12, 2) := by decide +kernel
theorem dX5_part_77 : decode cX5_part 77 = .ok (.if_icmp .lt 6, 3) := by decide +kernel
theorem dX5_part_80 : decode cX5_part 80 = .ok (.bipush (-4), 2) := by decide +kernel
theorem dX5_part_82 : decode cX5_part 82 = .ok (.ireturn, 1) := by decide +kernel
theorem dX5_part_83 : decode cX5_part 83 = .ok (.aload_n 0, 1) := by decide +kernel
theorem dX5_part_84 : decode cX5_part 84 = .ok (.getfield 11, 3) := by decide +kernel
theorem dX5_part_87 : decode cX5_part 87 = .ok (.aload_n 0, 1) := by decide +kernel
theorem dX5_part_88 : decode cX5_part 88 = .ok (.getfield 39, 3) := by decide +kernel
theorem dX5_part_91 : decode cX5_part 91 = .ok (.new 9, 3) := by decide +kernel
theorem dX5_part_94 : decode cX5_part 94 = .ok (.dup, 1) := by decide +kernel
theorem dX5_part_95 : decode cX5_part 95 = .ok (.aload_n 0, 1) := by decide +kernel
theorem dX5_part_96 : decode cX5_part 96 = .ok (.getfield 39, 3) := by decide +kernel
theorem dX5_part_99 : decode cX5_part 99 = .ok (.iload_n 1, 1) := by decide +kernel
theorem dX5_part_100 : decode cX5_part 100 = .ok (.iload_n 2, 1) := by decide +kernel
theorem dX5_part_101 : decode cX5_part 101 = .ok (.iload_n 3, 1) := by decide +kernel
theorem dX5_part_102 : decode cX5_part 102 = .ok (.iload 4, 2) := by decide +kernel
theorem dX5_part_104 : decode cX5_part 104 = .ok (.iload 5, 2) := by decide +kernel
theorem dX5_part_106 : decode cX5_part 106 = .ok (.iload 6, 2) := by decide +kernel
theorem dX5_part_108 : decode cX5_part 108 = .ok (.invokespecial 43, 3) := by decide +kernel
theorem dX5_part_111 : decode cX5_part 111 = .ok (.aastore, 1) := by decide +kernel
theorem dX5_part_112 : decode cX5_part 112 = .ok (.aload_n 0, 1) := by decide +kernel
theorem dX5_part_113 : decode cX5_part 113 = .ok (.dup, 1) := by decide +kernel
theorem dX5_part_114 : decode cX5_part 114 = .ok (.getfield 39, 3) := by decide +kernel
theorem dX5_part_117 : decode cX5_part 117 = .ok (.dup_x1, 1) := by decide +kernel
theorem dX5_part_118 : decode cX5_part 118 = .ok (.iconst 1, 1) := by decide +kernel
theorem dX5_part_119 : decode cX5_part 119 = .ok (.iadd, 1) := by decide +kernel
theorem dX5_part_120 : decode cX5_part 120 = .ok (.putfield 39, 3) := by decide +kernel
theorem dX5_part_123 : decode cX5_part 123 = .ok (.ireturn, 1) := by decide +kernel
theorem dX5_step_0 : decode cX5_step 0 = .ok (.aload_n 0, 1) := by decide +kernel
theorem dX5_step_1 : decode cX5_step 1 = .ok (.iload_n 1, 1) := by decide +kernel
theorem dX5_step_2 : decode cX5_step 2 = .ok (.invokevirtual 46, 3) := by decide +kernel
theorem dX5_step_5 : decode cX5_step 5 = .ok (.astore 4, 2) := by decide +kernel
theorem dX5_step_7 : decode cX5_step 7 = .ok (.aload 4, 2) := by decide +kernel
theorem dX5_step_9 : decode cX5_step 9 = .ok (.ifnull 27, 3) := by decide +kernel
theorem dX5_step_12 : decode cX5_step 12 = .ok (.iload_n 2, 1) := by decide +kernel
theorem dX5_step_13 : decode cX5_step 13 = .ok (.sipush (-1000), 3) := by decide +kernel
theorem dX5_step_16 : decode cX5_step 16 = .ok (.sipush 12000, 3) := by decide +kernel
theorem dX5_step_19 : decode cX5_step 19 = .ok (.invokestatic 35, 3) := by decide +kernel
theorem dX5_step_22 : decode cX5_step 22 = .ok (.ifCond .eq 14, 3) := by decide +kernel
theorem dX5_step_25 : decode cX5_step 25 = .ok (.iload_n 3, 1) := by decide +kernel
theorem dX5_step_26 : decode cX5_step 26 = .ok (.iconst 1, 1) := by decide +kernel
theorem dX5_step_27 : decode cX5_step 27 = .ok (.sipush 200, 3) := by decide +kernel
theorem dX5_step_30 : decode cX5_step 30 = .ok (.invokestatic 35, 3) := by decide +kernel
theorem dX5_step_33 : decode cX5_step 33 = .ok (.ifCond .ne 6, 3) := by decide +kernel
theorem dX5_step_36 : decode cX5_step 36 = .ok (.bipush (-2), 2) := by decide +kernel
theorem dX5_step_38 : decode cX5_step 38 = .ok (.ireturn, 1) := by decide +kernel
theorem dX5_step_39 : decode cX5_step 39 = .ok (.aload 4, 2) := by decide +kernel
theorem dX5_step_41 : decode cX5_step 41 = .ok (.getfield 50, 3) := by decide +kernel
theorem dX5_step_44 : decode cX5_step 44 = .ok (.ifCond .eq 6, 3) := by decide +kernel
theorem dX5_step_47 : decode cX5_step 47 = .ok (.bipush (-3), 2) := by decide +kernel
theorem dX5_step_49 : decode cX5_step 49 = .ok (.ireturn, 1) := by decide +kernel
theorem dX5_step_50 : decode cX5_step 50 = .ok (.iconst 0, 1) := by decide +kernel
theorem dX5_step_51 : decode cX5_step 51 = .ok (.istore 5, 2) := by decide +kernel
theorem dX5_step_53 : decode cX5_step 53 = .ok (.iload 5, 2) := by decide +kernel
theorem dX5_step_55 : decode cX5_step 55 = .ok (.iload_n 3, 1) := by decide +kernel
theorem dX5_step_56 : decode cX5_step 56 = .ok (.if_icmp .ge 15, 3) := by decide +kernel
theorem dX5_step_59 : decode cX5_step 59 = .ok (.aload 4, 2) := by decide +kernel
theorem dX5_step_61 : decode cX5_step 61 = .ok (.iload_n 2, 1) := by decide +kernel
theorem dX5_step_62 : decode cX5_step 62 = .ok (.invokevirtual 54, 3) := by decide +kernel
theorem dX5_step_65 : decode cX5_step 65 = .ok (.iinc 5 1, 3) := by decide +kernel
theorem dX5_step_68 : decode cX5_step 68 = .ok (.goto (-15), 3) := by decide +kernel
theorem dX5_step_71 : decode cX5_step 71 = .ok (.aload 4, 2) := by decide +kernel
theorem dX5_step_73 : decode cX5_step 73 = .ok (.invokevirtual 58, 3) := by decide +kernel
theorem dX5_step_76 : decode cX5_step 76 = .ok (.ireturn, 1) := by decide +kernel
theorem dX5_shell_0 : decode cX5_shell 0 = .ok (.aload_n 0, 1) := by decide +kernel
theorem dX5_shell_1 : decode cX5_shell 1 = .ok (.iload_n 1, 1) := by decide +kernel
theorem dX5_shell_2 : decode cX5_shell 2 = .ok (.invokevirtual 46, 3) := by decide +kernel
theorem dX5_shell_5 : decode cX5_shell 5 = .ok (.astore 4, 2) := by decide +kernel
theorem dX5_shell_7 : decode cX5_shell 7 = .ok (.aload 4, 2) := by decide +kernel
theorem dX5_shell_9 : decode cX5_shell 9 = .ok (.ifnull 29, 3) := by decide +kernel
theorem dX5_shell_12 : decode cX5_shell 12 = .ok (.iload_n 2, 1) := by decide +kernel
theorem dX5_shell_13 : decode cX5_shell 13 = .ok (.iconst 0, 1) := by decide +kernel
theorem dX5_shell_14 : decode cX5_shell 14 = .ok (.aload 4, 2) := by decide +kernel
theorem dX5_shell_16 : decode cX5_shell 16 = .ok (.getfield 62, 3) := by decide +kernel
theorem dX5_shell_19 : decode cX5_shell 19 = .ok (.arraylength, 1) := by decide +kernel
theorem dX5_shell_20 : decode cX5_shell 20 = .ok (.iconst 1, 1) := by decide +kernel
theorem dX5_shell_21 : decode cX5_shell 21 = .ok (.isub, 1) := by decide +kernel
theorem dX5_shell_22 : decode cX5_shell 22 = .ok (.invokestatic 35, 3) := by decide +kernel
theorem dX5_shell_25 : decode cX5_shell 25 = .ok (.ifCond .eq 13, 3) := by decide +kernel
theorem dX5_shell_28 : decode cX5_shell 28 = .ok (.iload_n 3, 1) := by decide +kernel
theorem dX5_shell_29 : decode cX5_shell 29 = .ok (.iconst 0, 1) := by decide +kernel
theorem dX5_shell_30 : decode cX5_shell 30 = .ok (.bipush 6, 2) := by decide +kernel
theorem dX5_shell_32 : decode cX5_shell 32 = .ok (.invokestatic 35, 3) := by decide +kernel
theorem dX5_shell_35 : decode cX5_shell 35 = .ok (.ifCond .ne 6, 3) := by decide +kernel
theorem dX5_shell_38 : decode cX5_shell 38 = .ok (.ldc 66, 2) := by decide +kernel
theorem dX5_shell_40 : decode cX5_shell 40 = .ok (.ireturn, 1) := by decide +kernel
theorem dX5_shell_41 : decode cX5_shell 41 = .ok (.aload 4, 2) := by decide +kernel
theorem dX5_shell_43 : decode cX5_shell 43 = .ok (.getfield 62, 3) := by decide +kernel
theorem dX5_shell_46 : decode cX5_shell 46 = .ok (.iload_n 2, 1) := by decide +kernel
theorem dX5_shell_47 : decode cX5_shell 47 = .ok (.aaload, 1) := by decide +kernel
theorem dX5_shell_48 : decode cX5_shell 48 = .ok (.iload_n 3, 1) := by decide +kernel
theorem dX5_shell_49 : decode cX5_shell 49 = .ok (.invokevirtual 67, 3) := by decide +kernel
theorem dX5_shell_52 : decode cX5_shell 52 = .ok (.ireturn, 1) := by decide +kernel
theorem dX5_taken_0 : decode cX5_taken 0 = .ok (.aload_n 0, 1) := by decide +kernel
theorem dX5_taken_1 : decode cX5_taken 1 = .ok (.iload_n 1, 1) := by decide +kernel
theorem dX5_taken_2 : decode cX5_taken 2 = .ok (.invokevirtual 46, 3) := by decide +kernel
theorem dX5_taken_5 : decode cX5_taken 5 = .ok (.astore_n 2, 1) := by decide +kernel
theorem dX5_taken_6 : decode cX5_taken 6 = .ok (.aload_n 2, 1) := by decide +kernel
theorem dX5_taken_7 : decode cX5_taken 7 = .ok (.ifnonnull 9, 3) := by decide +kernel
theorem dX5_taken_10 : decode cX5_taken 10 = .ok (.ldc2_w 73, 3) := by decide +kernel
theorem dX5_taken_13 : decode cX5_taken 13 = .ok (.goto 7, 3) := by decide +kernel
theorem dX5_taken_16 : decode cX5_taken 16 = .ok (.aload_n 2, 1) := by decide +kernel
theorem dX5_taken_17 : decode cX5_taken 17 = .ok (.getfield 75, 3) := by decide +kernel
theorem dX5_taken_20 : decode cX5_taken 20 = .ok (.lreturn, 1) := by decide +kernel
theorem dX5_kept_0 : decode cX5_kept 0 = .ok (.aload_n 0, 1) := by decide +kernel
theorem dX5_kept_1 : decode cX5_kept 1 = .ok (.iload_n 1, 1) := by decide +kernel
theorem dX5_kept_2 : decode cX5_kept 2 = .ok (.invokevirtual 46, 3) := by decide +kernel
theorem dX5_kept_5 : decode cX5_kept 5 = .ok (.astore_n 2, 1) := by decide +kernel
theorem dX5_kept_6 : decode cX5_kept 6 = .ok (.aload_n 2, 1) := by decide +kernel
theorem dX5_kept_7 : decode cX5_kept 7 = .ok (.ifnonnull 7, 3) := by decide +kernel
theorem dX5_kept_10 : decode cX5_kept 10 = .ok (.lconst 1, 1) := by decide +kernel
theorem dX5_kept_11 : decode cX5_kept 11 = .ok (.goto 7, 3) := by decide +kernel
theorem dX5_kept_14 : decode cX5_kept 14 = .ok (.aload_n 2, 1) := by decide +kernel
theorem dX5_kept_15 : decode cX5_kept 15 = .ok (.invokevirtual 79, 3) := by decide +kernel
theorem dX5_kept_18 : decode cX5_kept 18 = .ok (.lreturn, 1) := by decide +kernel
theorem dX5_line_0 : decode cX5_line 0 = .ok (.aload_n 0, 1) := by decide +kernel
theorem dX5_line_1 : decode cX5_line 1 = .ok (.iload_n 1, 1) := by decide +kernel
theorem dX5_line_2 : decode cX5_line 2 = .ok (.invokevirtual 83, 3) := by decide +kernel
theorem dX5_line_5 : decode cX5_line 5 = .ok (.astore 5, 2) := by decide +kernel
theorem dX5_line_7 : decode cX5_line 7 = .ok (.aload 5, 2) := by decide +kernel
theorem dX5_line_9 : decode cX5_line 9 = .ok (.ifnull 13, 3) := by decide +kernel
theorem dX5_line_12 : decode cX5_line 12 = .ok (.iload_n 2, 1) := by decide +kernel
theorem dX5_line_13 : decode cX5_line 13 = .ok (.iload_n 3, 1) := by decide +kernel
theorem dX5_line_14 : decode cX5_line 14 = .ok (.iload 4, 2) := by decide +kernel
theorem dX5_line_16 : decode cX5_line 16 = .ok (.invokestatic 87, 3) := by decide +kernel
theorem dX5_line_19 : decode cX5_line 19 = .ok (.ifCond .ne 6, 3) := by decide +kernel
theorem dX5_line_22 : decode cX5_line 22 = .ok (.bipush (-2), 2) := by decide +kernel
theorem dX5_line_24 : decode cX5_line 24 = .ok (.ireturn, 1) := by decide +kernel
theorem dX5_line_25 : decode cX5_line 25 = .ok (.aload 5, 2) := by decide +kernel
theorem dX5_line_27 : decode cX5_line 27 = .ok (.invokevirtual 90, 3) := by decide +kernel
theorem dX5_line_30 : decode cX5_line 30 = .ok (.ifCond .eq 6, 3) := by decide +kernel
theorem dX5_line_33 : decode cX5_line 33 = .ok (.bipush (-3), 2) := by decide +kernel
theorem dX5_line_35 : decode cX5_line 35 = .ok (.ireturn, 1) := by decide +kernel
theorem dX5_line_36 : decode cX5_line 36 = .ok (.aload 5, 2) := by decide +kernel
theorem dX5_line_38 : decode cX5_line 38 = .ok (.iload_n 2, 1) := by decide +kernel
theorem dX5_line_39 : decode cX5_line 39 = .ok (.iload_n 3, 1) := by decide +kernel
theorem dX5_line_40 : decode cX5_line 40 = .ok (.iload 4, 2) := by decide +kernel
theorem dX5_line_42 : decode cX5_line 42 = .ok (.invokevirtual 94, 3) := by decide +kernel
theorem dX5_line_45 : decode cX5_line 45 = .ok (.ireturn, 1) := by decide +kernel
theorem dX5_clear_0 : decode cX5_clear 0 = .ok (.aload_n 0, 1) := by decide +kernel
theorem dX5_clear_1 : decode cX5_clear 1 = .ok (.iload_n 1, 1) := by decide +kernel
theorem dX5_clear_2 : decode cX5_clear 2 = .ok (.invokevirtual 83, 3) := by decide +kernel
theorem dX5_clear_5 : decode cX5_clear 5 = .ok (.astore_n 2, 1) := by decide +kernel
theorem dX5_clear_6 : decode cX5_clear 6 = .ok (.aload_n 2, 1) := by decide +kernel
theorem dX5_clear_7 : decode cX5_clear 7 = .ok (.ifnonnull 6, 3) := by decide +kernel
theorem dX5_clear_10 : decode cX5_clear 10 = .ok (.bipush (-2), 2) := by decide +kernel
theorem dX5_clear_12 : decode cX5_clear 12 = .ok (.ireturn, 1) := by decide +kernel
theorem dX5_clear_13 : decode cX5_clear 13 = .ok (.aload_n 2, 1) := by decide +kernel
theorem dX5_clear_14 : decode cX5_clear 14 = .ok (.invokevirtual 90, 3) := by decide +kernel
theorem dX5_clear_17 : decode cX5_clear 17 = .ok (.ifCond .eq 6, 3) := by decide +kernel
theorem dX5_clear_20 : decode cX5_clear 20 = .ok (.bipush (-3), 2) := by decide +kernel
theorem dX5_clear_22 : decode cX5_clear 22 = .ok (.ireturn, 1) := by decide +kernel
theorem dX5_clear_23 : decode cX5_clear 23 = .ok (.aload_n 2, 1) := by decide +kernel
theorem dX5_clear_24 : decode cX5_clear 24 = .ok (.getfield 98, 3) := by decide +kernel
theorem dX5_clear_27 : decode cX5_clear 27 = .ok (.istore_n 3, 1) := by decide +kernel
theorem dX5_clear_28 : decode cX5_clear 28 = .ok (.aload_n 2, 1) := by decide +kernel
theorem dX5_clear_29 : decode cX5_clear 29 = .ok (.iconst 0, 1) := by decide +kernel
theorem dX5_clear_30 : decode cX5_clear 30 = .ok (.putfield 98, 3) := by decide +kernel
theorem dX5_clear_33 : decode cX5_clear 33 = .ok (.iload_n 3, 1) := by decide +kernel
theorem dX5_clear_34 : decode cX5_clear 34 = .ok (.ireturn, 1) := by decide +kernel
theorem dX5_load_0 : decode cX5_load 0 = .ok (.aload_n 0, 1) := by decide +kernel
theorem dX5_load_1 : decode cX5_load 1 = .ok (.iload_n 1, 1) := by decide +kernel
theorem dX5_load_2 : decode cX5_load 2 = .ok (.invokevirtual 83, 3) := by decide +kernel
theorem dX5_load_5 : decode cX5_load 5 = .ok (.astore 4, 2) := by decide +kernel
theorem dX5_load_7 : decode cX5_load 7 = .ok (.aload_n 0, 1) := by decide +kernel
theorem dX5_load_8 : decode cX5_load 8 = .ok (.iload_n 3, 1) := by decide +kernel
theorem dX5_load_9 : decode cX5_load 9 = .ok (.invokevirtual 46, 3) := by decide +kernel
theorem dX5_load_12 : decode cX5_load 12 = .ok (.astore 5, 2) := by decide +kernel
theorem dX5_load_14 : decode cX5_load 14 = .ok (.aload 4, 2) := by decide +kernel
theorem dX5_load_16 : decode cX5_load 16 = .ok (.ifnull 17, 3) := by decide +kernel
theorem dX5_load_19 : decode cX5_load 19 = .ok (.aload 5, 2) := by decide +kernel
theorem dX5_load_21 : decode cX5_load 21 = .ok (.ifnull 12, 3) := by decide +kernel
theorem dX5_load_24 : decode cX5_load 24 = .ok (.iload_n 2, 1) := by decide +kernel
theorem dX5_load_25 : decode cX5_load 25 = .ok (.iconst 0, 1) := by decide +kernel
theorem dX5_load_26 : decode cX5_load 26 = .ok (.iconst 3, 1) := by decide +kernel
theorem dX5_load_27 : decode cX5_load 27 = .ok (.invokestatic 35, 3) := by decide +kernel
theorem dX5_load_30 : decode cX5_load 30 = .ok (.ifCond .ne 6, 3) := by decide +kernel
theorem dX5_load_33 : decode cX5_load 33 = .ok (.bipush (-2), 2) := by decide +kernel
theorem dX5_load_35 : decode cX5_load 35 = .ok (.ireturn, 1) := by decide +kernel
theorem dX5_load_36 : decode cX5_load 36 = .ok (.aload 5, 2) := by decide +kernel
theorem dX5_load_38 : decode cX5_load 38 = .ok (.getfield 50, 3) := by decide +kernel
theorem dX5_load_41 : decode cX5_load 41 = .ok (.ifCond .ne 38, 3) := by decide +kernel
theorem dX5_load_44 : decode cX5_load 44 = .ok (.aload 4, 2) := by decide +kernel
theorem dX5_load_46 : decode cX5_load 46 = .ok (.getfield 101, 3) := by decide +kernel
theorem dX5_load_49 : decode cX5_load 49 = .ok (.iload_n 2, 1) := by decide +kernel
theorem dX5_load_50 : decode cX5_load 50 = .ok (.aaload, 1) := by decide +kernel
theorem dX5_load_51 : decode cX5_load 51 = .ok (.ifnonnull 28, 3) := by decide +kernel
theorem dX5_load_54 : decode cX5_load 54 = .ok (.aload 4, 2) := by decide +kernel
theorem dX5_load_56 : decode cX5_load 56 = .ok (.invokevirtual 90, 3) := by decide +kernel
theorem dX5_load_59 : decode cX5_load 59 = .ok (.ifCond .ne 20, 3) := by decide +kernel
theorem dX5_load_62 : decode cX5_load 62 = .ok (.aload 4, 2) := by decide +kernel
theorem dX5_load_64 : decode cX5_load 64 = .ok (.invokevirtual 104, 3) := by decide +kernel
theorem dX5_load_67 : decode cX5_load 67 = .ok (.aload 5, 2) := by decide +kernel
theorem dX5_load_69 : decode cX5_load 69 = .ok (.getfield 107, 3) := by decide +kernel
theorem dX5_load_72 : decode cX5_load 72 = .ok (.iadd, 1) := by decide +kernel
theorem dX5_load_73 : decode cX5_load 73 = .ok (.sipush 1000, 3) := by decide +kernel
theorem dX5_load_76 : decode cX5_load 76 = .ok (.if_icmp .le 6, 3) := by decide +kernel
theorem dX5_load_79 : decode cX5_load 79 = .ok (.bipush (-3), 2) := by decide +kernel
theorem dX5_load_81 : decode cX5_load 81 = .ok (.ireturn, 1) := by decide +kernel
theorem dX5_load_82 : decode cX5_load 82 = .ok (.aload 4, 2) := by decide +kernel
theorem dX5_load_84 : decode cX5_load 84 = .ok (.getfield 101, 3) := by decide +kernel
theorem dX5_load_87 : decode cX5_load 87 = .ok (.iload_n 2, 1) := by decide +kernel
theorem dX5_load_88 : decode cX5_load 88 = .ok (.aload 5, 2) := by decide +kernel
theorem dX5_load_90 : decode cX5_load 90 = .ok (.aastore, 1) := by decide +kernel
theorem dX5_load_91 : decode cX5_load 91 = .ok (.aload 5, 2) := by decide +kernel
theorem dX5_load_93 : decode cX5_load 93 = .ok (.iconst 1, 1) := by decide +kernel
theorem dX5_load_94 : decode cX5_load 94 = .ok (.putfield 50, 3) := by decide +kernel
theorem dX5_load_97 : decode cX5_load 97 = .ok (.iconst 1, 1) := by decide +kernel
theorem dX5_load_98 : decode cX5_load 98 = .ok (.ireturn, 1) := by decide +kernel
theorem dX5_unload_0 : decode cX5_unload 0 = .ok (.aload_n 0, 1) := by decide +kernel
theorem dX5_unload_1 : decode cX5_unload 1 = .ok (.iload_n 1, 1) := by decide +kernel
theorem dX5_unload_2 : decode cX5_unload 2 = .ok (.invokevirtual 83, 3) := by decide +kernel
theorem dX5_unload_5 : decode cX5_unload 5 = .ok (.astore_n 3, 1) := by decide +kernel
theorem dX5_unload_6 : decode cX5_unload 6 = .ok (.aload_n 3, 1) := by decide +kernel
theorem dX5_unload_7 : decode cX5_unload 7 = .ok (.ifnull 12, 3) := by decide +kernel
theorem dX5_unload_10 : decode cX5_unload 10 = .ok (.iload_n 2, 1) := by decide +kernel
theorem dX5_unload_11 : decode cX5_unload 11 = .ok (.iconst 0, 1) := by decide +kernel
theorem dX5_unload_12 : decode cX5_unload 12 = .ok (.iconst 3, 1) := by decide +kernel
theorem dX5_unload_13 : decode cX5_unload 13 = .ok (.invokestatic 35, 3) := by decide +kernel
theorem dX5_unload_16 : decode cX5_unload 16 = .ok (.ifCond .ne 6, 3) := by decide +kernel
theorem dX5_unload_19 : decode cX5_unload 19 = .ok (.bipush (-2), 2) := by decide +kernel
theorem dX5_unload_21 : decode cX5_unload 21 = .ok (.ireturn, 1) := by decide +kernel
theorem dX5_unload_22 : decode cX5_unload 22 = .ok (.aload_n 3, 1) := by decide +kernel
theorem dX5_unload_23 : decode cX5_unload 23 = .ok (.getfield 101, 3) := by decide +kernel
theorem dX5_unload_26 : decode cX5_unload 26 = .ok (.iload_n 2, 1) := by decide +kernel
theorem dX5_unload_27 : decode cX5_unload 27 = .ok (.aaload, 1) := by decide +kernel
theorem dX5_unload_28 : decode cX5_unload 28 = .ok (.astore 4, 2) := by decide +kernel
theorem dX5_unload_30 : decode cX5_unload 30 = .ok (.aload 4, 2) := by decide +kernel
theorem dX5_unload_32 : decode cX5_unload 32 = .ok (.ifnull 10, 3) := by decide +kernel
theorem dX5_unload_35 : decode cX5_unload 35 = .ok (.aload_n 3, 1) := by decide +kernel
theorem dX5_unload_36 : decode cX5_unload 36 = .ok (.invokevirtual 90, 3) := by decide +kernel
theorem dX5_unload_39 : decode cX5_unload 39 = .ok (.ifCond .eq 6, 3) := by decide +kernel
theorem dX5_unload_42 : decode cX5_unload 42 = .ok (.bipush (-3), 2) := by decide +kernel
theorem dX5_unload_44 : decode cX5_unload 44 = .ok (.ireturn, 1) := by decide +kernel
theorem dX5_unload_45 : decode cX5_unload 45 = .ok (.aload_n 3, 1) := by decide +kernel
theorem dX5_unload_46 : decode cX5_unload 46 = .ok (.getfield 101, 3) := by decide +kernel
theorem dX5_unload_49 : decode cX5_unload 49 = .ok (.iload_n 2, 1) := by decide +kernel
theorem dX5_unload_50 : decode cX5_unload 50 = .ok (.aconst_null, 1) := by decide +kernel
theorem dX5_unload_51 : decode cX5_unload 51 = .ok (.aastore, 1) := by decide +kernel
theorem dX5_unload_52 : decode cX5_unload 52 = .ok (.aload 4, 2) := by decide +kernel
theorem dX5_unload_54 : decode cX5_unload 54 = .ok (.iconst 0, 1) := by decide +kernel
theorem dX5_unload_55 : decode cX5_unload 55 = .ok (.putfield 50, 3) := by decide +kernel
theorem dX5_unload_58 : decode cX5_unload 58 = .ok (.aload 4, 2) := by decide +kernel
theorem dX5_unload_60 : decode cX5_unload 60 = .ok (.getfield 110, 3) := by decide +kernel
theorem dX5_unload_63 : decode cX5_unload 63 = .ok (.ireturn, 1) := by decide +kernel
theorem dX5_probe_0 : decode cX5_probe 0 = .ok (.aload_n 0, 1) := by decide +kernel
theorem dX5_probe_1 : decode cX5_probe 1 = .ok (.iload_n 1, 1) := by decide +kernel
theorem dX5_probe_2 : decode cX5_probe 2 = .ok (.invokevirtual 83, 3) := by decide +kernel
theorem dX5_probe_5 : decode cX5_probe 5 = .ok (.astore 5, 2) := by decide +kernel
theorem dX5_probe_7 : decode cX5_probe 7 = .ok (.aload 5, 2) := by decide +kernel
theorem dX5_probe_9 : decode cX5_probe 9 = .ok (.ifnull 26, 3) := by decide +kernel
theorem dX5_probe_12 : decode cX5_probe 12 = .ok (.iload_n 2, 1) := by decide +kernel
theorem dX5_probe_13 : decode cX5_probe 13 = .ok (.iconst 0, 1) := by decide +kernel
theorem dX5_probe_14 : decode cX5_probe 14 = .ok (.iconst 3, 1) := by decide +kernel
theorem dX5_probe_15 : decode cX5_probe 15 = .ok (.invokestatic 35, 3) := by decide +kernel
theorem dX5_probe_18 : decode cX5_probe 18 = .ok (.ifCond .eq 17, 3) := by decide +kernel
theorem dX5_probe_21 : decode cX5_probe 21 = .ok (.iload 4, 2) := by decide +kernel
theorem dX5_probe_23 : decode cX5_probe 23 = .ok (.sipush (-500), 3) := by decide +kernel
theorem dX5_probe_26 : decode cX5_probe 26 = .ok (.sipush 500, 3) := by decide +kernel
theorem dX5_probe_29 : decode cX5_probe 29 = .ok (.invokestatic 35, 3) := by decide +kernel
theorem dX5_probe_32 : decode cX5_probe 32 = .ok (.ifCond .ne 6, 3) := by decide +kernel
theorem dX5_probe_35 : decode cX5_probe 35 = .ok (.bipush (-2), 2) := by decide +kernel
theorem dX5_probe_37 : decode cX5_probe 37 = .ok (.ireturn, 1) := by decide +kernel
theorem dX5_probe_38 : decode cX5_probe 38 = .ok (.aload 5, 2) := by decide +kernel
theorem dX5_probe_40 : decode cX5_probe 40 = .ok (.getfield 113, 3) := by decide +kernel
theorem dX5_probe_43 : decode cX5_probe 43 = .ok (.iload_n 2, 1) := by decide +kernel
theorem dX5_probe_44 : decode cX5_probe 44 = .ok (.iload_n 3, 1) := by decide +kernel
theorem dX5_probe_45 : decode cX5_probe 45 = .ok (.ifCond .ne 7, 3) := by decide +kernel
theorem dX5_probe_48 : decode cX5_probe 48 = .ok (.iconst 1, 1) := by decide +kernel
theorem dX5_probe_49 : decode cX5_probe 49 = .ok (.goto 4, 3) := by decide +kernel
theorem dX5_probe_52 : decode cX5_probe 52 = .ok (.iconst 0, 1) := by decide +kernel
theorem dX5_probe_53 : decode cX5_probe 53 = .ok (.bastore, 1) := by decide +kernel
theorem dX5_probe_54 : decode cX5_probe 54 = .ok (.aload 5, 2) := by decide +kernel
theorem dX5_probe_56 : decode cX5_probe 56 = .ok (.getfield 117, 3) := by decide +kernel
theorem dX5_probe_59 : decode cX5_probe 59 = .ok (.iload_n 2, 1) := by decide +kernel
theorem dX5_probe_60 : decode cX5_probe 60 = .ok (.iload 4, 2) := by decide +kernel
theorem dX5_probe_62 : decode cX5_probe 62 = .ok (.iastore, 1) := by decide +kernel
theorem dX5_probe_63 : decode cX5_probe 63 = .ok (.iconst 1, 1) := by decide +kernel
theorem dX5_probe_64 : decode cX5_probe 64 = .ok (.ireturn, 1) := by decide +kernel
theorem dX5_run_0 : decode cX5_run 0 = .ok (.aload_n 0, 1) := by decide +kernel
theorem dX5_run_1 : decode cX5_run 1 = .ok (.iload_n 1, 1) := by decide +kernel
theorem dX5_run_2 : decode cX5_run 2 = .ok (.invokevirtual 83, 3) := by decide +kernel
theorem dX5_run_5 : decode cX5_run 5 = .ok (.astore_n 2, 1) := by decide +kernel
theorem dX5_run_6 : decode cX5_run 6 = .ok (.aload_n 2, 1) := by decide +kernel
theorem dX5_run_7 : decode cX5_run 7 = .ok (.ifnonnull 6, 3) := by decide +kernel
theorem dX5_run_10 : decode cX5_run 10 = .ok (.bipush (-2), 2) := by decide +kernel
theorem dX5_run_12 : decode cX5_run 12 = .ok (.ireturn, 1) := by decide +kernel
theorem dX5_run_13 : decode cX5_run 13 = .ok (.aload_n 2, 1) := by decide +kernel
theorem dX5_run_14 : decode cX5_run 14 = .ok (.invokevirtual 90, 3) := by decide +kernel
theorem dX5_run_17 : decode cX5_run 17 = .ok (.ifCond .ne 17, 3) := by decide +kernel
theorem dX5_run_20 : decode cX5_run 20 = .ok (.aload_n 2, 1) := by decide +kernel
theorem dX5_run_21 : decode cX5_run 21 = .ok (.getfield 98, 3) := by decide +kernel
theorem dX5_run_24 : decode cX5_run 24 = .ok (.ifCond .eq 10, 3) := by decide +kernel
theorem dX5_run_27 : decode cX5_run 27 = .ok (.aload_n 2, 1) := by decide +kernel
theorem dX5_run_28 : decode cX5_run 28 = .ok (.invokevirtual 121, 3) := by decide +kernel
theorem dX5_run_31 : decode cX5_run 31 = .ok (.ifCond .ne 6, 3) := by decide +kernel
theorem dX5_run_34 : decode cX5_run 34 = .ok (.bipush (-3), 2) := by decide +kernel
theorem dX5_run_36 : decode cX5_run 36 = .ok (.ireturn, 1) := by decide +kernel
theorem dX5_run_37 : decode cX5_run 37 = .ok (.aload_n 0, 1) := by decide +kernel
theorem dX5_run_38 : decode cX5_run 38 = .ok (.getfield 124, 3) := by decide +kernel
theorem dX5_run_41 : decode cX5_run 41 = .ok (.bipush 100, 2) := by decide +kernel
theorem dX5_run_43 : decode cX5_run 43 = .ok (.if_icmp .lt 6, 3) := by decide +kernel
theorem dX5_run_46 : decode cX5_run 46 = .ok (.bipush (-4), 2) := by decide +kernel
theorem dX5_run_48 : decode cX5_run 48 = .ok (.ireturn, 1) := by decide +kernel
theorem dX5_run_49 : decode cX5_run 49 = .ok (.new 21, 3) := by decide +kernel
theorem dX5_run_52 : decode cX5_run 52 = .ok (.dup, 1) := by decide +kernel
theorem dX5_run_53 : decode cX5_run 53 = .ok (.iload_n 1, 1) := by decide +kernel
theorem dX5_run_54 : decode cX5_run 54 = .ok (.invokespecial 127, 3) := by decide +kernel
theorem dX5_run_57 : decode cX5_run 57 = .ok (.astore_n 3, 1) := by decide +kernel
theorem dX5_run_58 : decode cX5_run 58 = .ok (.aload_n 0, 1) := by decide +kernel
theorem dX5_run_59 : decode cX5_run 59 = .ok (.getfield 23, 3) := by decide +kernel
theorem dX5_run_62 : decode cX5_run 62 = .ok (.aload_n 0, 1) := by decide +kernel
theorem dX5_run_63 : decode cX5_run 63 = .ok (.getfield 124, 3) := by decide +kernel
theorem dX5_run_66 : decode cX5_run 66 = .ok (.aload_n 3, 1) := by decide +kernel
theorem dX5_run_67 : decode cX5_run 67 = .ok (.aastore, 1) := by decide +kernel
theorem dX5_run_68 : decode cX5_run 68 = .ok (.aload_n 2, 1) := by decide +kernel
theorem dX5_run_69 : decode cX5_run 69 = .ok (.aload_n 3, 1) := by decide +kernel
theorem dX5_run_70 : decode cX5_run 70 = .ok (.invokevirtual 129, 3) := by decide +kernel
theorem dX5_run_73 : decode cX5_run 73 = .ok (.aload_n 0, 1) := by decide +kernel
theorem dX5_run_74 : decode cX5_run 74 = .ok (.dup, 1) := by decide +kernel
theorem dX5_run_75 : decode cX5_run 75 = .ok (.getfield 124, 3) := by decide +kernel
theorem dX5_run_78 : decode cX5_run 78 = .ok (.dup_x1, 1) := by decide +kernel
theorem dX5_run_79 : decode cX5_run 79 = .ok (.iconst 1, 1) := by decide +kernel
theorem dX5_run_80 : decode cX5_run 80 = .ok (.iadd, 1) := by decide +kernel
theorem dX5_run_81 : decode cX5_run 81 = .ok (.putfield 124, 3) := by decide +kernel
theorem dX5_run_84 : decode cX5_run 84 = .ok (.ireturn, 1) := by decide +kernel
theorem dX5_tick_0 : decode cX5_tick 0 = .ok (.iload_n 1, 1) := by decide +kernel
theorem dX5_tick_1 : decode cX5_tick 1 = .ok (.iconst 1, 1) := by decide +kernel
theorem dX5_tick_2 : decode cX5_tick 2 = .ok (.sipush 200, 3) := by decide +kernel
theorem dX5_tick_5 : decode cX5_tick 5 = .ok (.invokestatic 35, 3) := by decide +kernel
theorem dX5_tick_8 : decode cX5_tick 8 = .ok (.ifCond .ne 6, 3) := by decide +kernel
theorem dX5_tick_11 : decode cX5_tick 11 = .ok (.bipush (-2), 2) := by decide +kernel
theorem dX5_tick_13 : decode cX5_tick 13 = .ok (.ireturn, 1) := by decide +kernel
theorem dX5_tick_14 : decode cX5_tick 14 = .ok (.iconst 0, 1) := by decide +kernel
theorem dX5_tick_15 : decode cX5_tick 15 = .ok (.istore_n 2, 1) := by decide +kernel
theorem dX5_tick_16 : decode cX5_tick 16 = .ok (.iload_n 2, 1) := by decide +kernel
theorem dX5_tick_17 : decode cX5_tick 17 = .ok (.iload_n 1, 1) := by decide +kernel
theorem dX5_tick_18 : decode cX5_tick 18 = .ok (.if_icmp .ge 31, 3) := by decide +kernel
theorem dX5_tick_21 : decode cX5_tick 21 = .ok (.iconst 0, 1) := by decide +kernel
theorem dX5_tick_22 : decode cX5_tick 22 = .ok (.istore_n 3, 1) := by decide +kernel
theorem dX5_tick_23 : decode cX5_tick 23 = .ok (.iload_n 3, 1) := by decide +kernel
theorem dX5_tick_24 : decode cX5_tick 24 = .ok (.iconst 3, 1) := by decide +kernel
theorem dX5_tick_25 : decode cX5_tick 25 = .ok (.if_icmp .ge 18, 3) := by decide +kernel
theorem dX5_tick_28 : decode cX5_tick 28 = .ok (.aload_n 0, 1) := by decide +kernel
theorem dX5_tick_29 : decode cX5_tick 29 = .ok (.getfield 17, 3) := by decide +kernel
theorem dX5_tick_32 : decode cX5_tick 32 = .ok (.iload_n 3, 1) := by decide +kernel
theorem dX5_tick_33 : decode cX5_tick 33 = .ok (.aaload, 1) := by decide +kernel
theorem dX5_tick_34 : decode cX5_tick 34 = .ok (.invokevirtual 133, 3) := by decide +kernel
theorem dX5_tick_37 : decode cX5_tick 37 = .ok (.iinc 3 1, 3) := by decide +kernel
theorem dX5_tick_40 : decode cX5_tick 40 = .ok (.goto (-17), 3) := by decide +kernel
theorem dX5_tick_43 : decode cX5_tick 43 = .ok (.iinc 2 1, 3) := by decide +kernel
theorem dX5_tick_46 : decode cX5_tick 46 = .ok (.goto (-30), 3) := by decide +kernel
theorem dX5_tick_49 : decode cX5_tick 49 = .ok (.aload_n 0, 1) := by decide +kernel
theorem dX5_tick_50 : decode cX5_tick 50 = .ok (.invokevirtual 136, 3) := by decide +kernel
theorem dX5_tick_53 : decode cX5_tick 53 = .ok (.ireturn, 1) := by decide +kernel
theorem dX5_stop_0 : decode cX5_stop 0 = .ok (.aload_n 0, 1) := by decide +kernel
theorem dX5_stop_1 : decode cX5_stop 1 = .ok (.iload_n 1, 1) := by decide +kernel
theorem dX5_stop_2 : decode cX5_stop 2 = .ok (.invokevirtual 83, 3) := by decide +kernel
theorem dX5_stop_5 : decode cX5_stop 5 = .ok (.astore_n 2, 1) := by decide +kernel
theorem dX5_stop_6 : decode cX5_stop 6 = .ok (.aload_n 2, 1) := by decide +kernel
theorem dX5_stop_7 : decode cX5_stop 7 = .ok (.ifnonnull 6, 3) := by decide +kernel
theorem dX5_stop_10 : decode cX5_stop 10 = .ok (.bipush (-2), 2) := by decide +kernel
theorem dX5_stop_12 : decode cX5_stop 12 = .ok (.ireturn, 1) := by decide +kernel
theorem dX5_stop_13 : decode cX5_stop 13 = .ok (.aload_n 2, 1) := by decide +kernel
theorem dX5_stop_14 : decode cX5_stop 14 = .ok (.invokevirtual 90, 3) := by decide +kernel
theorem dX5_stop_17 : decode cX5_stop 17 = .ok (.ifCond .ne 6, 3) := by decide +kernel
theorem dX5_stop_20 : decode cX5_stop 20 = .ok (.bipush (-3), 2) := by decide +kernel
theorem dX5_stop_22 : decode cX5_stop 22 = .ok (.ireturn, 1) := by decide +kernel
theorem dX5_stop_23 : decode cX5_stop 23 = .ok (.aload_n 2, 1) := by decide +kernel
theorem dX5_stop_24 : decode cX5_stop 24 = .ok (.getfield 139, 3) := by decide +kernel
theorem dX5_stop_27 : decode cX5_stop 27 = .ok (.istore_n 3, 1) := by decide +kernel
theorem dX5_stop_28 : decode cX5_stop 28 = .ok (.aload_n 2, 1) := by decide +kernel
theorem dX5_stop_29 : decode cX5_stop 29 = .ok (.iconst 0, 1) := by decide +kernel
theorem dX5_stop_30 : decode cX5_stop 30 = .ok (.invokevirtual 142, 3) := by decide +kernel
theorem dX5_stop_33 : decode cX5_stop 33 = .ok (.iload_n 3, 1) := by decide +kernel
theorem dX5_stop_34 : decode cX5_stop 34 = .ok (.ireturn, 1) := by decide +kernel
theorem dX5_survey_0 : decode cX5_survey 0 = .ok (.aload_n 0, 1) := by decide +kernel
theorem dX5_survey_1 : decode cX5_survey 1 = .ok (.iload_n 1, 1) := by decide +kernel
theorem dX5_survey_2 : decode cX5_survey 2 = .ok (.invokevirtual 83, 3) := by decide +kernel
theorem dX5_survey_5 : decode cX5_survey 5 = .ok (.astore_n 3, 1) := by decide +kernel
theorem dX5_survey_6 : decode cX5_survey 6 = .ok (.aload_n 3, 1) := by decide +kernel
theorem dX5_survey_7 : decode cX5_survey 7 = .ok (.ifnull 16, 3) := by decide +kernel
theorem dX5_survey_10 : decode cX5_survey 10 = .ok (.iload_n 2, 1) := by decide +kernel
theorem dX5_survey_11 : decode cX5_survey 11 = .ok (.sipush (-500), 3) := by decide +kernel
theorem dX5_survey_14 : decode cX5_survey 14 = .ok (.sipush 500, 3) := by decide +kernel
theorem dX5_survey_17 : decode cX5_survey 17 = .ok (.invokestatic 35, 3) := by decide +kernel
theorem dX5_survey_20 : decode cX5_survey 20 = .ok (.ifCond .ne 6, 3) := by decide +kernel
theorem dX5_survey_23 : decode cX5_survey 23 = .ok (.bipush (-2), 2) := by decide +kernel
theorem dX5_survey_25 : decode cX5_survey 25 = .ok (.ireturn, 1) := by decide +kernel
theorem dX5_survey_26 : decode cX5_survey 26 = .ok (.aload_n 3, 1) := by decide +kernel
theorem dX5_survey_27 : decode cX5_survey 27 = .ok (.invokevirtual 90, 3) := by decide +kernel
theorem dX5_survey_30 : decode cX5_survey 30 = .ok (.ifCond .eq 6, 3) := by decide +kernel
theorem dX5_survey_33 : decode cX5_survey 33 = .ok (.bipush (-3), 2) := by decide +kernel
theorem dX5_survey_35 : decode cX5_survey 35 = .ok (.ireturn, 1) := by decide +kernel
theorem dX5_survey_36 : decode cX5_survey 36 = .ok (.iload_n 2, 1) := by decide +kernel
theorem dX5_survey_37 : decode cX5_survey 37 = .ok (.aload_n 3, 1) := by decide +kernel
theorem dX5_survey_38 : decode cX5_survey 38 = .ok (.getfield 146, 3) := by decide +kernel
theorem dX5_survey_41 : decode cX5_survey 41 = .ok (.if_icmp .ne 7, 3) := by decide +kernel
theorem dX5_survey_44 : decode cX5_survey 44 = .ok (.iconst 0, 1) := by decide +kernel
theorem dX5_survey_45 : decode cX5_survey 45 = .ok (.goto 12, 3) := by decide +kernel
theorem dX5_survey_48 : decode cX5_survey 48 = .ok (.aload_n 0, 1) := by decide +kernel
theorem dX5_survey_49 : decode cX5_survey 49 = .ok (.iload_n 1, 1) := by decide +kernel
theorem dX5_survey_50 : decode cX5_survey 50 = .ok (.aload_n 3, 1) := by decide +kernel
theorem dX5_survey_51 : decode cX5_survey 51 = .ok (.getfield 149, 3) := by decide +kernel
theorem dX5_survey_54 : decode cX5_survey 54 = .ok (.invokevirtual 152, 3) := by decide +kernel
theorem dX5_survey_57 : decode cX5_survey 57 = .ok (.istore 4, 2) := by decide +kernel
theorem dX5_survey_59 : decode cX5_survey 59 = .ok (.aload_n 3, 1) := by decide +kernel
theorem dX5_survey_60 : decode cX5_survey 60 = .ok (.iload_n 2, 1) := by decide +kernel
theorem dX5_survey_61 : decode cX5_survey 61 = .ok (.putfield 146, 3) := by decide +kernel
theorem dX5_survey_64 : decode cX5_survey 64 = .ok (.aload_n 3, 1) := by decide +kernel
theorem dX5_survey_65 : decode cX5_survey 65 = .ok (.aload_n 0, 1) := by decide +kernel
theorem dX5_survey_66 : decode cX5_survey 66 = .ok (.getfield 124, 3) := by decide +kernel
theorem dX5_survey_69 : decode cX5_survey 69 = .ok (.putfield 149, 3) := by decide +kernel
theorem dX5_survey_72 : decode cX5_survey 72 = .ok (.iload 4, 2) := by decide +kernel
theorem dX5_survey_74 : decode cX5_survey 74 = .ok (.ireturn, 1) := by decide +kernel
theorem dX5_about_0 : decode cX5_about 0 = .ok (.aload_n 0, 1) := by decide +kernel
theorem dX5_about_1 : decode cX5_about 1 = .ok (.iload_n 1, 1) := by decide +kernel
theorem dX5_about_2 : decode cX5_about 2 = .ok (.invokevirtual 83, 3) := by decide +kernel
theorem dX5_about_5 : decode cX5_about 5 = .ok (.astore_n 3, 1) := by decide +kernel
theorem dX5_about_6 : decode cX5_about 6 = .ok (.aload_n 3, 1) := by decide +kernel
theorem dX5_about_7 : decode cX5_about 7 = .ok (.ifnull 13, 3) := by decide +kernel
theorem dX5_about_10 : decode cX5_about 10 = .ok (.iload_n 2, 1) := by decide +kernel
theorem dX5_about_11 : decode cX5_about 11 = .ok (.iconst 0, 1) := by decide +kernel
theorem dX5_about_12 : decode cX5_about 12 = .ok (.bipush 6, 2) := by decide +kernel
theorem dX5_about_14 : decode cX5_about 14 = .ok (.invokestatic 35, 3) := by decide +kernel
theorem dX5_about_17 : decode cX5_about 17 = .ok (.ifCond .ne 6, 3) := by decide +kernel
theorem dX5_about_20 : decode cX5_about 20 = .ok (.bipush (-2), 2) := by decide +kernel
theorem dX5_about_22 : decode cX5_about 22 = .ok (.ireturn, 1) := by decide +kernel
theorem dX5_about_23 : decode cX5_about 23 = .ok (.aload_n 3, 1) := by decide +kernel
theorem dX5_about_24 : decode cX5_about 24 = .ok (.iload_n 2, 1) := by decide +kernel
theorem dX5_about_25 : decode cX5_about 25 = .ok (.invokevirtual 156, 3) := by decide +kernel
theorem dX5_about_28 : decode cX5_about 28 = .ok (.ireturn, 1) := by decide +kernel
theorem dX5_runAt_0 : decode cX5_runAt 0 = .ok (.iload_n 1, 1) := by decide +kernel
theorem dX5_runAt_1 : decode cX5_runAt 1 = .ok (.ifCond .lt 12, 3) := by decide +kernel
theorem dX5_runAt_4 : decode cX5_runAt 4 = .ok (.iload_n 2, 1) := by decide +kernel
theorem dX5_runAt_5 : decode cX5_runAt 5 = .ok (.iconst 0, 1) := by decide +kernel
theorem dX5_runAt_6 : decode cX5_runAt 6 = .ok (.iconst 4, 1) := by decide +kernel
theorem dX5_runAt_7 : decode cX5_runAt 7 = .ok (.invokestatic 35, 3) := by decide +kernel
theorem dX5_runAt_10 : decode cX5_runAt 10 = .ok (.ifCond .ne 6, 3) := by decide +kernel
theorem dX5_runAt_13 : decode cX5_runAt 13 = .ok (.bipush (-2), 2) := by decide +kernel
theorem dX5_runAt_15 : decode cX5_runAt 15 = .ok (.ireturn, 1) := by decide +kernel
theorem dX5_runAt_16 : decode cX5_runAt 16 = .ok (.iload_n 1, 1) := by decide +kernel
theorem dX5_runAt_17 : decode cX5_runAt 17 = .ok (.aload_n 0, 1) := by decide +kernel
theorem dX5_runAt_18 : decode cX5_runAt 18 = .ok (.getfield 124, 3) := by decide +kernel
theorem dX5_runAt_21 : decode cX5_runAt 21 = .ok (.if_icmp .lt 5, 3) := by decide +kernel
theorem dX5_runAt_24 : decode cX5_runAt 24 = .ok (.iconst (-1), 1) := by decide +kernel
theorem dX5_runAt_25 : decode cX5_runAt 25 = .ok (.ireturn, 1) := by decide +kernel
theorem dX5_runAt_26 : decode cX5_runAt 26 = .ok (.aload_n 0, 1) := by decide +kernel
theorem dX5_runAt_27 : decode cX5_runAt 27 = .ok (.getfield 23, 3) := by decide +kernel
theorem dX5_runAt_30 : decode cX5_runAt 30 = .ok (.iload_n 1, 1) := by decide +kernel
theorem dX5_runAt_31 : decode cX5_runAt 31 = .ok (.aaload, 1) := by decide +kernel
theorem dX5_runAt_32 : decode cX5_runAt 32 = .ok (.iload_n 2, 1) := by decide +kernel
theorem dX5_runAt_33 : decode cX5_runAt 33 = .ok (.invokevirtual 157, 3) := by decide +kernel
theorem dX5_runAt_36 : decode cX5_runAt 36 = .ok (.ireturn, 1) := by decide +kernel
theorem dX5_paper_0 : decode cX5_paper 0 = .ok (.aload_n 0, 1) := by decide +kernel
theorem dX5_paper_1 : decode cX5_paper 1 = .ok (.iload_n 1, 1) := by decide +kernel
theorem dX5_paper_2 : decode cX5_paper 2 = .ok (.invokevirtual 46, 3) := by decide +kernel
theorem dX5_paper_5 : decode cX5_paper 5 = .ok (.astore 4, 2) := by decide +kernel
theorem dX5_paper_7 : decode cX5_paper 7 = .ok (.aload 4, 2) := by decide +kernel
theorem dX5_paper_9 : decode cX5_paper 9 = .ok (.ifnull 8, 3) := by decide +kernel
theorem dX5_paper_12 : decode cX5_paper 12 = .ok (.iload_n 2, 1) := by decide +kernel
theorem dX5_paper_13 : decode cX5_paper 13 = .ok (.iload_n 3, 1) := by decide +kernel
theorem dX5_paper_14 : decode cX5_paper 14 = .ok (.if_icmp .le 6, 3) := by decide +kernel
theorem dX5_paper_17 : decode cX5_paper 17 = .ok (.bipush (-2), 2) := by decide +kernel
theorem dX5_paper_19 : decode cX5_paper 19 = .ok (.ireturn, 1) := by decide +kernel
theorem dX5_paper_20 : decode cX5_paper 20 = .ok (.aload 4, 2) := by decide +kernel
theorem dX5_paper_22 : decode cX5_paper 22 = .ok (.getfield 158, 3) := by decide +kernel
theorem dX5_paper_25 : decode cX5_paper 25 = .ok (.astore 5, 2) := by decide +kernel
theorem dX5_paper_27 : decode cX5_paper 27 = .ok (.aload 5, 2) := by decide +kernel
theorem dX5_paper_29 : decode cX5_paper 29 = .ok (.ifnonnull 6, 3) := by decide +kernel
theorem dX5_paper_32 : decode cX5_paper 32 = .ok (.bipush (-10), 2) := by decide +kernel
theorem dX5_paper_34 : decode cX5_paper 34 = .ok (.ireturn, 1) := by decide +kernel
theorem dX5_paper_35 : decode cX5_paper 35 = .ok (.aload 5, 2) := by decide +kernel
theorem dX5_paper_37 : decode cX5_paper 37 = .ok (.getfield 162, 3) := by decide +kernel
theorem dX5_paper_40 : decode cX5_paper 40 = .ok (.ifCond .eq 6, 3) := by decide +kernel
theorem dX5_paper_43 : decode cX5_paper 43 = .ok (.bipush (-11), 2) := by decide +kernel
theorem dX5_paper_45 : decode cX5_paper 45 = .ok (.ireturn, 1) := by decide +kernel
theorem dX5_paper_46 : decode cX5_paper 46 = .ok (.aload 5, 2) := by decide +kernel
theorem dX5_paper_48 : decode cX5_paper 48 = .ok (.invokevirtual 165, 3) := by decide +kernel
theorem dX5_paper_51 : decode cX5_paper 51 = .ok (.ifCond .ne 6, 3) := by decide +kernel
theorem dX5_paper_54 : decode cX5_paper 54 = .ok (.bipush (-12), 2) := by decide +kernel
theorem dX5_paper_56 : decode cX5_paper 56 = .ok (.ireturn, 1) := by decide +kernel
theorem dX5_paper_57 : decode cX5_paper 57 = .ok (.aload 4, 2) := by decide +kernel
theorem dX5_paper_59 : decode cX5_paper 59 = .ok (.getfield 62, 3) := by decide +kernel
theorem dX5_paper_62 : decode cX5_paper 62 = .ok (.iconst 0, 1) := by decide +kernel
theorem dX5_paper_63 : decode cX5_paper 63 = .ok (.aaload, 1) := by decide +kernel
theorem dX5_paper_64 : decode cX5_paper 64 = .ok (.astore 6, 2) := by decide +kernel
theorem dX5_paper_66 : decode cX5_paper 66 = .ok (.aload 6, 2) := by decide +kernel
theorem dX5_paper_68 : decode cX5_paper 68 = .ok (.invokevirtual 168, 3) := by decide +kernel
theorem dX5_paper_71 : decode cX5_paper 71 = .ok (.iload_n 2, 1) := by decide +kernel
theorem dX5_paper_72 : decode cX5_paper 72 = .ok (.iload_n 3, 1) := by decide +kernel
theorem dX5_paper_73 : decode cX5_paper 73 = .ok (.invokestatic 35, 3) := by decide +kernel
theorem dX5_paper_76 : decode cX5_paper 76 = .ok (.ifCond .ne 6, 3) := by decide +kernel
theorem dX5_paper_79 : decode cX5_paper 79 = .ok (.bipush (-13), 2) := by decide +kernel
theorem dX5_paper_81 : decode cX5_paper 81 = .ok (.ireturn, 1) := by decide +kernel
theorem dX5_paper_82 : decode cX5_paper 82 = .ok (.aload 6, 2) := by decide +kernel
theorem dX5_paper_84 : decode cX5_paper 84 = .ok (.getfield 171, 3) := by decide +kernel
theorem dX5_paper_87 : decode cX5_paper 87 = .ok (.sipush 500, 3) := by decide +kernel
theorem dX5_paper_90 : decode cX5_paper 90 = .ok (.if_icmp .le 8, 3) := by decide +kernel
theorem dX5_paper_93 : decode cX5_paper 93 = .ok (.bipush (-14), 2) := by decide +kernel
theorem dX5_paper_95 : decode cX5_paper 95 = .ok (.goto 4, 3) := by decide +kernel
theorem dX5_paper_98 : decode cX5_paper 98 = .ok (.iconst 1, 1) := by decide +kernel
theorem dX5_paper_99 : decode cX5_paper 99 = .ok (.ireturn, 1) := by decide +kernel
theorem dX5_job_0 : decode cX5_job 0 = .ok (.iload_n 1, 1) := by decide +kernel
theorem dX5_job_1 : decode cX5_job 1 = .ok (.iconst 1, 1) := by decide +kernel
theorem dX5_job_2 : decode cX5_job 2 = .ok (.sipush 1000, 3) := by decide +kernel
theorem dX5_job_5 : decode cX5_job 5 = .ok (.invokestatic 35, 3) := by decide +kernel
theorem dX5_job_8 : decode cX5_job 8 = .ok (.ifCond .eq 14, 3) := by decide +kernel
theorem dX5_job_11 : decode cX5_job 11 = .ok (.iload_n 2, 1) := by decide +kernel
theorem dX5_job_12 : decode cX5_job 12 = .ok (.iconst 0, 1) := by decide +kernel
theorem dX5_job_13 : decode cX5_job 13 = .ok (.sipush 10000, 3) := by decide +kernel
theorem dX5_job_16 : decode cX5_job 16 = .ok (.invokestatic 35, 3) := by decide +kernel
theorem dX5_job_19 : decode cX5_job 19 = .ok (.ifCond .ne 6, 3) := by decide +kernel
theorem dX5_job_22 : decode cX5_job 22 = .ok (.bipush (-2), 2) := by decide +kernel
theorem dX5_job_24 : decode cX5_job 24 = .ok (.ireturn, 1) := by decide +kernel
theorem dX5_job_25 : decode cX5_job 25 = .ok (.aload_n 0, 1) := by decide +kernel
theorem dX5_job_26 : decode cX5_job 26 = .ok (.getfield 30, 3) := by decide +kernel
theorem dX5_job_29 : decode cX5_job 29 = .ok (.iload_n 1, 1) := by decide +kernel
theorem dX5_job_30 : decode cX5_job 30 = .ok (.iload_n 2, 1) := by decide +kernel
theorem dX5_job_31 : decode cX5_job 31 = .ok (.invokevirtual 174, 3) := by decide +kernel
theorem dX5_job_34 : decode cX5_job 34 = .ok (.ireturn, 1) := by decide +kernel
theorem dX5_clearJobs_0 : decode cX5_clearJobs 0 = .ok (.aload_n 0, 1) := by decide +kernel
theorem dX5_clearJobs_1 : decode cX5_clearJobs 1 = .ok (.getfield 30, 3) := by decide +kernel
theorem dX5_clearJobs_4 : decode cX5_clearJobs 4 = .ok (.invokevirtual 177, 3) := by decide +kernel
theorem dX5_clearJobs_7 : decode cX5_clearJobs 7 = .ok (.ireturn, 1) := by decide +kernel
theorem dX5_lateness_0 : decode cX5_lateness 0 = .ok (.aload_n 0, 1) := by decide +kernel
theorem dX5_lateness_1 : decode cX5_lateness 1 = .ok (.getfield 30, 3) := by decide +kernel
theorem dX5_lateness_4 : decode cX5_lateness 4 = .ok (.invokevirtual 180, 3) := by decide +kernel
theorem dX5_lateness_7 : decode cX5_lateness 7 = .ok (.ireturn, 1) := by decide +kernel
theorem dX5_order_0 : decode cX5_order 0 = .ok (.iload_n 1, 1) := by decide +kernel
theorem dX5_order_1 : decode cX5_order 1 = .ok (.iconst 0, 1) := by decide +kernel
theorem dX5_order_2 : decode cX5_order 2 = .ok (.aload_n 0, 1) := by decide +kernel
theorem dX5_order_3 : decode cX5_order 3 = .ok (.getfield 30, 3) := by decide +kernel
theorem dX5_order_6 : decode cX5_order 6 = .ok (.getfield 183, 3) := by decide +kernel
theorem dX5_order_9 : decode cX5_order 9 = .ok (.iconst 1, 1) := by decide +kernel
theorem dX5_order_10 : decode cX5_order 10 = .ok (.isub, 1) := by decide +kernel
theorem dX5_order_11 : decode cX5_order 11 = .ok (.invokestatic 35, 3) := by decide +kernel
theorem dX5_order_14 : decode cX5_order 14 = .ok (.ifCond .eq 15, 3) := by decide +kernel
theorem dX5_order_17 : decode cX5_order 17 = .ok (.aload_n 0, 1) := by decide +kernel
theorem dX5_order_18 : decode cX5_order 18 = .ok (.getfield 30, 3) := by decide +kernel
theorem dX5_order_21 : decode cX5_order 21 = .ok (.getfield 186, 3) := by decide +kernel
theorem dX5_order_24 : decode cX5_order 24 = .ok (.iload_n 1, 1) := by decide +kernel
theorem dX5_order_25 : decode cX5_order 25 = .ok (.iaload, 1) := by decide +kernel
theorem dX5_order_26 : decode cX5_order 26 = .ok (.goto 4, 3) := by decide +kernel
theorem dX5_order_29 : decode cX5_order 29 = .ok (.iconst (-1), 1) := by decide +kernel
theorem dX5_order_30 : decode cX5_order 30 = .ok (.ireturn, 1) := by decide +kernel
theorem dX5_count_0 : decode cX5_count 0 = .ok (.iload_n 1, 1) := by decide +kernel
theorem dX5_count_1 : decode cX5_count 1 = .ok (.tableswitch 63 0 4 #[35, 40, 45, 50, 58], 35) := by decide +kernel
theorem dX5_count_36 : decode cX5_count 36 = .ok (.aload_n 0, 1) := by decide +kernel
theorem dX5_count_37 : decode cX5_count 37 = .ok (.getfield 39, 3) := by decide +kernel
theorem dX5_count_40 : decode cX5_count 40 = .ok (.ireturn, 1) := by decide +kernel
theorem dX5_count_41 : decode cX5_count 41 = .ok (.aload_n 0, 1) := by decide +kernel
theorem dX5_count_42 : decode cX5_count 42 = .ok (.getfield 124, 3) := by decide +kernel
theorem dX5_count_45 : decode cX5_count 45 = .ok (.ireturn, 1) := by decide +kernel
theorem dX5_count_46 : decode cX5_count 46 = .ok (.aload_n 0, 1) := by decide +kernel
theorem dX5_count_47 : decode cX5_count 47 = .ok (.invokevirtual 136, 3) := by decide +kernel
theorem dX5_count_50 : decode cX5_count 50 = .ok (.ireturn, 1) := by decide +kernel
theorem dX5_count_51 : decode cX5_count 51 = .ok (.aload_n 0, 1) := by decide +kernel
theorem dX5_count_52 : decode cX5_count 52 = .ok (.getfield 30, 3) := by decide +kernel
theorem dX5_count_55 : decode cX5_count 55 = .ok (.getfield 183, 3) := by decide +kernel
theorem dX5_count_58 : decode cX5_count 58 = .ok (.ireturn, 1) := by decide +kernel
theorem dX5_count_59 : decode cX5_count 59 = .ok (.aload_n 0, 1) := by decide +kernel
theorem dX5_count_60 : decode cX5_count 60 = .ok (.invokevirtual 189, 3) := by decide +kernel
theorem dX5_count_63 : decode cX5_count 63 = .ok (.ireturn, 1) := by decide +kernel
theorem dX5_count_64 : decode cX5_count 64 = .ok (.bipush (-2), 2) := by decide +kernel
theorem dX5_count_66 : decode cX5_count 66 = .ok (.ireturn, 1) := by decide +kernel
theorem dX5_digest_0 : decode cX5_digest 0 = .ok (.ldc2_w 192, 3) := by decide +kernel
theorem dX5_digest_3 : decode cX5_digest 3 = .ok (.lstore_n 1, 1) := by decide +kernel
theorem dX5_digest_4 : decode cX5_digest 4 = .ok (.iconst 0, 1) := by decide +kernel
theorem dX5_digest_5 : decode cX5_digest 5 = .ok (.istore_n 3, 1) := by decide +kernel
theorem dX5_digest_6 : decode cX5_digest 6 = .ok (.iload_n 3, 1) := by decide +kernel
theorem dX5_digest_7 : decode cX5_digest 7 = .ok (.iconst 4, 1) := by decide +kernel
theorem dX5_digest_8 : decode cX5_digest 8 = .ok (.if_icmp .gt 22, 3) := by decide +kernel
theorem dX5_digest_11 : decode cX5_digest 11 = .ok (.ldc2_w 194, 3) := by decide +kernel
theorem dX5_digest_14 : decode cX5_digest 14 = .ok (.lload_n 1, 1) := by decide +kernel
theorem dX5_digest_15 : decode cX5_digest 15 = .ok (.lmul, 1) := by decide +kernel
theorem dX5_digest_16 : decode cX5_digest 16 = .ok (.aload_n 0, 1) := by decide +kernel
theorem dX5_digest_17 : decode cX5_digest 17 = .ok (.iload_n 3, 1) := by decide +kernel
theorem dX5_digest_18 : decode cX5_digest 18 = .ok (.invokevirtual 196, 3) := by decide +kernel
theorem dX5_digest_21 : decode cX5_digest 21 = .ok (.i2l, 1) := by decide +kernel
theorem dX5_digest_22 : decode cX5_digest 22 = .ok (.ladd, 1) := by decide +kernel
theorem dX5_digest_23 : decode cX5_digest 23 = .ok (.lstore_n 1, 1) := by decide +kernel
theorem dX5_digest_24 : decode cX5_digest 24 = .ok (.iinc 3 1, 3) := by decide +kernel
theorem dX5_digest_27 : decode cX5_digest 27 = .ok (.goto (-21), 3) := by decide +kernel
theorem dX5_digest_30 : decode cX5_digest 30 = .ok (.iconst 0, 1) := by decide +kernel
theorem dX5_digest_31 : decode cX5_digest 31 = .ok (.istore_n 3, 1) := by decide +kernel
theorem dX5_digest_32 : decode cX5_digest 32 = .ok (.iload_n 3, 1) := by decide +kernel
theorem dX5_digest_33 : decode cX5_digest 33 = .ok (.aload_n 0, 1) := by decide +kernel
theorem dX5_digest_34 : decode cX5_digest 34 = .ok (.getfield 39, 3) := by decide +kernel
theorem dX5_digest_37 : decode cX5_digest 37 = .ok (.if_icmp .ge 20, 3) := by decide +kernel
theorem dX5_digest_40 : decode cX5_digest 40 = .ok (.aload_n 0, 1) := by decide +kernel
theorem dX5_digest_41 : decode cX5_digest 41 = .ok (.getfield 11, 3) := by decide +kernel
theorem dX5_digest_44 : decode cX5_digest 44 = .ok (.iload_n 3, 1) := by decide +kernel
theorem dX5_digest_45 : decode cX5_digest 45 = .ok (.aaload, 1) := by decide +kernel
theorem dX5_digest_46 : decode cX5_digest 46 = .ok (.lload_n 1, 1) := by decide +kernel
theorem dX5_digest_47 : decode cX5_digest 47 = .ok (.invokevirtual 199, 3) := by decide +kernel
theorem dX5_digest_50 : decode cX5_digest 50 = .ok (.lstore_n 1, 1) := by decide +kernel
theorem dX5_digest_51 : decode cX5_digest 51 = .ok (.iinc 3 1, 3) := by decide +kernel
theorem dX5_digest_54 : decode cX5_digest 54 = .ok (.goto (-22), 3) := by decide +kernel
theorem dX5_digest_57 : decode cX5_digest 57 = .ok (.iconst 0, 1) := by decide +kernel
theorem dX5_digest_58 : decode cX5_digest 58 = .ok (.istore_n 3, 1) := by decide +kernel
theorem dX5_digest_59 : decode cX5_digest 59 = .ok (.iload_n 3, 1) := by decide +kernel
theorem dX5_digest_60 : decode cX5_digest 60 = .ok (.iconst 3, 1) := by decide +kernel
theorem dX5_digest_61 : decode cX5_digest 61 = .ok (.if_icmp .ge 20, 3) := by decide +kernel
theorem dX5_digest_64 : decode cX5_digest 64 = .ok (.aload_n 0, 1) := by decide +kernel
theorem dX5_digest_65 : decode cX5_digest 65 = .ok (.getfield 17, 3) := by decide +kernel
theorem dX5_digest_68 : decode cX5_digest 68 = .ok (.iload_n 3, 1) := by decide +kernel
theorem dX5_digest_69 : decode cX5_digest 69 = .ok (.aaload, 1) := by decide +kernel
theorem dX5_digest_70 : decode cX5_digest 70 = .ok (.lload_n 1, 1) := by decide +kernel
theorem dX5_digest_71 : decode cX5_digest 71 = .ok (.invokevirtual 203, 3) := by decide +kernel
theorem dX5_digest_74 : decode cX5_digest 74 = .ok (.lstore_n 1, 1) := by decide +kernel
theorem dX5_digest_75 : decode cX5_digest 75 = .ok (.iinc 3 1, 3) := by decide +kernel
theorem dX5_digest_78 : decode cX5_digest 78 = .ok (.goto (-19), 3) := by decide +kernel
theorem dX5_digest_81 : decode cX5_digest 81 = .ok (.iconst 0, 1) := by decide +kernel
theorem dX5_digest_82 : decode cX5_digest 82 = .ok (.istore_n 3, 1) := by decide +kernel
theorem dX5_digest_83 : decode cX5_digest 83 = .ok (.iload_n 3, 1) := by decide +kernel
theorem dX5_digest_84 : decode cX5_digest 84 = .ok (.aload_n 0, 1) := by decide +kernel
theorem dX5_digest_85 : decode cX5_digest 85 = .ok (.getfield 124, 3) := by decide +kernel
theorem dX5_digest_88 : decode cX5_digest 88 = .ok (.if_icmp .ge 20, 3) := by decide +kernel
theorem dX5_digest_91 : decode cX5_digest 91 = .ok (.aload_n 0, 1) := by decide +kernel
theorem dX5_digest_92 : decode cX5_digest 92 = .ok (.getfield 23, 3) := by decide +kernel
theorem dX5_digest_95 : decode cX5_digest 95 = .ok (.iload_n 3, 1) := by decide +kernel
theorem dX5_digest_96 : decode cX5_digest 96 = .ok (.aaload, 1) := by decide +kernel
theorem dX5_digest_97 : decode cX5_digest 97 = .ok (.lload_n 1, 1) := by decide +kernel
theorem dX5_digest_98 : decode cX5_digest 98 = .ok (.invokevirtual 204, 3) := by decide +kernel
theorem dX5_digest_101 : decode cX5_digest 101 = .ok (.lstore_n 1, 1) := by decide +kernel
theorem dX5_digest_102 : decode cX5_digest 102 = .ok (.iinc 3 1, 3) := by decide +kernel
theorem dX5_digest_105 : decode cX5_digest 105 = .ok (.goto (-22), 3) := by decide +kernel
theorem dX5_digest_108 : decode cX5_digest 108 = .ok (.lload_n 1, 1) := by decide +kernel
theorem dX5_digest_109 : decode cX5_digest 109 = .ok (.lreturn, 1) := by decide +kernel
theorem dX5_within_0 : decode cX5_within 0 = .ok (.iload_n 0, 1) := by decide +kernel
theorem dX5_within_1 : decode cX5_within 1 = .ok (.iload_n 1, 1) := by decide +kernel
theorem dX5_within_2 : decode cX5_within 2 = .ok (.if_icmp .lt 12, 3) := by decide +kernel
theorem dX5_within_5 : decode cX5_within 5 = .ok (.iload_n 0, 1) := by decide +kernel
theorem dX5_within_6 : decode cX5_within 6 = .ok (.iload_n 2, 1) := by decide +kernel
theorem dX5_within_7 : decode cX5_within 7 = .ok (.if_icmp .gt 7, 3) := by decide +kernel
theorem dX5_within_10 : decode cX5_within 10 = .ok (.iconst 1, 1) := by decide +kernel
theorem dX5_within_11 : decode cX5_within 11 = .ok (.goto 4, 3) := by decide +kernel
theorem dX5_within_14 : decode cX5_within 14 = .ok (.iconst 0, 1) := by decide +kernel
theorem dX5_within_15 : decode cX5_within 15 = .ok (.ireturn, 1) := by decide +kernel
theorem dX5_lineIsAsTold_0 : decode cX5_lineIsAsTold 0 = .ok (.iload_n 0, 1) := by decide +kernel
theorem dX5_lineIsAsTold_1 : decode cX5_lineIsAsTold 1 = .ok (.iconst 0, 1) := by decide +kernel
theorem dX5_lineIsAsTold_2 : decode cX5_lineIsAsTold 2 = .ok (.iconst 3, 1) := by decide +kernel
theorem dX5_lineIsAsTold_3 : decode cX5_lineIsAsTold 3 = .ok (.invokestatic 35, 3) := by decide +kernel
theorem dX5_lineIsAsTold_6 : decode cX5_lineIsAsTold 6 = .ok (.ifCond .eq 46, 3) := by decide +kernel
theorem dX5_lineIsAsTold_9 : decode cX5_lineIsAsTold 9 = .ok (.iload_n 0, 1) := by decide +kernel
theorem dX5_lineIsAsTold_10 : decode cX5_lineIsAsTold 10 = .ok (.iconst 3, 1) := by decide +kernel
theorem dX5_lineIsAsTold_11 : decode cX5_lineIsAsTold 11 = .ok (.if_icmp .eq 16, 3) := by decide +kernel
theorem dX5_lineIsAsTold_14 : decode cX5_lineIsAsTold 14 = .ok (.iload_n 1, 1) := by decide +kernel
theorem dX5_lineIsAsTold_15 : decode cX5_lineIsAsTold 15 = .ok (.sipush 200, 3) := by decide +kernel
theorem dX5_lineIsAsTold_18 : decode cX5_lineIsAsTold 18 = .ok (.sipush 11000, 3) := by decide +kernel
theorem dX5_lineIsAsTold_21 : decode cX5_lineIsAsTold 21 = .ok (.invokestatic 35, 3) := by decide +kernel
theorem dX5_lineIsAsTold_24 : decode cX5_lineIsAsTold 24 = .ok (.ifCond .eq 28, 3) := by decide +kernel
theorem dX5_lineIsAsTold_27 : decode cX5_lineIsAsTold 27 = .ok (.iload_n 2, 1) := by decide +kernel
theorem dX5_lineIsAsTold_28 : decode cX5_lineIsAsTold 28 = .ok (.iconst 1, 1) := by decide +kernel
theorem dX5_lineIsAsTold_29 : decode cX5_lineIsAsTold 29 = .ok (.iload_n 0, 1) := by decide +kernel
theorem dX5_lineIsAsTold_30 : decode cX5_lineIsAsTold 30 = .ok (.ifCond .ne 9, 3) := by decide +kernel
theorem dX5_lineIsAsTold_33 : decode cX5_lineIsAsTold 33 = .ok (.sipush 1000, 3) := by decide +kernel
theorem dX5_lineIsAsTold_36 : decode cX5_lineIsAsTold 36 = .ok (.goto 6, 3) := by decide +kernel
theorem dX5_lineIsAsTold_39 : decode cX5_lineIsAsTold 39 = .ok (.sipush 500, 3) := by decide +kernel
theorem dX5_lineIsAsTold_42 : decode cX5_lineIsAsTold 42 = .ok (.invokestatic 35, 3) := by decide +kernel
theorem dX5_lineIsAsTold_45 : decode cX5_lineIsAsTold 45 = .ok (.ifCond .eq 7, 3) := by decide +kernel
theorem dX5_lineIsAsTold_48 : decode cX5_lineIsAsTold 48 = .ok (.iconst 1, 1) := by decide +kernel
theorem dX5_lineIsAsTold_49 : decode cX5_lineIsAsTold 49 = .ok (.goto 4, 3) := by decide +kernel
theorem dX5_lineIsAsTold_52 : decode cX5_lineIsAsTold 52 = .ok (.iconst 0, 1) := by decide +kernel
theorem dX5_lineIsAsTold_53 : decode cX5_lineIsAsTold 53 = .ok (.ireturn, 1) := by decide +kernel
theorem dX5_partAt_0 : decode cX5_partAt 0 = .ok (.iload_n 1, 1) := by decide +kernel
theorem dX5_partAt_1 : decode cX5_partAt 1 = .ok (.iconst 0, 1) := by decide +kernel
theorem dX5_partAt_2 : decode cX5_partAt 2 = .ok (.aload_n 0, 1) := by decide +kernel
theorem dX5_partAt_3 : decode cX5_partAt 3 = .ok (.getfield 39, 3) := by decide +kernel
theorem dX5_partAt_6 : decode cX5_partAt 6 = .ok (.iconst 1, 1) := by decide +kernel
theorem dX5_partAt_7 : decode cX5_partAt 7 = .ok (.isub, 1) := by decide +kernel
theorem dX5_partAt_8 : decode cX5_partAt 8 = .ok (.invokestatic 35, 3) := by decide +kernel
theorem dX5_partAt_11 : decode cX5_partAt 11 = .ok (.ifCond .eq 12, 3) := by decide +kernel
theorem dX5_partAt_14 : decode cX5_partAt 14 = .ok (.aload_n 0, 1) := by decide +kernel
theorem dX5_partAt_15 : decode cX5_partAt 15 = .ok (.getfield 11, 3) := by decide +kernel
theorem dX5_partAt_18 : decode cX5_partAt 18 = .ok (.iload_n 1, 1) := by decide +kernel
theorem dX5_partAt_19 : decode cX5_partAt 19 = .ok (.aaload, 1) := by decide +kernel
theorem dX5_partAt_20 : decode cX5_partAt 20 = .ok (.goto 4, 3) := by decide +kernel
theorem dX5_partAt_23 : decode cX5_partAt 23 = .ok (.aconst_null, 1) := by decide +kernel
theorem dX5_partAt_24 : decode cX5_partAt 24 = .ok (.areturn, 1) := by decide +kernel
theorem dX5_furnaceAt_0 : decode cX5_furnaceAt 0 = .ok (.iload_n 1, 1) := by decide +kernel
theorem dX5_furnaceAt_1 : decode cX5_furnaceAt 1 = .ok (.iconst 0, 1) := by decide +kernel
theorem dX5_furnaceAt_2 : decode cX5_furnaceAt 2 = .ok (.iconst 2, 1) := by decide +kernel
theorem dX5_furnaceAt_3 : decode cX5_furnaceAt 3 = .ok (.invokestatic 35, 3) := by decide +kernel
theorem dX5_furnaceAt_6 : decode cX5_furnaceAt 6 = .ok (.ifCond .eq 12, 3) := by decide +kernel
theorem dX5_furnaceAt_9 : decode cX5_furnaceAt 9 = .ok (.aload_n 0, 1) := by decide +kernel
theorem dX5_furnaceAt_10 : decode cX5_furnaceAt 10 = .ok (.getfield 17, 3) := by decide +kernel
theorem dX5_furnaceAt_13 : decode cX5_furnaceAt 13 = .ok (.iload_n 1, 1) := by decide +kernel
theorem dX5_furnaceAt_14 : decode cX5_furnaceAt 14 = .ok (.aaload, 1) := by decide +kernel
theorem dX5_furnaceAt_15 : decode cX5_furnaceAt 15 = .ok (.goto 4, 3) := by decide +kernel
theorem dX5_furnaceAt_18 : decode cX5_furnaceAt 18 = .ok (.aconst_null, 1) := by decide +kernel
theorem dX5_furnaceAt_19 : decode cX5_furnaceAt 19 = .ok (.areturn, 1) := by decide +kernel
theorem dX5_furnacesRunning_0 : decode cX5_furnacesRunning 0 = .ok (.iconst 0, 1) := by decide +kernel
theorem dX5_furnacesRunning_1 : decode cX5_furnacesRunning 1 = .ok (.istore_n 1, 1) := by decide +kernel
theorem dX5_furnacesRunning_2 : decode cX5_furnacesRunning 2 = .ok (.iconst 0, 1) := by decide +kernel
theorem dX5_furnacesRunning_3 : decode cX5_furnacesRunning 3 = .ok (.istore_n 2, 1) := by decide +kernel
theorem dX5_furnacesRunning_4 : decode cX5_furnacesRunning 4 = .ok (.iload_n 2, 1) := by decide +kernel
theorem dX5_furnacesRunning_5 : decode cX5_furnacesRunning 5 = .ok (.iconst 3, 1) := by decide +kernel
theorem dX5_furnacesRunning_6 : decode cX5_furnacesRunning 6 = .ok (.if_icmp .ge 24, 3) := by decide +kernel
theorem dX5_furnacesRunning_9 : decode cX5_furnacesRunning 9 = .ok (.aload_n 0, 1) := by decide +kernel
theorem dX5_furnacesRunning_10 : decode cX5_furnacesRunning 10 = .ok (.getfield 17, 3) := by decide +kernel
theorem dX5_furnacesRunning_13 : decode cX5_furnacesRunning 13 = .ok (.iload_n 2, 1) := by decide +kernel
theorem dX5_furnacesRunning_14 : decode cX5_furnacesRunning 14 = .ok (.aaload, 1) := by decide +kernel
theorem dX5_furnacesRunning_15 : decode cX5_furnacesRunning 15 = .ok (.invokevirtual 90, 3) := by decide +kernel
theorem dX5_furnacesRunning_18 : decode cX5_furnacesRunning 18 = .ok (.ifCond .eq 6, 3) := by decide +kernel
theorem dX5_furnacesRunning_21 : decode cX5_furnacesRunning 21 = .ok (.iinc 1 1, 3) := by decide +kernel
theorem dX5_furnacesRunning_24 : decode cX5_furnacesRunning 24 = .ok (.iinc 2 1, 3) := by decide +kernel
theorem dX5_furnacesRunning_27 : decode cX5_furnacesRunning 27 = .ok (.goto (-23), 3) := by decide +kernel
theorem dX5_furnacesRunning_30 : decode cX5_furnacesRunning 30 = .ok (.iload_n 1, 1) := by decide +kernel
theorem dX5_furnacesRunning_31 : decode cX5_furnacesRunning 31 = .ok (.ireturn, 1) := by decide +kernel
theorem dX5_doubtRuns_0 : decode cX5_doubtRuns 0 = .ok (.iconst 0, 1) := by decide +kernel
theorem dX5_doubtRuns_1 : decode cX5_doubtRuns 1 = .ok (.istore_n 3, 1) := by decide +kernel
theorem dX5_doubtRuns_2 : decode cX5_doubtRuns 2 = .ok (.iload_n 2, 1) := by decide +kernel
theorem dX5_doubtRuns_3 : decode cX5_doubtRuns 3 = .ok (.istore 4, 2) := by decide +kernel
theorem dX5_doubtRuns_5 : decode cX5_doubtRuns 5 = .ok (.iload 4, 2) := by decide +kernel
theorem dX5_doubtRuns_7 : decode cX5_doubtRuns 7 = .ok (.aload_n 0, 1) := by decide +kernel
theorem dX5_doubtRuns_8 : decode cX5_doubtRuns 8 = .ok (.getfield 124, 3) := by decide +kernel
theorem dX5_doubtRuns_11 : decode cX5_doubtRuns 11 = .ok (.if_icmp .ge 37, 3) := by decide +kernel
theorem dX5_doubtRuns_14 : decode cX5_doubtRuns 14 = .ok (.aload_n 0, 1) := by decide +kernel
theorem dX5_doubtRuns_15 : decode cX5_doubtRuns 15 = .ok (.getfield 23, 3) := by decide +kernel
theorem dX5_doubtRuns_18 : decode cX5_doubtRuns 18 = .ok (.iload 4, 2) := by decide +kernel
theorem dX5_doubtRuns_20 : decode cX5_doubtRuns 20 = .ok (.aaload, 1) := by decide +kernel
theorem dX5_doubtRuns_21 : decode cX5_doubtRuns 21 = .ok (.getfield 205, 3) := by decide +kernel
theorem dX5_doubtRuns_24 : decode cX5_doubtRuns 24 = .ok (.iload_n 1, 1) := by decide +kernel
theorem dX5_doubtRuns_25 : decode cX5_doubtRuns 25 = .ok (.if_icmp .ne 17, 3) := by decide +kernel
theorem dX5_doubtRuns_28 : decode cX5_doubtRuns 28 = .ok (.aload_n 0, 1) := by decide +kernel
theorem dX5_doubtRuns_29 : decode cX5_doubtRuns 29 = .ok (.getfield 23, 3) := by decide +kernel
theorem dX5_doubtRuns_32 : decode cX5_doubtRuns 32 = .ok (.iload 4, 2) := by decide +kernel
theorem dX5_doubtRuns_34 : decode cX5_doubtRuns 34 = .ok (.aaload, 1) := by decide +kernel
theorem dX5_doubtRuns_35 : decode cX5_doubtRuns 35 = .ok (.iconst 1, 1) := by decide +kernel
theorem dX5_doubtRuns_36 : decode cX5_doubtRuns 36 = .ok (.putfield 162, 3) := by decide +kernel
theorem dX5_doubtRuns_39 : decode cX5_doubtRuns 39 = .ok (.iinc 3 1, 3) := by decide +kernel
theorem dX5_doubtRuns_42 : decode cX5_doubtRuns 42 = .ok (.iinc 4 1, 3) := by decide +kernel
theorem dX5_doubtRuns_45 : decode cX5_doubtRuns 45 = .ok (.goto (-40), 3) := by decide +kernel
theorem dX5_doubtRuns_48 : decode cX5_doubtRuns 48 = .ok (.iload_n 3, 1) := by decide +kernel
theorem dX5_doubtRuns_49 : decode cX5_doubtRuns 49 = .ok (.ireturn, 1) := by decide +kernel
theorem dX5_runsInDoubt_0 : decode cX5_runsInDoubt 0 = .ok (.iconst 0, 1) := by decide +kernel
theorem dX5_runsInDoubt_1 : decode cX5_runsInDoubt 1 = .ok (.istore_n 1, 1) := by decide +kernel
theorem dX5_runsInDoubt_2 : decode cX5_runsInDoubt 2 = .ok (.iconst 0, 1) := by decide +kernel
theorem dX5_runsInDoubt_3 : decode cX5_runsInDoubt 3 = .ok (.istore_n 2, 1) := by decide +kernel
theorem dX5_runsInDoubt_4 : decode cX5_runsInDoubt 4 = .ok (.iload_n 2, 1) := by decide +kernel
theorem dX5_runsInDoubt_5 : decode cX5_runsInDoubt 5 = .ok (.aload_n 0, 1) := by decide +kernel
theorem dX5_runsInDoubt_6 : decode cX5_runsInDoubt 6 = .ok (.getfield 124, 3) := by decide +kernel
theorem dX5_runsInDoubt_9 : decode cX5_runsInDoubt 9 = .ok (.if_icmp .ge 24, 3) := by decide +kernel
theorem dX5_runsInDoubt_12 : decode cX5_runsInDoubt 12 = .ok (.aload_n 0, 1) := by decide +kernel
theorem dX5_runsInDoubt_13 : decode cX5_runsInDoubt 13 = .ok (.getfield 23, 3) := by decide +kernel
theorem dX5_runsInDoubt_16 : decode cX5_runsInDoubt 16 = .ok (.iload_n 2, 1) := by decide +kernel
theorem dX5_runsInDoubt_17 : decode cX5_runsInDoubt 17 = .ok (.aaload, 1) := by decide +kernel
theorem dX5_runsInDoubt_18 : decode cX5_runsInDoubt 18 = .ok (.getfield 162, 3) := by decide +kernel
theorem dX5_runsInDoubt_21 : decode cX5_runsInDoubt 21 = .ok (.ifCond .eq 6, 3) := by decide +kernel
theorem dX5_runsInDoubt_24 : decode cX5_runsInDoubt 24 = .ok (.iinc 1 1, 3) := by decide +kernel
theorem dX5_runsInDoubt_27 : decode cX5_runsInDoubt 27 = .ok (.iinc 2 1, 3) := by decide +kernel
theorem dX5_runsInDoubt_30 : decode cX5_runsInDoubt 30 = .ok (.goto (-26), 3) := by decide +kernel
theorem dX5_runsInDoubt_33 : decode cX5_runsInDoubt 33 = .ok (.iload_n 1, 1) := by decide +kernel
theorem dX5_runsInDoubt_34 : decode cX5_runsInDoubt 34 = .ok (.ireturn, 1) := by decide +kernel
theorem dX5_truth_0 : decode cX5_truth 0 = .ok (.iload_n 0, 1) := by decide +kernel
theorem dX5_truth_1 : decode cX5_truth 1 = .ok (.ifCond .eq 7, 3) := by decide +kernel
theorem dX5_truth_4 : decode cX5_truth 4 = .ok (.iconst 1, 1) := by decide +kernel
theorem dX5_truth_5 : decode cX5_truth 5 = .ok (.goto 4, 3) := by decide +kernel
theorem dX5_truth_8 : decode cX5_truth 8 = .ok (.iconst 0, 1) := by decide +kernel
theorem dX5_truth_9 : decode cX5_truth 9 = .ok (.ireturn, 1) := by decide +kernel
theorem dX6_in_0 : decode cX6_in 0 = .ok (.iload_n 0, 1) := by decide +kernel
theorem dX6_in_1 : decode cX6_in 1 = .ok (.iload_n 1, 1) := by decide +kernel
theorem dX6_in_2 : decode cX6_in 2 = .ok (.if_icmp .lt 12, 3) := by decide +kernel
theorem dX6_in_5 : decode cX6_in 5 = .ok (.iload_n 0, 1) := by decide +kernel
theorem dX6_in_6 : decode cX6_in 6 = .ok (.iload_n 2, 1) := by decide +kernel
theorem dX6_in_7 : decode cX6_in 7 = .ok (.if_icmp .gt 7, 3) := by decide +kernel
theorem dX6_in_10 : decode cX6_in 10 = .ok (.iconst 1, 1) := by decide +kernel
theorem dX6_in_11 : decode cX6_in 11 = .ok (.goto 4, 3) := by decide +kernel
theorem dX6_in_14 : decode cX6_in 14 = .ok (.iconst 0, 1) := by decide +kernel
theorem dX6_in_15 : decode cX6_in 15 = .ok (.ireturn, 1) := by decide +kernel
theorem dX6_part_0 : decode cX6_part 0 = .ok (.iload_n 1, 1) := by decide +kernel
theorem dX6_part_1 : decode cX6_part 1 = .ok (.iconst 1, 1) := by decide +kernel
theorem dX6_part_2 : decode cX6_part 2 = .ok (.bipush 6, 2) := by decide +kernel
theorem dX6_part_4 : decode cX6_part 4 = .ok (.invokestatic 1, 3) := by decide +kernel
theorem dX6_part_7 : decode cX6_part 7 = .ok (.ifCond .eq 65, 3) := by decide +kernel
theorem dX6_part_10 : decode cX6_part 10 = .ok (.iload_n 2, 1) := by decide +kernel
theorem dX6_part_11 : decode cX6_part 11 = .ok (.iconst 1, 1) := by decide +kernel
theorem dX6_part_12 : decode cX6_part 12 = .ok (.sipush 1000, 3) := by decide +kernel
theorem dX6_part_15 : decode cX6_part 15 = .ok (.invokestatic 1, 3) := by decide +kernel
theorem dX6_part_18 : decode cX6_part 18 = .ok (.ifCond .eq 54, 3) := by decide +kernel
theorem dX6_part_21 : decode cX6_part 21 = .ok (.iload_n 3, 1) := by decide +kernel
theorem dX6_part_22 : decode cX6_part 22 = .ok (.iconst 1, 1) := by decide +kernel
theorem dX6_part_23 : decode cX6_part 23 = .ok (.sipush 300, 3) := by decide +kernel
theorem dX6_part_26 : decode cX6_part 26 = .ok (.invokestatic 1, 3) := by decide +kernel
theorem dX6_part_29 : decode cX6_part 29 = .ok (.ifCond .eq 43, 3) := by decide +kernel
theorem dX6_part_32 : decode cX6_part 32 = .ok (.iload 4, 2) := by decide +kernel
theorem dX6_part_34 : decode cX6_part 34 = .ok (.iconst 1, 1) := by decide +kernel
theorem dX6_part_35 : decode cX6_part 35 = .ok (.sipush 300, 3) := by decide +kernel
theorem dX6_part_38 : decode cX6_part 38 = .ok (.invokestatic 1, 3) := by decide +kernel
theorem dX6_part_41 : decode cX6_part 41 = .ok (.ifCond .eq 31, 3) := by decide +kernel
theorem dX6_part_44 : decode cX6_part 44 = .ok (.iload 5, 2) := by decide +kernel
theorem dX6_part_46 : decode cX6_part 46 = .ok (.iconst 0, 1) := by decide +kernel
