theorem dX0_init_0 : decode cX0_init 0 = .ok (.aload_n 0, 1) := by decide +kernel
theorem dX0_init_1 : decode cX0_init 1 = .ok (.invokespecial 3, 3) := by decide +kernel
theorem dX0_init_4 : decode cX0_init 4 = .ok (.aload_n 0, 1) := by decide +kernel
theorem dX0_init_5 : decode cX0_init 5 = .ok (.new 9, 3) := by decide +kernel
theorem dX0_init_8 : decode cX0_init 8 = .ok (.dup, 1) := by decide +kernel
theorem dX0_init_9 : decode cX0_init 9 = .ok (.invokespecial 11, 3) := by decide +kernel
theorem dX0_init_12 : decode cX0_init 12 = .ok (.putfield 12, 3) := by decide +kernel
theorem dX0_init_15 : decode cX0_init 15 = .ok (.aload_n 0, 1) := by decide +kernel
theorem dX0_init_16 : decode cX0_init 16 = .ok (.new 9, 3) := by decide +kernel
theorem dX0_init_19 : decode cX0_init 19 = .ok (.dup, 1) := by decide +kernel
theorem dX0_init_20 : decode cX0_init 20 = .ok (.invokespecial 11, 3) := by decide +kernel
theorem dX0_init_23 : decode cX0_init 23 = .ok (.putfield 18, 3) := by decide +kernel
theorem dX0_init_26 : decode cX0_init 26 = .ok (.aload_n 0, 1) := by decide +kernel
theorem dX0_init_27 : decode cX0_init 27 = .ok (.new 9, 3) := by decide +kernel
theorem dX0_init_30 : decode cX0_init 30 = .ok (.dup, 1) := by decide +kernel
theorem dX0_init_31 : decode cX0_init 31 = .ok (.invokespecial 11, 3) := by decide +kernel
theorem dX0_init_34 : decode cX0_init 34 = .ok (.putfield 21, 3) := by decide +kernel
theorem dX0_init_37 : decode cX0_init 37 = .ok (.aload_n 0, 1) := by decide +kernel
theorem dX0_init_38 : decode cX0_init 38 = .ok (.new 9, 3) := by decide +kernel
theorem dX0_init_41 : decode cX0_init 41 = .ok (.dup, 1) := by decide +kernel
theorem dX0_init_42 : decode cX0_init 42 = .ok (.invokespecial 11, 3) := by decide +kernel
theorem dX0_init_45 : decode cX0_init 45 = .ok (.putfield 24, 3) := by decide +kernel
theorem dX0_init_48 : decode cX0_init 48 = .ok (.aload_n 0, 1) := by decide +kernel
theorem dX0_init_49 : decode cX0_init 49 = .ok (.iconst 0, 1) := by decide +kernel
theorem dX0_init_50 : decode cX0_init 50 = .ok (.putfield 27, 3) := by decide +kernel
theorem dX0_init_53 : decode cX0_init 53 = .ok (.aload_n 0, 1) := by decide +kernel
theorem dX0_init_54 : decode cX0_init 54 = .ok (.bipush 24, 2) := by decide +kernel
theorem dX0_init_56 : decode cX0_init 56 = .ok (.putfield 31, 3) := by decide +kernel
theorem dX0_init_59 : decode cX0_init 59 = .ok (.return_, 1) := by decide +kernel
theorem dX0_snail_0 : decode cX0_snail 0 = .ok (.iload_n 1, 1) := by decide +kernel
theorem dX0_snail_1 : decode cX0_snail 1 = .ok (.tableswitch 42 0 2 #[27, 32, 37], 27) := by decide +kernel
theorem dX0_snail_28 : decode cX0_snail 28 = .ok (.aload_n 0, 1) := by decide +kernel
theorem dX0_snail_29 : decode cX0_snail 29 = .ok (.getfield 12, 3) := by decide +kernel
theorem dX0_snail_32 : decode cX0_snail 32 = .ok (.areturn, 1) := by decide +kernel
theorem dX0_snail_33 : decode cX0_snail 33 = .ok (.aload_n 0, 1) := by decide +kernel
theorem dX0_snail_34 : decode cX0_snail 34 = .ok (.getfield 18, 3) := by decide +kernel
theorem dX0_snail_37 : decode cX0_snail 37 = .ok (.areturn, 1) := by decide +kernel
theorem dX0_snail_38 : decode cX0_snail 38 = .ok (.aload_n 0, 1) := by decide +kernel
theorem dX0_snail_39 : decode cX0_snail 39 = .ok (.getfield 21, 3) := by decide +kernel
theorem dX0_snail_42 : decode cX0_snail 42 = .ok (.areturn, 1) := by decide +kernel
theorem dX0_snail_43 : decode cX0_snail 43 = .ok (.aload_n 0, 1) := by decide +kernel
theorem dX0_snail_44 : decode cX0_snail 44 = .ok (.getfield 24, 3) := by decide +kernel
theorem dX0_snail_47 : decode cX0_snail 47 = .ok (.areturn, 1) := by decide +kernel
theorem dX0_sumOfPositions_0 : decode cX0_sumOfPositions 0 = .ok (.aload_n 0, 1) := by decide +kernel
theorem dX0_sumOfPositions_1 : decode cX0_sumOfPositions 1 = .ok (.getfield 12, 3) := by decide +kernel
theorem dX0_sumOfPositions_4 : decode cX0_sumOfPositions 4 = .ok (.getfield 34, 3) := by decide +kernel
theorem dX0_sumOfPositions_7 : decode cX0_sumOfPositions 7 = .ok (.aload_n 0, 1) := by decide +kernel
theorem dX0_sumOfPositions_8 : decode cX0_sumOfPositions 8 = .ok (.getfield 18, 3) := by decide +kernel
theorem dX0_sumOfPositions_11 : decode cX0_sumOfPositions 11 = .ok (.getfield 34, 3) := by decide +kernel
theorem dX0_sumOfPositions_14 : decode cX0_sumOfPositions 14 = .ok (.iadd, 1) := by decide +kernel
theorem dX0_sumOfPositions_15 : decode cX0_sumOfPositions 15 = .ok (.aload_n 0, 1) := by decide +kernel
theorem dX0_sumOfPositions_16 : decode cX0_sumOfPositions 16 = .ok (.getfield 21, 3) := by decide +kernel
theorem dX0_sumOfPositions_19 : decode cX0_sumOfPositions 19 = .ok (.getfield 34, 3) := by decide +kernel
theorem dX0_sumOfPositions_22 : decode cX0_sumOfPositions 22 = .ok (.iadd, 1) := by decide +kernel
theorem dX0_sumOfPositions_23 : decode cX0_sumOfPositions 23 = .ok (.aload_n 0, 1) := by decide +kernel
theorem dX0_sumOfPositions_24 : decode cX0_sumOfPositions 24 = .ok (.getfield 24, 3) := by decide +kernel
theorem dX0_sumOfPositions_27 : decode cX0_sumOfPositions 27 = .ok (.getfield 34, 3) := by decide +kernel
theorem dX0_sumOfPositions_30 : decode cX0_sumOfPositions 30 = .ok (.iadd, 1) := by decide +kernel
theorem dX0_sumOfPositions_31 : decode cX0_sumOfPositions 31 = .ok (.ireturn, 1) := by decide +kernel
theorem dX0_copyFrom_0 : decode cX0_copyFrom 0 = .ok (.aload_n 0, 1) := by decide +kernel
theorem dX0_copyFrom_1 : decode cX0_copyFrom 1 = .ok (.getfield 12, 3) := by decide +kernel
theorem dX0_copyFrom_4 : decode cX0_copyFrom 4 = .ok (.aload_n 1, 1) := by decide +kernel
theorem dX0_copyFrom_5 : decode cX0_copyFrom 5 = .ok (.getfield 12, 3) := by decide +kernel
theorem dX0_copyFrom_8 : decode cX0_copyFrom 8 = .ok (.invokevirtual 37, 3) := by decide +kernel
theorem dX0_copyFrom_11 : decode cX0_copyFrom 11 = .ok (.aload_n 0, 1) := by decide +kernel
theorem dX0_copyFrom_12 : decode cX0_copyFrom 12 = .ok (.getfield 18, 3) := by decide +kernel
theorem dX0_copyFrom_15 : decode cX0_copyFrom 15 = .ok (.aload_n 1, 1) := by decide +kernel
theorem dX0_copyFrom_16 : decode cX0_copyFrom 16 = .ok (.getfield 18, 3) := by decide +kernel
theorem dX0_copyFrom_19 : decode cX0_copyFrom 19 = .ok (.invokevirtual 37, 3) := by decide +kernel
theorem dX0_copyFrom_22 : decode cX0_copyFrom 22 = .ok (.aload_n 0, 1) := by decide +kernel
theorem dX0_copyFrom_23 : decode cX0_copyFrom 23 = .ok (.getfield 21, 3) := by decide +kernel
theorem dX0_copyFrom_26 : decode cX0_copyFrom 26 = .ok (.aload_n 1, 1) := by decide +kernel
theorem dX0_copyFrom_27 : decode cX0_copyFrom 27 = .ok (.getfield 21, 3) := by decide +kernel
theorem dX0_copyFrom_30 : decode cX0_copyFrom 30 = .ok (.invokevirtual 37, 3) := by decide +kernel
theorem dX0_copyFrom_33 : decode cX0_copyFrom 33 = .ok (.aload_n 0, 1) := by decide +kernel
theorem dX0_copyFrom_34 : decode cX0_copyFrom 34 = .ok (.getfield 24, 3) := by decide +kernel
theorem dX0_copyFrom_37 : decode cX0_copyFrom 37 = .ok (.aload_n 1, 1) := by decide +kernel
theorem dX0_copyFrom_38 : decode cX0_copyFrom 38 = .ok (.getfield 24, 3) := by decide +kernel
theorem dX0_copyFrom_41 : decode cX0_copyFrom 41 = .ok (.invokevirtual 37, 3) := by decide +kernel
theorem dX0_copyFrom_44 : decode cX0_copyFrom 44 = .ok (.aload_n 0, 1) := by decide +kernel
theorem dX0_copyFrom_45 : decode cX0_copyFrom 45 = .ok (.aload_n 1, 1) := by decide +kernel
theorem dX0_copyFrom_46 : decode cX0_copyFrom 46 = .ok (.getfield 27, 3) := by decide +kernel
theorem dX0_copyFrom_49 : decode cX0_copyFrom 49 = .ok (.putfield 27, 3) := by decide +kernel
theorem dX0_copyFrom_52 : decode cX0_copyFrom 52 = .ok (.aload_n 0, 1) := by decide +kernel
theorem dX0_copyFrom_53 : decode cX0_copyFrom 53 = .ok (.aload_n 1, 1) := by decide +kernel
theorem dX0_copyFrom_54 : decode cX0_copyFrom 54 = .ok (.getfield 31, 3) := by decide +kernel
theorem dX0_copyFrom_57 : decode cX0_copyFrom 57 = .ok (.putfield 31, 3) := by decide +kernel
theorem dX0_copyFrom_60 : decode cX0_copyFrom 60 = .ok (.return_, 1) := by decide +kernel
theorem dX1_init_0 : decode cX1_init 0 = .ok (.aload_n 0, 1) := by decide +kernel
theorem dX1_init_1 : decode cX1_init 1 = .ok (.invokespecial 3, 3) := by decide +kernel
theorem dX1_init_4 : decode cX1_init 4 = .ok (.aload_n 0, 1) := by decide +kernel
theorem dX1_init_5 : decode cX1_init 5 = .ok (.bipush 48, 2) := by decide +kernel
theorem dX1_init_7 : decode cX1_init 7 = .ok (.newarray .int, 2) := by decide +kernel
theorem dX1_init_9 : decode cX1_init 9 = .ok (.putfield 11, 3) := by decide +kernel
theorem dX1_init_12 : decode cX1_init 12 = .ok (.return_, 1) := by decide +kernel
theorem dX1_add_0 : decode cX1_add 0 = .ok (.aload_n 0, 1) := by decide +kernel
theorem dX1_add_1 : decode cX1_add 1 = .ok (.getfield 15, 3) := by decide +kernel
theorem dX1_add_4 : decode cX1_add 4 = .ok (.bipush 16, 2) := by decide +kernel
theorem dX1_add_6 : decode cX1_add 6 = .ok (.if_icmp .ge 16, 3) := by decide +kernel
theorem dX1_add_9 : decode cX1_add 9 = .ok (.aload_n 0, 1) := by decide +kernel
theorem dX1_add_10 : decode cX1_add 10 = .ok (.dup, 1) := by decide +kernel
theorem dX1_add_11 : decode cX1_add 11 = .ok (.getfield 15, 3) := by decide +kernel
theorem dX1_add_14 : decode cX1_add 14 = .ok (.iconst 1, 1) := by decide +kernel
theorem dX1_add_15 : decode cX1_add 15 = .ok (.iadd, 1) := by decide +kernel
theorem dX1_add_16 : decode cX1_add 16 = .ok (.putfield 15, 3) := by decide +kernel
theorem dX1_add_19 : decode cX1_add 19 = .ok (.goto 16, 3) := by decide +kernel
theorem dX1_add_22 : decode cX1_add 22 = .ok (.aload_n 0, 1) := by decide +kernel
theorem dX1_add_23 : decode cX1_add 23 = .ok (.aload_n 0, 1) := by decide +kernel
theorem dX1_add_24 : decode cX1_add 24 = .ok (.getfield 19, 3) := by decide +kernel
theorem dX1_add_27 : decode cX1_add 27 = .ok (.iconst 1, 1) := by decide +kernel
theorem dX1_add_28 : decode cX1_add 28 = .ok (.iadd, 1) := by decide +kernel
theorem dX1_add_29 : decode cX1_add 29 = .ok (.bipush 16, 2) := by decide +kernel
theorem dX1_add_31 : decode cX1_add 31 = .ok (.irem, 1) := by decide +kernel
theorem dX1_add_32 : decode cX1_add 32 = .ok (.putfield 19, 3) := by decide +kernel
theorem dX1_add_35 : decode cX1_add 35 = .ok (.aload_n 0, 1) := by decide +kernel
theorem dX1_add_36 : decode cX1_add 36 = .ok (.aload_n 0, 1) := by decide +kernel
theorem dX1_add_37 : decode cX1_add 37 = .ok (.getfield 15, 3) := by decide +kernel
theorem dX1_add_40 : decode cX1_add 40 = .ok (.iconst 1, 1) := by decide +kernel
theorem dX1_add_41 : decode cX1_add 41 = .ok (.isub, 1) := by decide +kernel
theorem dX1_add_42 : decode cX1_add 42 = .ok (.invokevirtual 22, 3) := by decide +kernel
theorem dX1_add_45 : decode cX1_add 45 = .ok (.istore 4, 2) := by decide +kernel
theorem dX1_add_47 : decode cX1_add 47 = .ok (.aload_n 0, 1) := by decide +kernel
theorem dX1_add_48 : decode cX1_add 48 = .ok (.iload 4, 2) := by decide +kernel
theorem dX1_add_50 : decode cX1_add 50 = .ok (.iconst 0, 1) := by decide +kernel
theorem dX1_add_51 : decode cX1_add 51 = .ok (.iadd, 1) := by decide +kernel
theorem dX1_add_52 : decode cX1_add 52 = .ok (.iload_n 1, 1) := by decide +kernel
theorem dX1_add_53 : decode cX1_add 53 = .ok (.invokevirtual 26, 3) := by decide +kernel
theorem dX1_add_56 : decode cX1_add 56 = .ok (.aload_n 0, 1) := by decide +kernel
theorem dX1_add_57 : decode cX1_add 57 = .ok (.iload 4, 2) := by decide +kernel
theorem dX1_add_59 : decode cX1_add 59 = .ok (.iconst 1, 1) := by decide +kernel
theorem dX1_add_60 : decode cX1_add 60 = .ok (.iadd, 1) := by decide +kernel
theorem dX1_add_61 : decode cX1_add 61 = .ok (.iload_n 2, 1) := by decide +kernel
theorem dX1_add_62 : decode cX1_add 62 = .ok (.invokevirtual 26, 3) := by decide +kernel
theorem dX1_add_65 : decode cX1_add 65 = .ok (.aload_n 0, 1) := by decide +kernel
theorem dX1_add_66 : decode cX1_add 66 = .ok (.iload 4, 2) := by decide +kernel
theorem dX1_add_68 : decode cX1_add 68 = .ok (.iconst 2, 1) := by decide +kernel
theorem dX1_add_69 : decode cX1_add 69 = .ok (.iadd, 1) := by decide +kernel
theorem dX1_add_70 : decode cX1_add 70 = .ok (.iload_n 3, 1) := by decide +kernel
theorem dX1_add_71 : decode cX1_add 71 = .ok (.invokevirtual 26, 3) := by decide +kernel
theorem dX1_add_74 : decode cX1_add 74 = .ok (.return_, 1) := by decide +kernel
theorem dX1_dropLatest_0 : decode cX1_dropLatest 0 = .ok (.aload_n 0, 1) := by decide +kernel
theorem dX1_dropLatest_1 : decode cX1_dropLatest 1 = .ok (.getfield 15, 3) := by decide +kernel
theorem dX1_dropLatest_4 : decode cX1_dropLatest 4 = .ok (.ifCond .le 13, 3) := by decide +kernel
theorem dX1_dropLatest_7 : decode cX1_dropLatest 7 = .ok (.aload_n 0, 1) := by decide +kernel
theorem dX1_dropLatest_8 : decode cX1_dropLatest 8 = .ok (.dup, 1) := by decide +kernel
theorem dX1_dropLatest_9 : decode cX1_dropLatest 9 = .ok (.getfield 15, 3) := by decide +kernel
theorem dX1_dropLatest_12 : decode cX1_dropLatest 12 = .ok (.iconst 1, 1) := by decide +kernel
theorem dX1_dropLatest_13 : decode cX1_dropLatest 13 = .ok (.isub, 1) := by decide +kernel
theorem dX1_dropLatest_14 : decode cX1_dropLatest 14 = .ok (.putfield 15, 3) := by decide +kernel
theorem dX1_dropLatest_17 : decode cX1_dropLatest 17 = .ok (.return_, 1) := by decide +kernel
theorem dX1_step_0 : decode cX1_step 0 = .ok (.aload_n 0, 1) := by decide +kernel
theorem dX1_step_1 : decode cX1_step 1 = .ok (.iload_n 1, 1) := by decide +kernel
theorem dX1_step_2 : decode cX1_step 2 = .ok (.iconst 0, 1) := by decide +kernel
theorem dX1_step_3 : decode cX1_step 3 = .ok (.invokevirtual 30, 3) := by decide +kernel
theorem dX1_step_6 : decode cX1_step 6 = .ok (.ireturn, 1) := by decide +kernel
theorem dX1_spent_0 : decode cX1_spent 0 = .ok (.aload_n 0, 1) := by decide +kernel
theorem dX1_spent_1 : decode cX1_spent 1 = .ok (.iload_n 1, 1) := by decide +kernel
theorem dX1_spent_2 : decode cX1_spent 2 = .ok (.iconst 1, 1) := by decide +kernel
theorem dX1_spent_3 : decode cX1_spent 3 = .ok (.invokevirtual 30, 3) := by decide +kernel
theorem dX1_spent_6 : decode cX1_spent 6 = .ok (.ireturn, 1) := by decide +kernel
theorem dX1_before_0 : decode cX1_before 0 = .ok (.aload_n 0, 1) := by decide +kernel
theorem dX1_before_1 : decode cX1_before 1 = .ok (.iload_n 1, 1) := by decide +kernel
theorem dX1_before_2 : decode cX1_before 2 = .ok (.iconst 2, 1) := by decide +kernel
theorem dX1_before_3 : decode cX1_before 3 = .ok (.invokevirtual 30, 3) := by decide +kernel
theorem dX1_before_6 : decode cX1_before 6 = .ok (.ireturn, 1) := by decide +kernel
theorem dX1_speed_0 : decode cX1_speed 0 = .ok (.iconst 0, 1) := by decide +kernel
theorem dX1_speed_1 : decode cX1_speed 1 = .ok (.istore_n 1, 1) := by decide +kernel
theorem dX1_speed_2 : decode cX1_speed 2 = .ok (.iconst 0, 1) := by decide +kernel
theorem dX1_speed_3 : decode cX1_speed 3 = .ok (.istore_n 2, 1) := by decide +kernel
theorem dX1_speed_4 : decode cX1_speed 4 = .ok (.iconst 0, 1) := by decide +kernel
theorem dX1_speed_5 : decode cX1_speed 5 = .ok (.istore_n 3, 1) := by decide +kernel
theorem dX1_speed_6 : decode cX1_speed 6 = .ok (.iload_n 3, 1) := by decide +kernel
theorem dX1_speed_7 : decode cX1_speed 7 = .ok (.aload_n 0, 1) := by decide +kernel
theorem dX1_speed_8 : decode cX1_speed 8 = .ok (.getfield 15, 3) := by decide +kernel
theorem dX1_speed_11 : decode cX1_speed 11 = .ok (.if_icmp .ge 25, 3) := by decide +kernel
theorem dX1_speed_14 : decode cX1_speed 14 = .ok (.iload_n 1, 1) := by decide +kernel
theorem dX1_speed_15 : decode cX1_speed 15 = .ok (.aload_n 0, 1) := by decide +kernel
theorem dX1_speed_16 : decode cX1_speed 16 = .ok (.iload_n 3, 1) := by decide +kernel
theorem dX1_speed_17 : decode cX1_speed 17 = .ok (.invokevirtual 34, 3) := by decide +kernel
theorem dX1_speed_20 : decode cX1_speed 20 = .ok (.iadd, 1) := by decide +kernel
theorem dX1_speed_21 : decode cX1_speed 21 = .ok (.istore_n 1, 1) := by decide +kernel
theorem dX1_speed_22 : decode cX1_speed 22 = .ok (.iload_n 2, 1) := by decide +kernel
theorem dX1_speed_23 : decode cX1_speed 23 = .ok (.aload_n 0, 1) := by decide +kernel
theorem dX1_speed_24 : decode cX1_speed 24 = .ok (.iload_n 3, 1) := by decide +kernel
theorem dX1_speed_25 : decode cX1_speed 25 = .ok (.invokevirtual 37, 3) := by decide +kernel
theorem dX1_speed_28 : decode cX1_speed 28 = .ok (.iadd, 1) := by decide +kernel
theorem dX1_speed_29 : decode cX1_speed 29 = .ok (.istore_n 2, 1) := by decide +kernel
theorem dX1_speed_30 : decode cX1_speed 30 = .ok (.iinc 3 1, 3) := by decide +kernel
theorem dX1_speed_33 : decode cX1_speed 33 = .ok (.goto (-27), 3) := by decide +kernel
theorem dX1_speed_36 : decode cX1_speed 36 = .ok (.iload_n 2, 1) := by decide +kernel
theorem dX1_speed_37 : decode cX1_speed 37 = .ok (.iconst 1, 1) := by decide +kernel
theorem dX1_speed_38 : decode cX1_speed 38 = .ok (.if_icmp .ge 7, 3) := by decide +kernel
theorem dX1_speed_41 : decode cX1_speed 41 = .ok (.dconst 0, 1) := by decide +kernel
theorem dX1_speed_42 : decode cX1_speed 42 = .ok (.goto 12, 3) := by decide +kernel
theorem dX1_speed_45 : decode cX1_speed 45 = .ok (.ldc2_w 40, 3) := by decide +kernel
theorem dX1_speed_48 : decode cX1_speed 48 = .ok (.iload_n 1, 1) := by decide +kernel
theorem dX1_speed_49 : decode cX1_speed 49 = .ok (.i2d, 1) := by decide +kernel
theorem dX1_speed_50 : decode cX1_speed 50 = .ok (.dmul, 1) := by decide +kernel
theorem dX1_speed_51 : decode cX1_speed 51 = .ok (.iload_n 2, 1) := by decide +kernel
theorem dX1_speed_52 : decode cX1_speed 52 = .ok (.i2d, 1) := by decide +kernel
theorem dX1_speed_53 : decode cX1_speed 53 = .ok (.ddiv, 1) := by decide +kernel
theorem dX1_speed_54 : decode cX1_speed 54 = .ok (.dreturn, 1) := by decide +kernel
theorem dX1_copyFrom_0 : decode cX1_copyFrom 0 = .ok (.iconst 0, 1) := by decide +kernel
theorem dX1_copyFrom_1 : decode cX1_copyFrom 1 = .ok (.istore_n 2, 1) := by decide +kernel
theorem dX1_copyFrom_2 : decode cX1_copyFrom 2 = .ok (.iload_n 2, 1) := by decide +kernel
theorem dX1_copyFrom_3 : decode cX1_copyFrom 3 = .ok (.aload_n 0, 1) := by decide +kernel
theorem dX1_copyFrom_4 : decode cX1_copyFrom 4 = .ok (.getfield 11, 3) := by decide +kernel
theorem dX1_copyFrom_7 : decode cX1_copyFrom 7 = .ok (.arraylength, 1) := by decide +kernel
theorem dX1_copyFrom_8 : decode cX1_copyFrom 8 = .ok (.if_icmp .ge 30, 3) := by decide +kernel
theorem dX1_copyFrom_11 : decode cX1_copyFrom 11 = .ok (.iload_n 2, 1) := by decide +kernel
theorem dX1_copyFrom_12 : decode cX1_copyFrom 12 = .ok (.aload_n 1, 1) := by decide +kernel
theorem dX1_copyFrom_13 : decode cX1_copyFrom 13 = .ok (.getfield 11, 3) := by decide +kernel
theorem dX1_copyFrom_16 : decode cX1_copyFrom 16 = .ok (.arraylength, 1) := by decide +kernel
theorem dX1_copyFrom_17 : decode cX1_copyFrom 17 = .ok (.if_icmp .ge 21, 3) := by decide +kernel
theorem dX1_copyFrom_20 : decode cX1_copyFrom 20 = .ok (.aload_n 0, 1) := by decide +kernel
theorem dX1_copyFrom_21 : decode cX1_copyFrom 21 = .ok (.getfield 11, 3) := by decide +kernel
theorem dX1_copyFrom_24 : decode cX1_copyFrom 24 = .ok (.iload_n 2, 1) := by decide +kernel
theorem dX1_copyFrom_25 : decode cX1_copyFrom 25 = .ok (.aload_n 1, 1) := by decide +kernel
theorem dX1_copyFrom_26 : decode cX1_copyFrom 26 = .ok (.getfield 11, 3) := by decide +kernel
theorem dX1_copyFrom_29 : decode cX1_copyFrom 29 = .ok (.iload_n 2, 1) := by decide +kernel
theorem dX1_copyFrom_30 : decode cX1_copyFrom 30 = .ok (.iaload, 1) := by decide +kernel
theorem dX1_copyFrom_31 : decode cX1_copyFrom 31 = .ok (.iastore, 1) := by decide +kernel
theorem dX1_copyFrom_32 : decode cX1_copyFrom 32 = .ok (.iinc 2 1, 3) := by decide +kernel
theorem dX1_copyFrom_35 : decode cX1_copyFrom 35 = .ok (.goto (-33), 3) := by decide +kernel
theorem dX1_copyFrom_38 : decode cX1_copyFrom 38 = .ok (.aload_n 0, 1) := by decide +kernel
theorem dX1_copyFrom_39 : decode cX1_copyFrom 39 = .ok (.aload_n 1, 1) := by decide +kernel
theorem dX1_copyFrom_40 : decode cX1_copyFrom 40 = .ok (.getfield 19, 3) := by decide +kernel
theorem dX1_copyFrom_43 : decode cX1_copyFrom 43 = .ok (.putfield 19, 3) := by decide +kernel
theorem dX1_copyFrom_46 : decode cX1_copyFrom 46 = .ok (.aload_n 0, 1) := by decide +kernel
theorem dX1_copyFrom_47 : decode cX1_copyFrom 47 = .ok (.aload_n 1, 1) := by decide +kernel
theorem dX1_copyFrom_48 : decode cX1_copyFrom 48 = .ok (.getfield 15, 3) := by decide +kernel
theorem dX1_copyFrom_51 : decode cX1_copyFrom 51 = .ok (.putfield 15, 3) := by decide +kernel
theorem dX1_copyFrom_54 : decode cX1_copyFrom 54 = .ok (.return_, 1) := by decide +kernel
theorem dX1_read_0 : decode cX1_read 0 = .ok (.aload_n 0, 1) := by decide +kernel
theorem dX1_read_1 : decode cX1_read 1 = .ok (.iload_n 1, 1) := by decide +kernel
theorem dX1_read_2 : decode cX1_read 2 = .ok (.invokevirtual 22, 3) := by decide +kernel
theorem dX1_read_5 : decode cX1_read 5 = .ok (.iload_n 2, 1) := by decide +kernel
theorem dX1_read_6 : decode cX1_read 6 = .ok (.iadd, 1) := by decide +kernel
theorem dX1_read_7 : decode cX1_read 7 = .ok (.istore_n 3, 1) := by decide +kernel
theorem dX1_read_8 : decode cX1_read 8 = .ok (.iload_n 3, 1) := by decide +kernel
theorem dX1_read_9 : decode cX1_read 9 = .ok (.ifCond .lt 12, 3) := by decide +kernel
theorem dX1_read_12 : decode cX1_read 12 = .ok (.iload_n 3, 1) := by decide +kernel
theorem dX1_read_13 : decode cX1_read 13 = .ok (.aload_n 0, 1) := by decide +kernel
theorem dX1_read_14 : decode cX1_read 14 = .ok (.getfield 11, 3) := by decide +kernel
theorem dX1_read_17 : decode cX1_read 17 = .ok (.arraylength, 1) := by decide +kernel
theorem dX1_read_18 : decode cX1_read 18 = .ok (.if_icmp .lt 7, 3) := by decide +kernel
theorem dX1_read_21 : decode cX1_read 21 = .ok (.iconst 0, 1) := by decide +kernel
theorem dX1_read_22 : decode cX1_read 22 = .ok (.goto 9, 3) := by decide +kernel
theorem dX1_read_25 : decode cX1_read 25 = .ok (.aload_n 0, 1) := by decide +kernel
theorem dX1_read_26 : decode cX1_read 26 = .ok (.getfield 11, 3) := by decide +kernel
theorem dX1_read_29 : decode cX1_read 29 = .ok (.iload_n 3, 1) := by decide +kernel
theorem dX1_read_30 : decode cX1_read 30 = .ok (.iaload, 1) := by decide +kernel
theorem dX1_read_31 : decode cX1_read 31 = .ok (.ireturn, 1) := by decide +kernel
theorem dX1_write_0 : decode cX1_write 0 = .ok (.iload_n 1, 1) := by decide +kernel
theorem dX1_write_1 : decode cX1_write 1 = .ok (.ifCond .lt 19, 3) := by decide +kernel
theorem dX1_write_4 : decode cX1_write 4 = .ok (.iload_n 1, 1) := by decide +kernel
theorem dX1_write_5 : decode cX1_write 5 = .ok (.aload_n 0, 1) := by decide +kernel
theorem dX1_write_6 : decode cX1_write 6 = .ok (.getfield 11, 3) := by decide +kernel
theorem dX1_write_9 : decode cX1_write 9 = .ok (.arraylength, 1) := by decide +kernel
theorem dX1_write_10 : decode cX1_write 10 = .ok (.if_icmp .ge 10, 3) := by decide +kernel
theorem dX1_write_13 : decode cX1_write 13 = .ok (.aload_n 0, 1) := by decide +kernel
theorem dX1_write_14 : decode cX1_write 14 = .ok (.getfield 11, 3) := by decide +kernel
theorem dX1_write_17 : decode cX1_write 17 = .ok (.iload_n 1, 1) := by decide +kernel
theorem dX1_write_18 : decode cX1_write 18 = .ok (.iload_n 2, 1) := by decide +kernel
theorem dX1_write_19 : decode cX1_write 19 = .ok (.iastore, 1) := by decide +kernel
theorem dX1_write_20 : decode cX1_write 20 = .ok (.return_, 1) := by decide +kernel
theorem dX1_rowOf_0 : decode cX1_rowOf 0 = .ok (.aload_n 0, 1) := by decide +kernel
theorem dX1_rowOf_1 : decode cX1_rowOf 1 = .ok (.getfield 19, 3) := by decide +kernel
theorem dX1_rowOf_4 : decode cX1_rowOf 4 = .ok (.iload_n 1, 1) := by decide +kernel
theorem dX1_rowOf_5 : decode cX1_rowOf 5 = .ok (.iadd, 1) := by decide +kernel
theorem dX1_rowOf_6 : decode cX1_rowOf 6 = .ok (.bipush 16, 2) := by decide +kernel
theorem dX1_rowOf_8 : decode cX1_rowOf 8 = .ok (.irem, 1) := by decide +kernel
theorem dX1_rowOf_9 : decode cX1_rowOf 9 = .ok (.iconst 3, 1) := by decide +kernel
theorem dX1_rowOf_10 : decode cX1_rowOf 10 = .ok (.imul, 1) := by decide +kernel
theorem dX1_rowOf_11 : decode cX1_rowOf 11 = .ok (.ireturn, 1) := by decide +kernel
theorem dX2_init_0 : decode cX2_init 0 = .ok (.aload_n 0, 1) := by decide +kernel
theorem dX2_init_1 : decode cX2_init 1 = .ok (.invokespecial 3, 3) := by decide +kernel
theorem dX2_init_4 : decode cX2_init 4 = .ok (.aload_n 0, 1) := by decide +kernel
theorem dX2_init_5 : decode cX2_init 5 = .ok (.bipush 80, 2) := by decide +kernel
theorem dX2_init_7 : decode cX2_init 7 = .ok (.newarray .char, 2) := by decide +kernel
theorem dX2_init_9 : decode cX2_init 9 = .ok (.putfield 9, 3) := by decide +kernel
theorem dX2_init_12 : decode cX2_init 12 = .ok (.return_, 1) := by decide +kernel
theorem dX2_append_0 : decode cX2_append 0 = .ok (.aload_n 0, 1) := by decide +kernel
theorem dX2_append_1 : decode cX2_append 1 = .ok (.getfield 15, 3) := by decide +kernel
theorem dX2_append_4 : decode cX2_append 4 = .ok (.ifCond .lt 35, 3) := by decide +kernel
theorem dX2_append_7 : decode cX2_append 7 = .ok (.aload_n 0, 1) := by decide +kernel
theorem dX2_append_8 : decode cX2_append 8 = .ok (.getfield 15, 3) := by decide +kernel
theorem dX2_append_11 : decode cX2_append 11 = .ok (.aload_n 0, 1) := by decide +kernel
theorem dX2_append_12 : decode cX2_append 12 = .ok (.getfield 9, 3) := by decide +kernel
theorem dX2_append_15 : decode cX2_append 15 = .ok (.arraylength, 1) := by decide +kernel
theorem dX2_append_16 : decode cX2_append 16 = .ok (.if_icmp .ge 23, 3) := by decide +kernel
theorem dX2_append_19 : decode cX2_append 19 = .ok (.aload_n 0, 1) := by decide +kernel
theorem dX2_append_20 : decode cX2_append 20 = .ok (.getfield 9, 3) := by decide +kernel
theorem dX2_append_23 : decode cX2_append 23 = .ok (.aload_n 0, 1) := by decide +kernel
theorem dX2_append_24 : decode cX2_append 24 = .ok (.getfield 15, 3) := by decide +kernel
theorem dX2_append_27 : decode cX2_append 27 = .ok (.iload_n 1, 1) := by decide +kernel
theorem dX2_append_28 : decode cX2_append 28 = .ok (.castore, 1) := by decide +kernel
theorem dX2_append_29 : decode cX2_append 29 = .ok (.aload_n 0, 1) := by decide +kernel
theorem dX2_append_30 : decode cX2_append 30 = .ok (.dup, 1) := by decide +kernel
theorem dX2_append_31 : decode cX2_append 31 = .ok (.getfield 15, 3) := by decide +kernel
theorem dX2_append_34 : decode cX2_append 34 = .ok (.iconst 1, 1) := by decide +kernel
theorem dX2_append_35 : decode cX2_append 35 = .ok (.iadd, 1) := by decide +kernel
theorem dX2_append_36 : decode cX2_append 36 = .ok (.putfield 15, 3) := by decide +kernel
theorem dX2_append_39 : decode cX2_append 39 = .ok (.return_, 1) := by decide +kernel
theorem dX2_sign_0 : decode cX2_sign 0 = .ok (.iload_n 1, 1) := by decide +kernel
theorem dX2_sign_1 : decode cX2_sign 1 = .ok (.ifCond .lt 20, 3) := by decide +kernel
theorem dX2_sign_4 : decode cX2_sign 4 = .ok (.iload_n 1, 1) := by decide +kernel
theorem dX2_sign_5 : decode cX2_sign 5 = .ok (.aload_n 0, 1) := by decide +kernel
theorem dX2_sign_6 : decode cX2_sign 6 = .ok (.getfield 15, 3) := by decide +kernel
theorem dX2_sign_9 : decode cX2_sign 9 = .ok (.if_icmp .ge 12, 3) := by decide +kernel
theorem dX2_sign_12 : decode cX2_sign 12 = .ok (.iload_n 1, 1) := by decide +kernel
theorem dX2_sign_13 : decode cX2_sign 13 = .ok (.aload_n 0, 1) := by decide +kernel
theorem dX2_sign_14 : decode cX2_sign 14 = .ok (.getfield 9, 3) := by decide +kernel
theorem dX2_sign_17 : decode cX2_sign 17 = .ok (.arraylength, 1) := by decide +kernel
theorem dX2_sign_18 : decode cX2_sign 18 = .ok (.if_icmp .lt 7, 3) := by decide +kernel
theorem dX2_sign_21 : decode cX2_sign 21 = .ok (.iconst 0, 1) := by decide +kernel
theorem dX2_sign_22 : decode cX2_sign 22 = .ok (.goto 9, 3) := by decide +kernel
theorem dX2_sign_25 : decode cX2_sign 25 = .ok (.aload_n 0, 1) := by decide +kernel
theorem dX2_sign_26 : decode cX2_sign 26 = .ok (.getfield 9, 3) := by decide +kernel
theorem dX2_sign_29 : decode cX2_sign 29 = .ok (.iload_n 1, 1) := by decide +kernel
theorem dX2_sign_30 : decode cX2_sign 30 = .ok (.caload, 1) := by decide +kernel
theorem dX2_sign_31 : decode cX2_sign 31 = .ok (.ireturn, 1) := by decide +kernel
theorem dX2_digit_0 : decode cX2_digit 0 = .ok (.aload_n 0, 1) := by decide +kernel
theorem dX2_digit_1 : decode cX2_digit 1 = .ok (.iload_n 1, 1) := by decide +kernel
theorem dX2_digit_2 : decode cX2_digit 2 = .ok (.invokevirtual 19, 3) := by decide +kernel
theorem dX2_digit_5 : decode cX2_digit 5 = .ok (.bipush 48, 2) := by decide +kernel
theorem dX2_digit_7 : decode cX2_digit 7 = .ok (.isub, 1) := by decide +kernel
theorem dX2_digit_8 : decode cX2_digit 8 = .ok (.ireturn, 1) := by decide +kernel
theorem dX2_number_0 : decode cX2_number 0 = .ok (.aload_n 0, 1) := by decide +kernel
theorem dX2_number_1 : decode cX2_number 1 = .ok (.iload_n 1, 1) := by decide +kernel
theorem dX2_number_2 : decode cX2_number 2 = .ok (.invokevirtual 23, 3) := by decide +kernel
theorem dX2_number_5 : decode cX2_number 5 = .ok (.istore_n 2, 1) := by decide +kernel
theorem dX2_number_6 : decode cX2_number 6 = .ok (.aload_n 0, 1) := by decide +kernel
theorem dX2_number_7 : decode cX2_number 7 = .ok (.iload_n 1, 1) := by decide +kernel
theorem dX2_number_8 : decode cX2_number 8 = .ok (.iconst 1, 1) := by decide +kernel
theorem dX2_number_9 : decode cX2_number 9 = .ok (.iadd, 1) := by decide +kernel
theorem dX2_number_10 : decode cX2_number 10 = .ok (.invokevirtual 19, 3) := by decide +kernel
theorem dX2_number_13 : decode cX2_number 13 = .ok (.istore_n 3, 1) := by decide +kernel
theorem dX2_number_14 : decode cX2_number 14 = .ok (.bipush 48, 2) := by decide +kernel
theorem dX2_number_16 : decode cX2_number 16 = .ok (.iload_n 3, 1) := by decide +kernel
theorem dX2_number_17 : decode cX2_number 17 = .ok (.bipush 57, 2) := by decide +kernel
theorem dX2_number_19 : decode cX2_number 19 = .ok (.invokestatic 27, 3) := by decide +kernel
theorem dX2_number_22 : decode cX2_number 22 = .ok (.ifCond .eq 15, 3) := by decide +kernel
theorem dX2_number_25 : decode cX2_number 25 = .ok (.bipush 10, 2) := by decide +kernel
theorem dX2_number_27 : decode cX2_number 27 = .ok (.iload_n 2, 1) := by decide +kernel
theorem dX2_number_28 : decode cX2_number 28 = .ok (.imul, 1) := by decide +kernel
theorem dX2_number_29 : decode cX2_number 29 = .ok (.iload_n 3, 1) := by decide +kernel
theorem dX2_number_30 : decode cX2_number 30 = .ok (.bipush 48, 2) := by decide +kernel
theorem dX2_number_32 : decode cX2_number 32 = .ok (.isub, 1) := by decide +kernel
theorem dX2_number_33 : decode cX2_number 33 = .ok (.iadd, 1) := by decide +kernel
theorem dX2_number_34 : decode cX2_number 34 = .ok (.goto 4, 3) := by decide +kernel
theorem dX2_number_37 : decode cX2_number 37 = .ok (.iload_n 2, 1) := by decide +kernel
theorem dX2_number_38 : decode cX2_number 38 = .ok (.ireturn, 1) := by decide +kernel
theorem dX2_orders_0 : decode cX2_orders 0 = .ok (.iconst 1, 1) := by decide +kernel
theorem dX2_orders_1 : decode cX2_orders 1 = .ok (.istore_n 1, 1) := by decide +kernel
theorem dX2_orders_2 : decode cX2_orders 2 = .ok (.iconst 0, 1) := by decide +kernel
theorem dX2_orders_3 : decode cX2_orders 3 = .ok (.istore_n 2, 1) := by decide +kernel
theorem dX2_orders_4 : decode cX2_orders 4 = .ok (.iload_n 2, 1) := by decide +kernel
theorem dX2_orders_5 : decode cX2_orders 5 = .ok (.aload_n 0, 1) := by decide +kernel
theorem dX2_orders_6 : decode cX2_orders 6 = .ok (.getfield 15, 3) := by decide +kernel
theorem dX2_orders_9 : decode cX2_orders 9 = .ok (.if_icmp .ge 22, 3) := by decide +kernel
theorem dX2_orders_12 : decode cX2_orders 12 = .ok (.aload_n 0, 1) := by decide +kernel
theorem dX2_orders_13 : decode cX2_orders 13 = .ok (.iload_n 2, 1) := by decide +kernel
theorem dX2_orders_14 : decode cX2_orders 14 = .ok (.invokevirtual 19, 3) := by decide +kernel
theorem dX2_orders_17 : decode cX2_orders 17 = .ok (.bipush 59, 2) := by decide +kernel
theorem dX2_orders_19 : decode cX2_orders 19 = .ok (.if_icmp .ne 6, 3) := by decide +kernel
theorem dX2_orders_22 : decode cX2_orders 22 = .ok (.iinc 1 1, 3) := by decide +kernel
theorem dX2_orders_25 : decode cX2_orders 25 = .ok (.iinc 2 1, 3) := by decide +kernel
theorem dX2_orders_28 : decode cX2_orders 28 = .ok (.goto (-24), 3) := by decide +kernel
theorem dX2_orders_31 : decode cX2_orders 31 = .ok (.iload_n 1, 1) := by decide +kernel
theorem dX2_orders_32 : decode cX2_orders 32 = .ok (.ireturn, 1) := by decide +kernel
theorem dX2_endOfOrder_0 : decode cX2_endOfOrder 0 = .ok (.iload_n 1, 1) := by decide +kernel
theorem dX2_endOfOrder_1 : decode cX2_endOfOrder 1 = .ok (.istore_n 2, 1) := by decide +kernel
theorem dX2_endOfOrder_2 : decode cX2_endOfOrder 2 = .ok (.iload_n 2, 1) := by decide +kernel
theorem dX2_endOfOrder_3 : decode cX2_endOfOrder 3 = .ok (.aload_n 0, 1) := by decide +kernel
theorem dX2_endOfOrder_4 : decode cX2_endOfOrder 4 = .ok (.getfield 15, 3) := by decide +kernel
theorem dX2_endOfOrder_7 : decode cX2_endOfOrder 7 = .ok (.if_icmp .ge 21, 3) := by decide +kernel
theorem dX2_endOfOrder_10 : decode cX2_endOfOrder 10 = .ok (.aload_n 0, 1) := by decide +kernel
theorem dX2_endOfOrder_11 : decode cX2_endOfOrder 11 = .ok (.iload_n 2, 1) := by decide +kernel
theorem dX2_endOfOrder_12 : decode cX2_endOfOrder 12 = .ok (.invokevirtual 19, 3) := by decide +kernel
theorem dX2_endOfOrder_15 : decode cX2_endOfOrder 15 = .ok (.bipush 59, 2) := by decide +kernel
theorem dX2_endOfOrder_17 : decode cX2_endOfOrder 17 = .ok (.if_icmp .ne 5, 3) := by decide +kernel
theorem dX2_endOfOrder_20 : decode cX2_endOfOrder 20 = .ok (.iload_n 2, 1) := by decide +kernel
theorem dX2_endOfOrder_21 : decode cX2_endOfOrder 21 = .ok (.ireturn, 1) := by decide +kernel
theorem dX2_endOfOrder_22 : decode cX2_endOfOrder 22 = .ok (.iinc 2 1, 3) := by decide +kernel
theorem dX2_endOfOrder_25 : decode cX2_endOfOrder 25 = .ok (.goto (-23), 3) := by decide +kernel
theorem dX2_endOfOrder_28 : decode cX2_endOfOrder 28 = .ok (.aload_n 0, 1) := by decide +kernel
theorem dX2_endOfOrder_29 : decode cX2_endOfOrder 29 = .ok (.getfield 15, 3) := by decide +kernel
theorem dX2_endOfOrder_32 : decode cX2_endOfOrder 32 = .ok (.ireturn, 1) := by decide +kernel
theorem dX2_firstError_0 : decode cX2_firstError 0 = .ok (.iconst 0, 1) := by decide +kernel
theorem dX2_firstError_1 : decode cX2_firstError 1 = .ok (.istore_n 1, 1) := by decide +kernel
theorem dX2_firstError_2 : decode cX2_firstError 2 = .ok (.iconst 0, 1) := by decide +kernel
theorem dX2_firstError_3 : decode cX2_firstError 3 = .ok (.istore_n 2, 1) := by decide +kernel
theorem dX2_firstError_4 : decode cX2_firstError 4 = .ok (.iload_n 2, 1) := by decide +kernel
theorem dX2_firstError_5 : decode cX2_firstError 5 = .ok (.aload_n 0, 1) := by decide +kernel
theorem dX2_firstError_6 : decode cX2_firstError 6 = .ok (.getfield 15, 3) := by decide +kernel
theorem dX2_firstError_9 : decode cX2_firstError 9 = .ok (.if_icmp .ge 26, 3) := by decide +kernel
theorem dX2_firstError_12 : decode cX2_firstError 12 = .ok (.iload_n 1, 1) := by decide +kernel
theorem dX2_firstError_13 : decode cX2_firstError 13 = .ok (.aload_n 0, 1) := by decide +kernel
theorem dX2_firstError_14 : decode cX2_firstError 14 = .ok (.iload_n 2, 1) := by decide +kernel
theorem dX2_firstError_15 : decode cX2_firstError 15 = .ok (.invokevirtual 19, 3) := by decide +kernel
theorem dX2_firstError_18 : decode cX2_firstError 18 = .ok (.invokestatic 31, 3) := by decide +kernel
theorem dX2_firstError_21 : decode cX2_firstError 21 = .ok (.istore_n 1, 1) := by decide +kernel
theorem dX2_firstError_22 : decode cX2_firstError 22 = .ok (.iload_n 1, 1) := by decide +kernel
theorem dX2_firstError_23 : decode cX2_firstError 23 = .ok (.iconst (-1), 1) := by decide +kernel
theorem dX2_firstError_24 : decode cX2_firstError 24 = .ok (.if_icmp .ne 5, 3) := by decide +kernel
theorem dX2_firstError_27 : decode cX2_firstError 27 = .ok (.iload_n 2, 1) := by decide +kernel
theorem dX2_firstError_28 : decode cX2_firstError 28 = .ok (.ireturn, 1) := by decide +kernel
theorem dX2_firstError_29 : decode cX2_firstError 29 = .ok (.iinc 2 1, 3) := by decide +kernel
theorem dX2_firstError_32 : decode cX2_firstError 32 = .ok (.goto (-28), 3) := by decide +kernel
theorem dX2_firstError_35 : decode cX2_firstError 35 = .ok (.iload_n 1, 1) := by decide +kernel
theorem dX2_firstError_36 : decode cX2_firstError 36 = .ok (.invokestatic 35, 3) := by decide +kernel
theorem dX2_firstError_39 : decode cX2_firstError 39 = .ok (.ifCond .eq 7, 3) := by decide +kernel
theorem dX2_firstError_42 : decode cX2_firstError 42 = .ok (.iconst (-1), 1) := by decide +kernel
theorem dX2_firstError_43 : decode cX2_firstError 43 = .ok (.goto 7, 3) := by decide +kernel
theorem dX2_firstError_46 : decode cX2_firstError 46 = .ok (.aload_n 0, 1) := by decide +kernel
theorem dX2_firstError_47 : decode cX2_firstError 47 = .ok (.getfield 15, 3) := by decide +kernel
theorem dX2_firstError_50 : decode cX2_firstError 50 = .ok (.ireturn, 1) := by decide +kernel
theorem dX2_mayEnd_0 : decode cX2_mayEnd 0 = .ok (.iload_n 0, 1) := by decide +kernel
theorem dX2_mayEnd_1 : decode cX2_mayEnd 1 = .ok (.iconst 3, 1) := by decide +kernel
theorem dX2_mayEnd_2 : decode cX2_mayEnd 2 = .ok (.if_icmp .eq 14, 3) := by decide +kernel
theorem dX2_mayEnd_5 : decode cX2_mayEnd 5 = .ok (.iload_n 0, 1) := by decide +kernel
theorem dX2_mayEnd_6 : decode cX2_mayEnd 6 = .ok (.iconst 5, 1) := by decide +kernel
theorem dX2_mayEnd_7 : decode cX2_mayEnd 7 = .ok (.if_icmp .eq 9, 3) := by decide +kernel
theorem dX2_mayEnd_10 : decode cX2_mayEnd 10 = .ok (.iload_n 0, 1) := by decide +kernel
theorem dX2_mayEnd_11 : decode cX2_mayEnd 11 = .ok (.bipush 6, 2) := by decide +kernel
theorem dX2_mayEnd_13 : decode cX2_mayEnd 13 = .ok (.if_icmp .ne 7, 3) := by decide +kernel
theorem dX2_mayEnd_16 : decode cX2_mayEnd 16 = .ok (.iconst 1, 1) := by decide +kernel
theorem dX2_mayEnd_17 : decode cX2_mayEnd 17 = .ok (.goto 4, 3) := by decide +kernel
theorem dX2_mayEnd_20 : decode cX2_mayEnd 20 = .ok (.iconst 0, 1) := by decide +kernel
theorem dX2_mayEnd_21 : decode cX2_mayEnd 21 = .ok (.ireturn, 1) := by decide +kernel
theorem dX2_placeAfter_0 : decode cX2_placeAfter 0 = .ok (.iload_n 1, 1) := by decide +kernel
theorem dX2_placeAfter_1 : decode cX2_placeAfter 1 = .ok (.bipush 59, 2) := by decide +kernel
theorem dX2_placeAfter_3 : decode cX2_placeAfter 3 = .ok (.if_icmp .ne 16, 3) := by decide +kernel
theorem dX2_placeAfter_6 : decode cX2_placeAfter 6 = .ok (.iload_n 0, 1) := by decide +kernel
theorem dX2_placeAfter_7 : decode cX2_placeAfter 7 = .ok (.invokestatic 35, 3) := by decide +kernel
theorem dX2_placeAfter_10 : decode cX2_placeAfter 10 = .ok (.ifCond .eq 7, 3) := by decide +kernel
theorem dX2_placeAfter_13 : decode cX2_placeAfter 13 = .ok (.iconst 0, 1) := by decide +kernel
theorem dX2_placeAfter_14 : decode cX2_placeAfter 14 = .ok (.goto 4, 3) := by decide +kernel
theorem dX2_placeAfter_17 : decode cX2_placeAfter 17 = .ok (.iconst (-1), 1) := by decide +kernel
theorem dX2_placeAfter_18 : decode cX2_placeAfter 18 = .ok (.ireturn, 1) := by decide +kernel
theorem dX2_placeAfter_19 : decode cX2_placeAfter 19 = .ok (.iload_n 0, 1) := by decide +kernel
theorem dX2_placeAfter_20 : decode cX2_placeAfter 20 = .ok (.tableswitch 123 0 5 #[40, 57, 62, 62, 79, 105], 40) := by decide +kernel
theorem dX2_placeAfter_60 : decode cX2_placeAfter 60 = .ok (.bipush 48, 2) := by decide +kernel
theorem dX2_placeAfter_62 : decode cX2_placeAfter 62 = .ok (.iload_n 1, 1) := by decide +kernel
theorem dX2_placeAfter_63 : decode cX2_placeAfter 63 = .ok (.bipush 51, 2) := by decide +kernel
theorem dX2_placeAfter_65 : decode cX2_placeAfter 65 = .ok (.invokestatic 27, 3) := by decide +kernel
theorem dX2_placeAfter_68 : decode cX2_placeAfter 68 = .ok (.ifCond .eq 7, 3) := by decide +kernel
theorem dX2_placeAfter_71 : decode cX2_placeAfter 71 = .ok (.iconst 1, 1) := by decide +kernel
theorem dX2_placeAfter_72 : decode cX2_placeAfter 72 = .ok (.goto 4, 3) := by decide +kernel
theorem dX2_placeAfter_75 : decode cX2_placeAfter 75 = .ok (.iconst (-1), 1) := by decide +kernel
theorem dX2_placeAfter_76 : decode cX2_placeAfter 76 = .ok (.ireturn, 1) := by decide +kernel
theorem dX2_placeAfter_77 : decode cX2_placeAfter 77 = .ok (.iload_n 1, 1) := by decide +kernel
theorem dX2_placeAfter_78 : decode cX2_placeAfter 78 = .ok (.invokestatic 39, 3) := by decide +kernel
theorem dX2_placeAfter_81 : decode cX2_placeAfter 81 = .ok (.ireturn, 1) := by decide +kernel
theorem dX2_placeAfter_82 : decode cX2_placeAfter 82 = .ok (.bipush 48, 2) := by decide +kernel
theorem dX2_placeAfter_84 : decode cX2_placeAfter 84 = .ok (.iload_n 1, 1) := by decide +kernel
theorem dX2_placeAfter_85 : decode cX2_placeAfter 85 = .ok (.bipush 51, 2) := by decide +kernel
theorem dX2_placeAfter_87 : decode cX2_placeAfter 87 = .ok (.invokestatic 27, 3) := by decide +kernel
theorem dX2_placeAfter_90 : decode cX2_placeAfter 90 = .ok (.ifCond .eq 7, 3) := by decide +kernel
theorem dX2_placeAfter_93 : decode cX2_placeAfter 93 = .ok (.iconst 3, 1) := by decide +kernel
theorem dX2_placeAfter_94 : decode cX2_placeAfter 94 = .ok (.goto 4, 3) := by decide +kernel
theorem dX2_placeAfter_97 : decode cX2_placeAfter 97 = .ok (.iconst (-1), 1) := by decide +kernel
theorem dX2_placeAfter_98 : decode cX2_placeAfter 98 = .ok (.ireturn, 1) := by decide +kernel
theorem dX2_placeAfter_99 : decode cX2_placeAfter 99 = .ok (.iload_n 1, 1) := by decide +kernel
theorem dX2_placeAfter_100 : decode cX2_placeAfter 100 = .ok (.bipush 49, 2) := by decide +kernel
theorem dX2_placeAfter_102 : decode cX2_placeAfter 102 = .ok (.if_icmp .ne 5, 3) := by decide +kernel
theorem dX2_placeAfter_105 : decode cX2_placeAfter 105 = .ok (.iconst 5, 1) := by decide +kernel
theorem dX2_placeAfter_106 : decode cX2_placeAfter 106 = .ok (.ireturn, 1) := by decide +kernel
theorem dX2_placeAfter_107 : decode cX2_placeAfter 107 = .ok (.bipush 50, 2) := by decide +kernel
theorem dX2_placeAfter_109 : decode cX2_placeAfter 109 = .ok (.iload_n 1, 1) := by decide +kernel
theorem dX2_placeAfter_110 : decode cX2_placeAfter 110 = .ok (.bipush 57, 2) := by decide +kernel
theorem dX2_placeAfter_112 : decode cX2_placeAfter 112 = .ok (.invokestatic 27, 3) := by decide +kernel
theorem dX2_placeAfter_115 : decode cX2_placeAfter 115 = .ok (.ifCond .eq 8, 3) := by decide +kernel
theorem dX2_placeAfter_118 : decode cX2_placeAfter 118 = .ok (.bipush 6, 2) := by decide +kernel
theorem dX2_placeAfter_120 : decode cX2_placeAfter 120 = .ok (.goto 4, 3) := by decide +kernel
theorem dX2_placeAfter_123 : decode cX2_placeAfter 123 = .ok (.iconst (-1), 1) := by decide +kernel
theorem dX2_placeAfter_124 : decode cX2_placeAfter 124 = .ok (.ireturn, 1) := by decide +kernel
theorem dX2_placeAfter_125 : decode cX2_placeAfter 125 = .ok (.bipush 48, 2) := by decide +kernel
theorem dX2_placeAfter_127 : decode cX2_placeAfter 127 = .ok (.iload_n 1, 1) := by decide +kernel
theorem dX2_placeAfter_128 : decode cX2_placeAfter 128 = .ok (.bipush 54, 2) := by decide +kernel
theorem dX2_placeAfter_130 : decode cX2_placeAfter 130 = .ok (.invokestatic 27, 3) := by decide +kernel
theorem dX2_placeAfter_133 : decode cX2_placeAfter 133 = .ok (.ifCond .eq 8, 3) := by decide +kernel
theorem dX2_placeAfter_136 : decode cX2_placeAfter 136 = .ok (.bipush 6, 2) := by decide +kernel
theorem dX2_placeAfter_138 : decode cX2_placeAfter 138 = .ok (.goto 4, 3) := by decide +kernel
theorem dX2_placeAfter_141 : decode cX2_placeAfter 141 = .ok (.iconst (-1), 1) := by decide +kernel
theorem dX2_placeAfter_142 : decode cX2_placeAfter 142 = .ok (.ireturn, 1) := by decide +kernel
theorem dX2_placeAfter_143 : decode cX2_placeAfter 143 = .ok (.iconst (-1), 1) := by decide +kernel
theorem dX2_placeAfter_144 : decode cX2_placeAfter 144 = .ok (.ireturn, 1) := by decide +kernel
theorem dX2_placeAfterSnail_0 : decode cX2_placeAfterSnail 0 = .ok (.iload_n 0, 1) := by decide +kernel
theorem dX2_placeAfterSnail_1 : decode cX2_placeAfterSnail 1 = .ok (.bipush 58, 2) := by decide +kernel
theorem dX2_placeAfterSnail_3 : decode cX2_placeAfterSnail 3 = .ok (.if_icmp .ne 5, 3) := by decide +kernel
theorem dX2_placeAfterSnail_6 : decode cX2_placeAfterSnail 6 = .ok (.iconst 2, 1) := by decide +kernel
theorem dX2_placeAfterSnail_7 : decode cX2_placeAfterSnail 7 = .ok (.ireturn, 1) := by decide +kernel
theorem dX2_placeAfterSnail_8 : decode cX2_placeAfterSnail 8 = .ok (.iload_n 0, 1) := by decide +kernel
theorem dX2_placeAfterSnail_9 : decode cX2_placeAfterSnail 9 = .ok (.bipush 98, 2) := by decide +kernel
theorem dX2_placeAfterSnail_11 : decode cX2_placeAfterSnail 11 = .ok (.if_icmp .ne 5, 3) := by decide +kernel
theorem dX2_placeAfterSnail_14 : decode cX2_placeAfterSnail 14 = .ok (.iconst 4, 1) := by decide +kernel
theorem dX2_placeAfterSnail_15 : decode cX2_placeAfterSnail 15 = .ok (.ireturn, 1) := by decide +kernel
theorem dX2_placeAfterSnail_16 : decode cX2_placeAfterSnail 16 = .ok (.iload_n 0, 1) := by decide +kernel
theorem dX2_placeAfterSnail_17 : decode cX2_placeAfterSnail 17 = .ok (.bipush 109, 2) := by decide +kernel
theorem dX2_placeAfterSnail_19 : decode cX2_placeAfterSnail 19 = .ok (.if_icmp .ne 8, 3) := by decide +kernel
theorem dX2_placeAfterSnail_22 : decode cX2_placeAfterSnail 22 = .ok (.bipush 6, 2) := by decide +kernel
theorem dX2_placeAfterSnail_24 : decode cX2_placeAfterSnail 24 = .ok (.goto 4, 3) := by decide +kernel
theorem dX2_placeAfterSnail_27 : decode cX2_placeAfterSnail 27 = .ok (.iconst (-1), 1) := by decide +kernel
theorem dX2_placeAfterSnail_28 : decode cX2_placeAfterSnail 28 = .ok (.ireturn, 1) := by decide +kernel
theorem dX2_isBetween_0 : decode cX2_isBetween 0 = .ok (.iload_n 1, 1) := by decide +kernel
theorem dX2_isBetween_1 : decode cX2_isBetween 1 = .ok (.iload_n 0, 1) := by decide +kernel
theorem dX2_isBetween_2 : decode cX2_isBetween 2 = .ok (.if_icmp .lt 12, 3) := by decide +kernel
theorem dX2_isBetween_5 : decode cX2_isBetween 5 = .ok (.iload_n 1, 1) := by decide +kernel
theorem dX2_isBetween_6 : decode cX2_isBetween 6 = .ok (.iload_n 2, 1) := by decide +kernel
theorem dX2_isBetween_7 : decode cX2_isBetween 7 = .ok (.if_icmp .gt 7, 3) := by decide +kernel
theorem dX2_isBetween_10 : decode cX2_isBetween 10 = .ok (.iconst 1, 1) := by decide +kernel
theorem dX2_isBetween_11 : decode cX2_isBetween 11 = .ok (.goto 4, 3) := by decide +kernel
theorem dX2_isBetween_14 : decode cX2_isBetween 14 = .ok (.iconst 0, 1) := by decide +kernel
theorem dX2_isBetween_15 : decode cX2_isBetween 15 = .ok (.ireturn, 1) := by decide +kernel
theorem dX3_init_0 : decode cX3_init 0 = .ok (.aload_n 0, 1) := by decide +kernel
theorem dX3_init_1 : decode cX3_init 1 = .ok (.invokespecial 3, 3) := by decide +kernel
theorem dX3_init_4 : decode cX3_init 4 = .ok (.aload_n 0, 1) := by decide +kernel
theorem dX3_init_5 : decode cX3_init 5 = .ok (.new 9, 3) := by decide +kernel
theorem dX3_init_8 : decode cX3_init 8 = .ok (.dup, 1) := by decide +kernel
theorem dX3_init_9 : decode cX3_init 9 = .ok (.invokespecial 11, 3) := by decide +kernel
theorem dX3_init_12 : decode cX3_init 12 = .ok (.putfield 12, 3) := by decide +kernel
theorem dX3_init_15 : decode cX3_init 15 = .ok (.aload_n 0, 1) := by decide +kernel
theorem dX3_init_16 : decode cX3_init 16 = .ok (.new 9, 3) := by decide +kernel
theorem dX3_init_19 : decode cX3_init 19 = .ok (.dup, 1) := by decide +kernel
theorem dX3_init_20 : decode cX3_init 20 = .ok (.invokespecial 11, 3) := by decide +kernel
theorem dX3_init_23 : decode cX3_init 23 = .ok (.putfield 18, 3) := by decide +kernel
theorem dX3_init_26 : decode cX3_init 26 = .ok (.aload_n 0, 1) := by decide +kernel
theorem dX3_init_27 : decode cX3_init 27 = .ok (.new 9, 3) := by decide +kernel
theorem dX3_init_30 : decode cX3_init 30 = .ok (.dup, 1) := by decide +kernel
theorem dX3_init_31 : decode cX3_init 31 = .ok (.invokespecial 11, 3) := by decide +kernel
theorem dX3_init_34 : decode cX3_init 34 = .ok (.putfield 21, 3) := by decide +kernel
theorem dX3_init_37 : decode cX3_init 37 = .ok (.aload_n 0, 1) := by decide +kernel
theorem dX3_init_38 : decode cX3_init 38 = .ok (.new 9, 3) := by decide +kernel
theorem dX3_init_41 : decode cX3_init 41 = .ok (.dup, 1) := by decide +kernel
theorem dX3_init_42 : decode cX3_init 42 = .ok (.invokespecial 11, 3) := by decide +kernel
theorem dX3_init_45 : decode cX3_init 45 = .ok (.putfield 24, 3) := by decide +kernel
theorem dX3_init_48 : decode cX3_init 48 = .ok (.return_, 1) := by decide +kernel
theorem dX3_keep_0 : decode cX3_keep 0 = .ok (.aload_n 0, 1) := by decide +kernel
theorem dX3_keep_1 : decode cX3_keep 1 = .ok (.getfield 27, 3) := by decide +kernel
theorem dX3_keep_4 : decode cX3_keep 4 = .ok (.iconst 4, 1) := by decide +kernel
theorem dX3_keep_5 : decode cX3_keep 5 = .ok (.if_icmp .ge 16, 3) := by decide +kernel
theorem dX3_keep_8 : decode cX3_keep 8 = .ok (.aload_n 0, 1) := by decide +kernel
theorem dX3_keep_9 : decode cX3_keep 9 = .ok (.dup, 1) := by decide +kernel
theorem dX3_keep_10 : decode cX3_keep 10 = .ok (.getfield 27, 3) := by decide +kernel
theorem dX3_keep_13 : decode cX3_keep 13 = .ok (.iconst 1, 1) := by decide +kernel
theorem dX3_keep_14 : decode cX3_keep 14 = .ok (.iadd, 1) := by decide +kernel
theorem dX3_keep_15 : decode cX3_keep 15 = .ok (.putfield 27, 3) := by decide +kernel
theorem dX3_keep_18 : decode cX3_keep 18 = .ok (.goto 15, 3) := by decide +kernel
theorem dX3_keep_21 : decode cX3_keep 21 = .ok (.aload_n 0, 1) := by decide +kernel
theorem dX3_keep_22 : decode cX3_keep 22 = .ok (.aload_n 0, 1) := by decide +kernel
theorem dX3_keep_23 : decode cX3_keep 23 = .ok (.getfield 31, 3) := by decide +kernel
theorem dX3_keep_26 : decode cX3_keep 26 = .ok (.iconst 1, 1) := by decide +kernel
theorem dX3_keep_27 : decode cX3_keep 27 = .ok (.iadd, 1) := by decide +kernel
theorem dX3_keep_28 : decode cX3_keep 28 = .ok (.iconst 4, 1) := by decide +kernel
theorem dX3_keep_29 : decode cX3_keep 29 = .ok (.irem, 1) := by decide +kernel
theorem dX3_keep_30 : decode cX3_keep 30 = .ok (.putfield 31, 3) := by decide +kernel
theorem dX3_keep_33 : decode cX3_keep 33 = .ok (.aload_n 0, 1) := by decide +kernel
theorem dX3_keep_34 : decode cX3_keep 34 = .ok (.invokevirtual 34, 3) := by decide +kernel
theorem dX3_keep_37 : decode cX3_keep 37 = .ok (.aload_n 1, 1) := by decide +kernel
theorem dX3_keep_38 : decode cX3_keep 38 = .ok (.invokevirtual 38, 3) := by decide +kernel
theorem dX3_keep_41 : decode cX3_keep 41 = .ok (.return_, 1) := by decide +kernel
theorem dX3_giveBackLatest_0 : decode cX3_giveBackLatest 0 = .ok (.aload_n 0, 1) := by decide +kernel
theorem dX3_giveBackLatest_1 : decode cX3_giveBackLatest 1 = .ok (.getfield 27, 3) := by decide +kernel
theorem dX3_giveBackLatest_4 : decode cX3_giveBackLatest 4 = .ok (.ifCond .le 21, 3) := by decide +kernel
theorem dX3_giveBackLatest_7 : decode cX3_giveBackLatest 7 = .ok (.aload_n 1, 1) := by decide +kernel
theorem dX3_giveBackLatest_8 : decode cX3_giveBackLatest 8 = .ok (.aload_n 0, 1) := by decide +kernel
theorem dX3_giveBackLatest_9 : decode cX3_giveBackLatest 9 = .ok (.invokevirtual 34, 3) := by decide +kernel
theorem dX3_giveBackLatest_12 : decode cX3_giveBackLatest 12 = .ok (.invokevirtual 38, 3) := by decide +kernel
theorem dX3_giveBackLatest_15 : decode cX3_giveBackLatest 15 = .ok (.aload_n 0, 1) := by decide +kernel
theorem dX3_giveBackLatest_16 : decode cX3_giveBackLatest 16 = .ok (.dup, 1) := by decide +kernel
theorem dX3_giveBackLatest_17 : decode cX3_giveBackLatest 17 = .ok (.getfield 27, 3) := by decide +kernel
theorem dX3_giveBackLatest_20 : decode cX3_giveBackLatest 20 = .ok (.iconst 1, 1) := by decide +kernel
theorem dX3_giveBackLatest_21 : decode cX3_giveBackLatest 21 = .ok (.isub, 1) := by decide +kernel
theorem dX3_giveBackLatest_22 : decode cX3_giveBackLatest 22 = .ok (.putfield 27, 3) := by decide +kernel
theorem dX3_giveBackLatest_25 : decode cX3_giveBackLatest 25 = .ok (.return_, 1) := by decide +kernel
theorem dX3_latest_0 : decode cX3_latest 0 = .ok (.aload_n 0, 1) := by decide +kernel
theorem dX3_latest_1 : decode cX3_latest 1 = .ok (.getfield 31, 3) := by decide +kernel
theorem dX3_latest_4 : decode cX3_latest 4 = .ok (.aload_n 0, 1) := by decide +kernel
theorem dX3_latest_5 : decode cX3_latest 5 = .ok (.getfield 27, 3) := by decide +kernel
theorem dX3_latest_8 : decode cX3_latest 8 = .ok (.iadd, 1) := by decide +kernel
theorem dX3_latest_9 : decode cX3_latest 9 = .ok (.iconst 1, 1) := by decide +kernel
theorem dX3_latest_10 : decode cX3_latest 10 = .ok (.isub, 1) := by decide +kernel
theorem dX3_latest_11 : decode cX3_latest 11 = .ok (.iconst 4, 1) := by decide +kernel
theorem dX3_latest_12 : decode cX3_latest 12 = .ok (.irem, 1) := by decide +kernel
theorem dX3_latest_13 : decode cX3_latest 13 = .ok (.tableswitch 42 0 2 #[27, 32, 37], 27) := by decide +kernel
theorem dX3_latest_40 : decode cX3_latest 40 = .ok (.aload_n 0, 1) := by decide +kernel
theorem dX3_latest_41 : decode cX3_latest 41 = .ok (.getfield 12, 3) := by decide +kernel
theorem dX3_latest_44 : decode cX3_latest 44 = .ok (.areturn, 1) := by decide +kernel
theorem dX3_latest_45 : decode cX3_latest 45 = .ok (.aload_n 0, 1) := by decide +kernel
theorem dX3_latest_46 : decode cX3_latest 46 = .ok (.getfield 18, 3) := by decide +kernel
theorem dX3_latest_49 : decode cX3_latest 49 = .ok (.areturn, 1) := by decide +kernel
theorem dX3_latest_50 : decode cX3_latest 50 = .ok (.aload_n 0, 1) := by decide +kernel
theorem dX3_latest_51 : decode cX3_latest 51 = .ok (.getfield 21, 3) := by decide +kernel
theorem dX3_latest_54 : decode cX3_latest 54 = .ok (.areturn, 1) := by decide +kernel
theorem dX3_latest_55 : decode cX3_latest 55 = .ok (.aload_n 0, 1) := by decide +kernel
theorem dX3_latest_56 : decode cX3_latest 56 = .ok (.getfield 24, 3) := by decide +kernel
theorem dX3_latest_59 : decode cX3_latest 59 = .ok (.areturn, 1) := by decide +kernel
theorem dX4_init_0 : decode cX4_init 0 = .ok (.aload_n 0, 1) := by decide +kernel
theorem dX4_init_1 : decode cX4_init 1 = .ok (.invokespecial 3, 3) := by decide +kernel
theorem dX4_init_4 : decode cX4_init 4 = .ok (.aload_n 0, 1) := by decide +kernel
theorem dX4_init_5 : decode cX4_init 5 = .ok (.new 9, 3) := by decide +kernel
theorem dX4_init_8 : decode cX4_init 8 = .ok (.dup, 1) := by decide +kernel
theorem dX4_init_9 : decode cX4_init 9 = .ok (.invokespecial 11, 3) := by decide +kernel
theorem dX4_init_12 : decode cX4_init 12 = .ok (.putfield 12, 3) := by decide +kernel
theorem dX4_init_15 : decode cX4_init 15 = .ok (.return_, 1) := by decide +kernel
theorem dX4_ring_0 : decode cX4_ring 0 = .ok (.iload_n 0, 1) := by decide +kernel
theorem dX4_ring_1 : decode cX4_ring 1 = .ok (.iload_n 0, 1) := by decide +kernel
theorem dX4_ring_2 : decode cX4_ring 2 = .ok (.iconst 1, 1) := by decide +kernel
theorem dX4_ring_3 : decode cX4_ring 3 = .ok (.ishr, 1) := by decide +kernel
theorem dX4_ring_4 : decode cX4_ring 4 = .ok (.ixor, 1) := by decide +kernel
theorem dX4_ring_5 : decode cX4_ring 5 = .ok (.ireturn, 1) := by decide +kernel
theorem dX4_neighbour_0 : decode cX4_neighbour 0 = .ok (.aload_n 0, 1) := by decide +kernel
theorem dX4_neighbour_1 : decode cX4_neighbour 1 = .ok (.getfield 18, 3) := by decide +kernel
theorem dX4_neighbour_4 : decode cX4_neighbour 4 = .ok (.invokestatic 22, 3) := by decide +kernel
theorem dX4_neighbour_7 : decode cX4_neighbour 7 = .ok (.iload_n 1, 1) := by decide +kernel
theorem dX4_neighbour_8 : decode cX4_neighbour 8 = .ok (.iadd, 1) := by decide +kernel
theorem dX4_neighbour_9 : decode cX4_neighbour 9 = .ok (.iconst 3, 1) := by decide +kernel
theorem dX4_neighbour_10 : decode cX4_neighbour 10 = .ok (.iand, 1) := by decide +kernel
theorem dX4_neighbour_11 : decode cX4_neighbour 11 = .ok (.invokestatic 22, 3) := by decide +kernel
theorem dX4_neighbour_14 : decode cX4_neighbour 14 = .ok (.ireturn, 1) := by decide +kernel
theorem dX4_stepUnder_0 : decode cX4_stepUnder 0 = .ok (.aload_n 0, 1) := by decide +kernel
theorem dX4_stepUnder_1 : decode cX4_stepUnder 1 = .ok (.getfield 18, 3) := by decide +kernel
theorem dX4_stepUnder_4 : decode cX4_stepUnder 4 = .ok (.iload_n 2, 1) := by decide +kernel
theorem dX4_stepUnder_5 : decode cX4_stepUnder 5 = .ok (.ixor, 1) := by decide +kernel
theorem dX4_stepUnder_6 : decode cX4_stepUnder 6 = .ok (.iconst 3, 1) := by decide +kernel
theorem dX4_stepUnder_7 : decode cX4_stepUnder 7 = .ok (.if_icmp .ne 19, 3) := by decide +kernel
theorem dX4_stepUnder_10 : decode cX4_stepUnder 10 = .ok (.iload_n 1, 1) := by decide +kernel
theorem dX4_stepUnder_11 : decode cX4_stepUnder 11 = .ok (.iconst 1, 1) := by decide +kernel
theorem dX4_stepUnder_12 : decode cX4_stepUnder 12 = .ok (.if_icmp .ne 12, 3) := by decide +kernel
theorem dX4_stepUnder_15 : decode cX4_stepUnder 15 = .ok (.iconst 2, 1) := by decide +kernel
theorem dX4_stepUnder_16 : decode cX4_stepUnder 16 = .ok (.aload_n 0, 1) := by decide +kernel
theorem dX4_stepUnder_17 : decode cX4_stepUnder 17 = .ok (.getfield 26, 3) := by decide +kernel
theorem dX4_stepUnder_20 : decode cX4_stepUnder 20 = .ok (.imul, 1) := by decide +kernel
theorem dX4_stepUnder_21 : decode cX4_stepUnder 21 = .ok (.goto 4, 3) := by decide +kernel
theorem dX4_stepUnder_24 : decode cX4_stepUnder 24 = .ok (.iconst 0, 1) := by decide +kernel
theorem dX4_stepUnder_25 : decode cX4_stepUnder 25 = .ok (.ireturn, 1) := by decide +kernel
theorem dX4_stepUnder_26 : decode cX4_stepUnder 26 = .ok (.iload_n 2, 1) := by decide +kernel
theorem dX4_stepUnder_27 : decode cX4_stepUnder 27 = .ok (.aload_n 0, 1) := by decide +kernel
theorem dX4_stepUnder_28 : decode cX4_stepUnder 28 = .ok (.getfield 18, 3) := by decide +kernel
theorem dX4_stepUnder_31 : decode cX4_stepUnder 31 = .ok (.if_icmp .ne 5, 3) := by decide +kernel
theorem dX4_stepUnder_34 : decode cX4_stepUnder 34 = .ok (.iconst 0, 1) := by decide +kernel
theorem dX4_stepUnder_35 : decode cX4_stepUnder 35 = .ok (.ireturn, 1) := by decide +kernel
theorem dX4_stepUnder_36 : decode cX4_stepUnder 36 = .ok (.iload_n 2, 1) := by decide +kernel
theorem dX4_stepUnder_37 : decode cX4_stepUnder 37 = .ok (.aload_n 0, 1) := by decide +kernel
theorem dX4_stepUnder_38 : decode cX4_stepUnder 38 = .ok (.iconst 1, 1) := by decide +kernel
theorem dX4_stepUnder_39 : decode cX4_stepUnder 39 = .ok (.invokevirtual 29, 3) := by decide +kernel
theorem dX4_stepUnder_42 : decode cX4_stepUnder 42 = .ok (.if_icmp .ne 7, 3) := by decide +kernel
theorem dX4_stepUnder_45 : decode cX4_stepUnder 45 = .ok (.iconst 1, 1) := by decide +kernel
theorem dX4_stepUnder_46 : decode cX4_stepUnder 46 = .ok (.goto 4, 3) := by decide +kernel
theorem dX4_stepUnder_49 : decode cX4_stepUnder 49 = .ok (.iconst (-1), 1) := by decide +kernel
theorem dX4_stepUnder_50 : decode cX4_stepUnder 50 = .ok (.ireturn, 1) := by decide +kernel
theorem dX4_hasRoom_0 : decode cX4_hasRoom 0 = .ok (.aload_n 0, 1) := by decide +kernel
theorem dX4_hasRoom_1 : decode cX4_hasRoom 1 = .ok (.getfield 32, 3) := by decide +kernel
theorem dX4_hasRoom_4 : decode cX4_hasRoom 4 = .ok (.iload_n 1, 1) := by decide +kernel
theorem dX4_hasRoom_5 : decode cX4_hasRoom 5 = .ok (.iadd, 1) := by decide +kernel
theorem dX4_hasRoom_6 : decode cX4_hasRoom 6 = .ok (.ldc 35, 2) := by decide +kernel
theorem dX4_hasRoom_8 : decode cX4_hasRoom 8 = .ok (.if_icmp .gt 18, 3) := by decide +kernel
theorem dX4_hasRoom_11 : decode cX4_hasRoom 11 = .ok (.aload_n 0, 1) := by decide +kernel
theorem dX4_hasRoom_12 : decode cX4_hasRoom 12 = .ok (.getfield 36, 3) := by decide +kernel
theorem dX4_hasRoom_15 : decode cX4_hasRoom 15 = .ok (.iload_n 2, 1) := by decide +kernel
theorem dX4_hasRoom_16 : decode cX4_hasRoom 16 = .ok (.iadd, 1) := by decide +kernel
theorem dX4_hasRoom_17 : decode cX4_hasRoom 17 = .ok (.ldc 35, 2) := by decide +kernel
theorem dX4_hasRoom_19 : decode cX4_hasRoom 19 = .ok (.if_icmp .gt 7, 3) := by decide +kernel
theorem dX4_hasRoom_22 : decode cX4_hasRoom 22 = .ok (.iconst 1, 1) := by decide +kernel
theorem dX4_hasRoom_23 : decode cX4_hasRoom 23 = .ok (.goto 4, 3) := by decide +kernel
theorem dX4_hasRoom_26 : decode cX4_hasRoom 26 = .ok (.iconst 0, 1) := by decide +kernel
theorem dX4_hasRoom_27 : decode cX4_hasRoom 27 = .ok (.ireturn, 1) := by decide +kernel
theorem dX4_sense_0 : decode cX4_sense 0 = .ok (.aload_n 0, 1) := by decide +kernel
theorem dX4_sense_1 : decode cX4_sense 1 = .ok (.getfield 18, 3) := by decide +kernel
theorem dX4_sense_4 : decode cX4_sense 4 = .ok (.iload_n 1, 1) := by decide +kernel
theorem dX4_sense_5 : decode cX4_sense 5 = .ok (.ixor, 1) := by decide +kernel
theorem dX4_sense_6 : decode cX4_sense 6 = .ok (.iconst 3, 1) := by decide +kernel
theorem dX4_sense_7 : decode cX4_sense 7 = .ok (.if_icmp .ne 13, 3) := by decide +kernel
theorem dX4_sense_10 : decode cX4_sense 10 = .ok (.aload_n 0, 1) := by decide +kernel
theorem dX4_sense_11 : decode cX4_sense 11 = .ok (.dup, 1) := by decide +kernel
theorem dX4_sense_12 : decode cX4_sense 12 = .ok (.getfield 39, 3) := by decide +kernel
theorem dX4_sense_15 : decode cX4_sense 15 = .ok (.iconst 1, 1) := by decide +kernel
theorem dX4_sense_16 : decode cX4_sense 16 = .ok (.iadd, 1) := by decide +kernel
theorem dX4_sense_17 : decode cX4_sense 17 = .ok (.putfield 39, 3) := by decide +kernel
theorem dX4_sense_20 : decode cX4_sense 20 = .ok (.aload_n 0, 1) := by decide +kernel
theorem dX4_sense_21 : decode cX4_sense 21 = .ok (.getfield 12, 3) := by decide +kernel
theorem dX4_sense_24 : decode cX4_sense 24 = .ok (.iload_n 2, 1) := by decide +kernel
theorem dX4_sense_25 : decode cX4_sense 25 = .ok (.iload_n 3, 1) := by decide +kernel
theorem dX4_sense_26 : decode cX4_sense 26 = .ok (.aload_n 0, 1) := by decide +kernel
theorem dX4_sense_27 : decode cX4_sense 27 = .ok (.getfield 18, 3) := by decide +kernel
theorem dX4_sense_30 : decode cX4_sense 30 = .ok (.invokevirtual 42, 3) := by decide +kernel
theorem dX4_sense_33 : decode cX4_sense 33 = .ok (.aload_n 0, 1) := by decide +kernel
theorem dX4_sense_34 : decode cX4_sense 34 = .ok (.iload_n 1, 1) := by decide +kernel
theorem dX4_sense_35 : decode cX4_sense 35 = .ok (.iload_n 2, 1) := by decide +kernel
theorem dX4_sense_36 : decode cX4_sense 36 = .ok (.iload_n 3, 1) := by decide +kernel
theorem dX4_sense_37 : decode cX4_sense 37 = .ok (.invokevirtual 46, 3) := by decide +kernel
theorem dX4_sense_40 : decode cX4_sense 40 = .ok (.return_, 1) := by decide +kernel
theorem dX4_canRetrace_0 : decode cX4_canRetrace 0 = .ok (.aload_n 0, 1) := by decide +kernel
theorem dX4_canRetrace_1 : decode cX4_canRetrace 1 = .ok (.getfield 12, 3) := by decide +kernel
theorem dX4_canRetrace_4 : decode cX4_canRetrace 4 = .ok (.getfield 49, 3) := by decide +kernel
theorem dX4_canRetrace_7 : decode cX4_canRetrace 7 = .ok (.iload_n 1, 1) := by decide +kernel
theorem dX4_canRetrace_8 : decode cX4_canRetrace 8 = .ok (.if_icmp .ge 5, 3) := by decide +kernel
theorem dX4_canRetrace_11 : decode cX4_canRetrace 11 = .ok (.iconst 0, 1) := by decide +kernel
theorem dX4_canRetrace_12 : decode cX4_canRetrace 12 = .ok (.ireturn, 1) := by decide +kernel
theorem dX4_canRetrace_13 : decode cX4_canRetrace 13 = .ok (.iconst 0, 1) := by decide +kernel
theorem dX4_canRetrace_14 : decode cX4_canRetrace 14 = .ok (.istore_n 2, 1) := by decide +kernel
theorem dX4_canRetrace_15 : decode cX4_canRetrace 15 = .ok (.iconst 0, 1) := by decide +kernel
theorem dX4_canRetrace_16 : decode cX4_canRetrace 16 = .ok (.istore_n 3, 1) := by decide +kernel
theorem dX4_canRetrace_17 : decode cX4_canRetrace 17 = .ok (.aload_n 0, 1) := by decide +kernel
theorem dX4_canRetrace_18 : decode cX4_canRetrace 18 = .ok (.getfield 12, 3) := by decide +kernel
theorem dX4_canRetrace_21 : decode cX4_canRetrace 21 = .ok (.getfield 49, 3) := by decide +kernel
theorem dX4_canRetrace_24 : decode cX4_canRetrace 24 = .ok (.iload_n 1, 1) := by decide +kernel
theorem dX4_canRetrace_25 : decode cX4_canRetrace 25 = .ok (.isub, 1) := by decide +kernel
theorem dX4_canRetrace_26 : decode cX4_canRetrace 26 = .ok (.istore 4, 2) := by decide +kernel
theorem dX4_canRetrace_28 : decode cX4_canRetrace 28 = .ok (.iload 4, 2) := by decide +kernel
theorem dX4_canRetrace_30 : decode cX4_canRetrace 30 = .ok (.aload_n 0, 1) := by decide +kernel
theorem dX4_canRetrace_31 : decode cX4_canRetrace 31 = .ok (.getfield 12, 3) := by decide +kernel
theorem dX4_canRetrace_34 : decode cX4_canRetrace 34 = .ok (.getfield 49, 3) := by decide +kernel
theorem dX4_canRetrace_37 : decode cX4_canRetrace 37 = .ok (.if_icmp .ge 36, 3) := by decide +kernel
theorem dX4_canRetrace_40 : decode cX4_canRetrace 40 = .ok (.iload_n 2, 1) := by decide +kernel
theorem dX4_canRetrace_41 : decode cX4_canRetrace 41 = .ok (.aload_n 0, 1) := by decide +kernel
theorem dX4_canRetrace_42 : decode cX4_canRetrace 42 = .ok (.getfield 12, 3) := by decide +kernel
theorem dX4_canRetrace_45 : decode cX4_canRetrace 45 = .ok (.iload 4, 2) := by decide +kernel
theorem dX4_canRetrace_47 : decode cX4_canRetrace 47 = .ok (.invokevirtual 52, 3) := by decide +kernel
theorem dX4_canRetrace_50 : decode cX4_canRetrace 50 = .ok (.iadd, 1) := by decide +kernel
theorem dX4_canRetrace_51 : decode cX4_canRetrace 51 = .ok (.istore_n 2, 1) := by decide +kernel
theorem dX4_canRetrace_52 : decode cX4_canRetrace 52 = .ok (.iload_n 3, 1) := by decide +kernel
theorem dX4_canRetrace_53 : decode cX4_canRetrace 53 = .ok (.aload_n 0, 1) := by decide +kernel
theorem dX4_canRetrace_54 : decode cX4_canRetrace 54 = .ok (.getfield 12, 3) := by decide +kernel
theorem dX4_canRetrace_57 : decode cX4_canRetrace 57 = .ok (.iload 4, 2) := by decide +kernel
theorem dX4_canRetrace_59 : decode cX4_canRetrace 59 = .ok (.invokevirtual 55, 3) := by decide +kernel
theorem dX4_canRetrace_62 : decode cX4_canRetrace 62 = .ok (.invokestatic 58, 3) := by decide +kernel
theorem dX4_canRetrace_65 : decode cX4_canRetrace 65 = .ok (.iadd, 1) := by decide +kernel
theorem dX4_canRetrace_66 : decode cX4_canRetrace 66 = .ok (.istore_n 3, 1) := by decide +kernel
theorem dX4_canRetrace_67 : decode cX4_canRetrace 67 = .ok (.iinc 4 1, 3) := by decide +kernel
theorem dX4_canRetrace_70 : decode cX4_canRetrace 70 = .ok (.goto (-42), 3) := by decide +kernel
theorem dX4_canRetrace_73 : decode cX4_canRetrace 73 = .ok (.aload_n 0, 1) := by decide +kernel
theorem dX4_canRetrace_74 : decode cX4_canRetrace 74 = .ok (.iload_n 2, 1) := by decide +kernel
theorem dX4_canRetrace_75 : decode cX4_canRetrace 75 = .ok (.iload_n 3, 1) := by decide +kernel
theorem dX4_canRetrace_76 : decode cX4_canRetrace 76 = .ok (.invokevirtual 63, 3) := by decide +kernel
theorem dX4_canRetrace_79 : decode cX4_canRetrace 79 = .ok (.ireturn, 1) := by decide +kernel
theorem dX4_retrace_0 : decode cX4_retrace 0 = .ok (.iconst 0, 1) := by decide +kernel
theorem dX4_retrace_1 : decode cX4_retrace 1 = .ok (.istore_n 2, 1) := by decide +kernel
theorem dX4_retrace_2 : decode cX4_retrace 2 = .ok (.iload_n 2, 1) := by decide +kernel
theorem dX4_retrace_3 : decode cX4_retrace 3 = .ok (.iload_n 1, 1) := by decide +kernel
theorem dX4_retrace_4 : decode cX4_retrace 4 = .ok (.if_icmp .ge 55, 3) := by decide +kernel
theorem dX4_retrace_7 : decode cX4_retrace 7 = .ok (.aload_n 0, 1) := by decide +kernel
theorem dX4_retrace_8 : decode cX4_retrace 8 = .ok (.getfield 12, 3) := by decide +kernel
theorem dX4_retrace_11 : decode cX4_retrace 11 = .ok (.getfield 49, 3) := by decide +kernel
theorem dX4_retrace_14 : decode cX4_retrace 14 = .ok (.iconst 1, 1) := by decide +kernel
theorem dX4_retrace_15 : decode cX4_retrace 15 = .ok (.isub, 1) := by decide +kernel
theorem dX4_retrace_16 : decode cX4_retrace 16 = .ok (.istore_n 3, 1) := by decide +kernel
theorem dX4_retrace_17 : decode cX4_retrace 17 = .ok (.aload_n 0, 1) := by decide +kernel
theorem dX4_retrace_18 : decode cX4_retrace 18 = .ok (.aload_n 0, 1) := by decide +kernel
theorem dX4_retrace_19 : decode cX4_retrace 19 = .ok (.getfield 12, 3) := by decide +kernel
theorem dX4_retrace_22 : decode cX4_retrace 22 = .ok (.iload_n 3, 1) := by decide +kernel
theorem dX4_retrace_23 : decode cX4_retrace 23 = .ok (.invokevirtual 67, 3) := by decide +kernel
theorem dX4_retrace_26 : decode cX4_retrace 26 = .ok (.aload_n 0, 1) := by decide +kernel
theorem dX4_retrace_27 : decode cX4_retrace 27 = .ok (.getfield 12, 3) := by decide +kernel
theorem dX4_retrace_30 : decode cX4_retrace 30 = .ok (.iload_n 3, 1) := by decide +kernel
theorem dX4_retrace_31 : decode cX4_retrace 31 = .ok (.invokevirtual 55, 3) := by decide +kernel
theorem dX4_retrace_34 : decode cX4_retrace 34 = .ok (.ineg, 1) := by decide +kernel
theorem dX4_retrace_35 : decode cX4_retrace 35 = .ok (.aload_n 0, 1) := by decide +kernel
theorem dX4_retrace_36 : decode cX4_retrace 36 = .ok (.getfield 12, 3) := by decide +kernel
theorem dX4_retrace_39 : decode cX4_retrace 39 = .ok (.iload_n 3, 1) := by decide +kernel
theorem dX4_retrace_40 : decode cX4_retrace 40 = .ok (.invokevirtual 52, 3) := by decide +kernel
theorem dX4_retrace_43 : decode cX4_retrace 43 = .ok (.invokevirtual 46, 3) := by decide +kernel
theorem dX4_retrace_46 : decode cX4_retrace 46 = .ok (.aload_n 0, 1) := by decide +kernel
theorem dX4_retrace_47 : decode cX4_retrace 47 = .ok (.getfield 12, 3) := by decide +kernel
theorem dX4_retrace_50 : decode cX4_retrace 50 = .ok (.invokevirtual 70, 3) := by decide +kernel
theorem dX4_retrace_53 : decode cX4_retrace 53 = .ok (.iinc 2 1, 3) := by decide +kernel
theorem dX4_retrace_56 : decode cX4_retrace 56 = .ok (.goto (-54), 3) := by decide +kernel
theorem dX4_retrace_59 : decode cX4_retrace 59 = .ok (.return_, 1) := by decide +kernel
theorem dX4_move_0 : decode cX4_move 0 = .ok (.aload_n 0, 1) := by decide +kernel
theorem dX4_move_1 : decode cX4_move 1 = .ok (.aload_n 0, 1) := by decide +kernel
theorem dX4_move_2 : decode cX4_move 2 = .ok (.getfield 18, 3) := by decide +kernel
theorem dX4_move_5 : decode cX4_move 5 = .ok (.iload_n 1, 1) := by decide +kernel
theorem dX4_move_6 : decode cX4_move 6 = .ok (.ixor, 1) := by decide +kernel
theorem dX4_move_7 : decode cX4_move 7 = .ok (.iload_n 2, 1) := by decide +kernel
theorem dX4_move_8 : decode cX4_move 8 = .ok (.invokevirtual 73, 3) := by decide +kernel
theorem dX4_move_11 : decode cX4_move 11 = .ok (.aload_n 0, 1) := by decide +kernel
theorem dX4_move_12 : decode cX4_move 12 = .ok (.iload_n 1, 1) := by decide +kernel
theorem dX4_move_13 : decode cX4_move 13 = .ok (.putfield 18, 3) := by decide +kernel
theorem dX4_move_16 : decode cX4_move 16 = .ok (.aload_n 0, 1) := by decide +kernel
theorem dX4_move_17 : decode cX4_move 17 = .ok (.dup, 1) := by decide +kernel
theorem dX4_move_18 : decode cX4_move 18 = .ok (.getfield 77, 3) := by decide +kernel
theorem dX4_move_21 : decode cX4_move 21 = .ok (.iload_n 2, 1) := by decide +kernel
theorem dX4_move_22 : decode cX4_move 22 = .ok (.iadd, 1) := by decide +kernel
theorem dX4_move_23 : decode cX4_move 23 = .ok (.putfield 77, 3) := by decide +kernel
theorem dX4_move_26 : decode cX4_move 26 = .ok (.aload_n 0, 1) := by decide +kernel
theorem dX4_move_27 : decode cX4_move 27 = .ok (.dup, 1) := by decide +kernel
theorem dX4_move_28 : decode cX4_move 28 = .ok (.getfield 36, 3) := by decide +kernel
theorem dX4_move_31 : decode cX4_move 31 = .ok (.iload_n 2, 1) := by decide +kernel
theorem dX4_move_32 : decode cX4_move 32 = .ok (.invokestatic 58, 3) := by decide +kernel
theorem dX4_move_35 : decode cX4_move 35 = .ok (.iadd, 1) := by decide +kernel
theorem dX4_move_36 : decode cX4_move 36 = .ok (.putfield 36, 3) := by decide +kernel
theorem dX4_move_39 : decode cX4_move 39 = .ok (.aload_n 0, 1) := by decide +kernel
theorem dX4_move_40 : decode cX4_move 40 = .ok (.dup, 1) := by decide +kernel
theorem dX4_move_41 : decode cX4_move 41 = .ok (.getfield 32, 3) := by decide +kernel
theorem dX4_move_44 : decode cX4_move 44 = .ok (.iload_n 3, 1) := by decide +kernel
theorem dX4_move_45 : decode cX4_move 45 = .ok (.iadd, 1) := by decide +kernel
theorem dX4_move_46 : decode cX4_move 46 = .ok (.putfield 32, 3) := by decide +kernel
theorem dX4_move_49 : decode cX4_move 49 = .ok (.iload_n 2, 1) := by decide +kernel
theorem dX4_move_50 : decode cX4_move 50 = .ok (.ifCond .eq 16, 3) := by decide +kernel
theorem dX4_move_53 : decode cX4_move 53 = .ok (.aload_n 0, 1) := by decide +kernel
theorem dX4_move_54 : decode cX4_move 54 = .ok (.iload_n 2, 1) := by decide +kernel
theorem dX4_move_55 : decode cX4_move 55 = .ok (.ifCond .le 7, 3) := by decide +kernel
theorem dX4_move_58 : decode cX4_move 58 = .ok (.iconst 1, 1) := by decide +kernel
theorem dX4_move_59 : decode cX4_move 59 = .ok (.goto 4, 3) := by decide +kernel
theorem dX4_move_62 : decode cX4_move 62 = .ok (.iconst (-1), 1) := by decide +kernel
theorem dX4_move_63 : decode cX4_move 63 = .ok (.putfield 26, 3) := by decide +kernel
theorem dX4_move_66 : decode cX4_move 66 = .ok (.return_, 1) := by decide +kernel
theorem dX4_book_0 : decode cX4_book 0 = .ok (.iload_n 1, 1) := by decide +kernel
theorem dX4_book_1 : decode cX4_book 1 = .ok (.tableswitch 66 1 3 #[40, 27, 53], 27) := by decide +kernel
theorem dX4_book_28 : decode cX4_book 28 = .ok (.aload_n 0, 1) := by decide +kernel
theorem dX4_book_29 : decode cX4_book 29 = .ok (.dup, 1) := by decide +kernel
theorem dX4_book_30 : decode cX4_book 30 = .ok (.getfield 80, 3) := by decide +kernel
theorem dX4_book_33 : decode cX4_book 33 = .ok (.iload_n 2, 1) := by decide +kernel
theorem dX4_book_34 : decode cX4_book 34 = .ok (.iadd, 1) := by decide +kernel
theorem dX4_book_35 : decode cX4_book 35 = .ok (.putfield 80, 3) := by decide +kernel
theorem dX4_book_38 : decode cX4_book 38 = .ok (.goto 29, 3) := by decide +kernel
theorem dX4_book_41 : decode cX4_book 41 = .ok (.aload_n 0, 1) := by decide +kernel
theorem dX4_book_42 : decode cX4_book 42 = .ok (.dup, 1) := by decide +kernel
theorem dX4_book_43 : decode cX4_book 43 = .ok (.getfield 83, 3) := by decide +kernel
theorem dX4_book_46 : decode cX4_book 46 = .ok (.iload_n 2, 1) := by decide +kernel
theorem dX4_book_47 : decode cX4_book 47 = .ok (.iadd, 1) := by decide +kernel
theorem dX4_book_48 : decode cX4_book 48 = .ok (.putfield 83, 3) := by decide +kernel
theorem dX4_book_51 : decode cX4_book 51 = .ok (.goto 16, 3) := by decide +kernel
theorem dX4_book_54 : decode cX4_book 54 = .ok (.aload_n 0, 1) := by decide +kernel
theorem dX4_book_55 : decode cX4_book 55 = .ok (.dup, 1) := by decide +kernel
theorem dX4_book_56 : decode cX4_book 56 = .ok (.getfield 86, 3) := by decide +kernel
theorem dX4_book_59 : decode cX4_book 59 = .ok (.iload_n 2, 1) := by decide +kernel
theorem dX4_book_60 : decode cX4_book 60 = .ok (.iadd, 1) := by decide +kernel
theorem dX4_book_61 : decode cX4_book 61 = .ok (.putfield 86, 3) := by decide +kernel
theorem dX4_book_64 : decode cX4_book 64 = .ok (.goto 3, 3) := by decide +kernel
theorem dX4_book_67 : decode cX4_book 67 = .ok (.return_, 1) := by decide +kernel
theorem dX4_turnsOver_0 : decode cX4_turnsOver 0 = .ok (.iload_n 1, 1) := by decide +kernel
theorem dX4_turnsOver_1 : decode cX4_turnsOver 1 = .ok (.iconst 1, 1) := by decide +kernel
theorem dX4_turnsOver_2 : decode cX4_turnsOver 2 = .ok (.if_icmp .ge 7, 3) := by decide +kernel
theorem dX4_turnsOver_5 : decode cX4_turnsOver 5 = .ok (.iconst 0, 1) := by decide +kernel
theorem dX4_turnsOver_6 : decode cX4_turnsOver 6 = .ok (.goto 11, 3) := by decide +kernel
theorem dX4_turnsOver_9 : decode cX4_turnsOver 9 = .ok (.aload_n 0, 1) := by decide +kernel
theorem dX4_turnsOver_10 : decode cX4_turnsOver 10 = .ok (.getfield 77, 3) := by decide +kernel
theorem dX4_turnsOver_13 : decode cX4_turnsOver 13 = .ok (.iload_n 1, 1) := by decide +kernel
theorem dX4_turnsOver_14 : decode cX4_turnsOver 14 = .ok (.invokestatic 89, 3) := by decide +kernel
theorem dX4_turnsOver_17 : decode cX4_turnsOver 17 = .ok (.ireturn, 1) := by decide +kernel
theorem dX4_placeIn_0 : decode cX4_placeIn 0 = .ok (.iload_n 1, 1) := by decide +kernel
theorem dX4_placeIn_1 : decode cX4_placeIn 1 = .ok (.iconst 1, 1) := by decide +kernel
theorem dX4_placeIn_2 : decode cX4_placeIn 2 = .ok (.if_icmp .ge 7, 3) := by decide +kernel
theorem dX4_placeIn_5 : decode cX4_placeIn 5 = .ok (.iconst 0, 1) := by decide +kernel
theorem dX4_placeIn_6 : decode cX4_placeIn 6 = .ok (.goto 11, 3) := by decide +kernel
theorem dX4_placeIn_9 : decode cX4_placeIn 9 = .ok (.aload_n 0, 1) := by decide +kernel
theorem dX4_placeIn_10 : decode cX4_placeIn 10 = .ok (.getfield 77, 3) := by decide +kernel
theorem dX4_placeIn_13 : decode cX4_placeIn 13 = .ok (.iload_n 1, 1) := by decide +kernel
theorem dX4_placeIn_14 : decode cX4_placeIn 14 = .ok (.invokestatic 93, 3) := by decide +kernel
theorem dX4_placeIn_17 : decode cX4_placeIn 17 = .ok (.ireturn, 1) := by decide +kernel
theorem dX4_passMark_0 : decode cX4_passMark 0 = .ok (.aload_n 0, 1) := by decide +kernel
theorem dX4_passMark_1 : decode cX4_passMark 1 = .ok (.iload_n 1, 1) := by decide +kernel
theorem dX4_passMark_2 : decode cX4_passMark 2 = .ok (.invokevirtual 96, 3) := by decide +kernel
theorem dX4_passMark_5 : decode cX4_passMark 5 = .ok (.istore_n 2, 1) := by decide +kernel
theorem dX4_passMark_6 : decode cX4_passMark 6 = .ok (.iconst 2, 1) := by decide +kernel
theorem dX4_passMark_7 : decode cX4_passMark 7 = .ok (.iload_n 2, 1) := by decide +kernel
theorem dX4_passMark_8 : decode cX4_passMark 8 = .ok (.imul, 1) := by decide +kernel
theorem dX4_passMark_9 : decode cX4_passMark 9 = .ok (.iload_n 1, 1) := by decide +kernel
theorem dX4_passMark_10 : decode cX4_passMark 10 = .ok (.if_icmp .gt 7, 3) := by decide +kernel
theorem dX4_passMark_13 : decode cX4_passMark 13 = .ok (.iload_n 2, 1) := by decide +kernel
theorem dX4_passMark_14 : decode cX4_passMark 14 = .ok (.goto 6, 3) := by decide +kernel
theorem dX4_passMark_17 : decode cX4_passMark 17 = .ok (.iload_n 2, 1) := by decide +kernel
theorem dX4_passMark_18 : decode cX4_passMark 18 = .ok (.iload_n 1, 1) := by decide +kernel
theorem dX4_passMark_19 : decode cX4_passMark 19 = .ok (.isub, 1) := by decide +kernel
theorem dX4_passMark_20 : decode cX4_passMark 20 = .ok (.istore_n 3, 1) := by decide +kernel
theorem dX4_passMark_21 : decode cX4_passMark 21 = .ok (.aload_n 0, 1) := by decide +kernel
theorem dX4_passMark_22 : decode cX4_passMark 22 = .ok (.dup, 1) := by decide +kernel
theorem dX4_passMark_23 : decode cX4_passMark 23 = .ok (.getfield 77, 3) := by decide +kernel
theorem dX4_passMark_26 : decode cX4_passMark 26 = .ok (.iload_n 3, 1) := by decide +kernel
theorem dX4_passMark_27 : decode cX4_passMark 27 = .ok (.isub, 1) := by decide +kernel
theorem dX4_passMark_28 : decode cX4_passMark 28 = .ok (.putfield 77, 3) := by decide +kernel
theorem dX4_passMark_31 : decode cX4_passMark 31 = .ok (.aload_n 0, 1) := by decide +kernel
theorem dX4_passMark_32 : decode cX4_passMark 32 = .ok (.dup, 1) := by decide +kernel
theorem dX4_passMark_33 : decode cX4_passMark 33 = .ok (.getfield 99, 3) := by decide +kernel
theorem dX4_passMark_36 : decode cX4_passMark 36 = .ok (.iload_n 3, 1) := by decide +kernel
theorem dX4_passMark_37 : decode cX4_passMark 37 = .ok (.iadd, 1) := by decide +kernel
theorem dX4_passMark_38 : decode cX4_passMark 38 = .ok (.putfield 99, 3) := by decide +kernel
theorem dX4_passMark_41 : decode cX4_passMark 41 = .ok (.aload_n 0, 1) := by decide +kernel
theorem dX4_passMark_42 : decode cX4_passMark 42 = .ok (.dup, 1) := by decide +kernel
theorem dX4_passMark_43 : decode cX4_passMark 43 = .ok (.getfield 102, 3) := by decide +kernel
theorem dX4_passMark_46 : decode cX4_passMark 46 = .ok (.iload_n 3, 1) := by decide +kernel
theorem dX4_passMark_47 : decode cX4_passMark 47 = .ok (.invokestatic 58, 3) := by decide +kernel
theorem dX4_passMark_50 : decode cX4_passMark 50 = .ok (.iadd, 1) := by decide +kernel
theorem dX4_passMark_51 : decode cX4_passMark 51 = .ok (.putfield 102, 3) := by decide +kernel
theorem dX4_passMark_54 : decode cX4_passMark 54 = .ok (.iload_n 3, 1) := by decide +kernel
theorem dX4_passMark_55 : decode cX4_passMark 55 = .ok (.ireturn, 1) := by decide +kernel
theorem dX4_copyFrom_0 : decode cX4_copyFrom 0 = .ok (.aload_n 0, 1) := by decide +kernel
theorem dX4_copyFrom_1 : decode cX4_copyFrom 1 = .ok (.getfield 12, 3) := by decide +kernel
theorem dX4_copyFrom_4 : decode cX4_copyFrom 4 = .ok (.aload_n 1, 1) := by decide +kernel
theorem dX4_copyFrom_5 : decode cX4_copyFrom 5 = .ok (.getfield 12, 3) := by decide +kernel
theorem dX4_copyFrom_8 : decode cX4_copyFrom 8 = .ok (.invokevirtual 105, 3) := by decide +kernel
theorem dX4_copyFrom_11 : decode cX4_copyFrom 11 = .ok (.aload_n 0, 1) := by decide +kernel
theorem dX4_copyFrom_12 : decode cX4_copyFrom 12 = .ok (.aload_n 1, 1) := by decide +kernel
theorem dX4_copyFrom_13 : decode cX4_copyFrom 13 = .ok (.getfield 18, 3) := by decide +kernel
theorem dX4_copyFrom_16 : decode cX4_copyFrom 16 = .ok (.putfield 18, 3) := by decide +kernel
theorem dX4_copyFrom_19 : decode cX4_copyFrom 19 = .ok (.aload_n 0, 1) := by decide +kernel
theorem dX4_copyFrom_20 : decode cX4_copyFrom 20 = .ok (.aload_n 1, 1) := by decide +kernel
theorem dX4_copyFrom_21 : decode cX4_copyFrom 21 = .ok (.getfield 77, 3) := by decide +kernel
theorem dX4_copyFrom_24 : decode cX4_copyFrom 24 = .ok (.putfield 77, 3) := by decide +kernel
theorem dX4_copyFrom_27 : decode cX4_copyFrom 27 = .ok (.aload_n 0, 1) := by decide +kernel
theorem dX4_copyFrom_28 : decode cX4_copyFrom 28 = .ok (.aload_n 1, 1) := by decide +kernel
theorem dX4_copyFrom_29 : decode cX4_copyFrom 29 = .ok (.getfield 26, 3) := by decide +kernel
theorem dX4_copyFrom_32 : decode cX4_copyFrom 32 = .ok (.putfield 26, 3) := by decide +kernel
theorem dX4_copyFrom_35 : decode cX4_copyFrom 35 = .ok (.aload_n 0, 1) := by decide +kernel
theorem dX4_copyFrom_36 : decode cX4_copyFrom 36 = .ok (.aload_n 1, 1) := by decide +kernel
theorem dX4_copyFrom_37 : decode cX4_copyFrom 37 = .ok (.getfield 80, 3) := by decide +kernel
theorem dX4_copyFrom_40 : decode cX4_copyFrom 40 = .ok (.putfield 80, 3) := by decide +kernel
theorem dX4_copyFrom_43 : decode cX4_copyFrom 43 = .ok (.aload_n 0, 1) := by decide +kernel
theorem dX4_copyFrom_44 : decode cX4_copyFrom 44 = .ok (.aload_n 1, 1) := by decide +kernel
theorem dX4_copyFrom_45 : decode cX4_copyFrom 45 = .ok (.getfield 83, 3) := by decide +kernel
theorem dX4_copyFrom_48 : decode cX4_copyFrom 48 = .ok (.putfield 83, 3) := by decide +kernel
theorem dX4_copyFrom_51 : decode cX4_copyFrom 51 = .ok (.aload_n 0, 1) := by decide +kernel
theorem dX4_copyFrom_52 : decode cX4_copyFrom 52 = .ok (.aload_n 1, 1) := by decide +kernel
theorem dX4_copyFrom_53 : decode cX4_copyFrom 53 = .ok (.getfield 86, 3) := by decide +kernel
theorem dX4_copyFrom_56 : decode cX4_copyFrom 56 = .ok (.putfield 86, 3) := by decide +kernel
theorem dX4_copyFrom_59 : decode cX4_copyFrom 59 = .ok (.aload_n 0, 1) := by decide +kernel
theorem dX4_copyFrom_60 : decode cX4_copyFrom 60 = .ok (.aload_n 1, 1) := by decide +kernel
theorem dX4_copyFrom_61 : decode cX4_copyFrom 61 = .ok (.getfield 99, 3) := by decide +kernel
theorem dX4_copyFrom_64 : decode cX4_copyFrom 64 = .ok (.putfield 99, 3) := by decide +kernel
theorem dX4_copyFrom_67 : decode cX4_copyFrom 67 = .ok (.aload_n 0, 1) := by decide +kernel
theorem dX4_copyFrom_68 : decode cX4_copyFrom 68 = .ok (.aload_n 1, 1) := by decide +kernel
theorem dX4_copyFrom_69 : decode cX4_copyFrom 69 = .ok (.getfield 39, 3) := by decide +kernel
theorem dX4_copyFrom_72 : decode cX4_copyFrom 72 = .ok (.putfield 39, 3) := by decide +kernel
theorem dX4_copyFrom_75 : decode cX4_copyFrom 75 = .ok (.aload_n 0, 1) := by decide +kernel
theorem dX4_copyFrom_76 : decode cX4_copyFrom 76 = .ok (.aload_n 1, 1) := by decide +kernel
theorem dX4_copyFrom_77 : decode cX4_copyFrom 77 = .ok (.getfield 102, 3) := by decide +kernel
theorem dX4_copyFrom_80 : decode cX4_copyFrom 80 = .ok (.putfield 102, 3) := by decide +kernel
theorem dX4_copyFrom_83 : decode cX4_copyFrom 83 = .ok (.aload_n 0, 1) := by decide +kernel
theorem dX4_copyFrom_84 : decode cX4_copyFrom 84 = .ok (.aload_n 1, 1) := by decide +kernel
theorem dX4_copyFrom_85 : decode cX4_copyFrom 85 = .ok (.getfield 36, 3) := by decide +kernel
theorem dX4_copyFrom_88 : decode cX4_copyFrom 88 = .ok (.putfield 36, 3) := by decide +kernel
theorem dX4_copyFrom_91 : decode cX4_copyFrom 91 = .ok (.aload_n 0, 1) := by decide +kernel
theorem dX4_copyFrom_92 : decode cX4_copyFrom 92 = .ok (.aload_n 1, 1) := by decide +kernel
theorem dX4_copyFrom_93 : decode cX4_copyFrom 93 = .ok (.getfield 32, 3) := by decide +kernel
theorem dX4_copyFrom_96 : decode cX4_copyFrom 96 = .ok (.putfield 32, 3) := by decide +kernel
theorem dX4_copyFrom_99 : decode cX4_copyFrom 99 = .ok (.return_, 1) := by decide +kernel
theorem dJ9_floorDiv_7cf53_0 : decode cJ9_floorDiv_7cf53 0 = .ok (.iload_n 0, 1) := by decide +kernel
theorem dJ9_floorDiv_7cf53_1 : decode cJ9_floorDiv_7cf53 1 = .ok (.iload_n 1, 1) := by decide +kernel
theorem dJ9_floorDiv_7cf53_2 : decode cJ9_floorDiv_7cf53 2 = .ok (.idiv, 1) := by decide +kernel
theorem dJ9_floorDiv_7cf53_3 : decode cJ9_floorDiv_7cf53 3 = .ok (.istore_n 2, 1) := by decide +kernel
theorem dJ9_floorDiv_7cf53_4 : decode cJ9_floorDiv_7cf53 4 = .ok (.iload_n 0, 1) := by decide +kernel
theorem dJ9_floorDiv_7cf53_5 : decode cJ9_floorDiv_7cf53 5 = .ok (.iload_n 1, 1) := by decide +kernel
theorem dJ9_floorDiv_7cf53_6 : decode cJ9_floorDiv_7cf53 6 = .ok (.ixor, 1) := by decide +kernel
theorem dJ9_floorDiv_7cf53_7 : decode cJ9_floorDiv_7cf53 7 = .ok (.ifCond .ge 14, 3) := by decide +kernel
theorem dJ9_floorDiv_7cf53_10 : decode cJ9_floorDiv_7cf53 10 = .ok (.iload_n 2, 1) := by decide +kernel
theorem dJ9_floorDiv_7cf53_11 : decode cJ9_floorDiv_7cf53 11 = .ok (.iload_n 1, 1) := by decide +kernel
theorem dJ9_floorDiv_7cf53_12 : decode cJ9_floorDiv_7cf53 12 = .ok (.imul, 1) := by decide +kernel
theorem dJ9_floorDiv_7cf53_13 : decode cJ9_floorDiv_7cf53 13 = .ok (.iload_n 0, 1) := by decide +kernel
theorem dJ9_floorDiv_7cf53_14 : decode cJ9_floorDiv_7cf53 14 = .ok (.if_icmp .eq 7, 3) := by decide +kernel
theorem dJ9_floorDiv_7cf53_17 : decode cJ9_floorDiv_7cf53 17 = .ok (.iload_n 2, 1) := by decide +kernel
theorem dJ9_floorDiv_7cf53_18 : decode cJ9_floorDiv_7cf53 18 = .ok (.iconst 1, 1) := by decide +kernel
theorem dJ9_floorDiv_7cf53_19 : decode cJ9_floorDiv_7cf53 19 = .ok (.isub, 1) := by decide +kernel
theorem dJ9_floorDiv_7cf53_20 : decode cJ9_floorDiv_7cf53 20 = .ok (.ireturn, 1) := by decide +kernel
theorem dJ9_floorDiv_7cf53_21 : decode cJ9_floorDiv_7cf53 21 = .ok (.iload_n 2, 1) := by decide +kernel
theorem dJ9_floorDiv_7cf53_22 : decode cJ9_floorDiv_7cf53 22 = .ok (.ireturn, 1) := by decide +kernel
theorem dJ9_floorMod_7cf53_0 : decode cJ9_floorMod_7cf53 0 = .ok (.iload_n 0, 1) := by decide +kernel
theorem dJ9_floorMod_7cf53_1 : decode cJ9_floorMod_7cf53 1 = .ok (.iload_n 1, 1) := by decide +kernel
theorem dJ9_floorMod_7cf53_2 : decode cJ9_floorMod_7cf53 2 = .ok (.irem, 1) := by decide +kernel
theorem dJ9_floorMod_7cf53_3 : decode cJ9_floorMod_7cf53 3 = .ok (.istore_n 2, 1) := by decide +kernel
theorem dJ9_floorMod_7cf53_4 : decode cJ9_floorMod_7cf53 4 = .ok (.iload_n 0, 1) := by decide +kernel
theorem dJ9_floorMod_7cf53_5 : decode cJ9_floorMod_7cf53 5 = .ok (.iload_n 1, 1) := by decide +kernel
theorem dJ9_floorMod_7cf53_6 : decode cJ9_floorMod_7cf53 6 = .ok (.ixor, 1) := by decide +kernel
theorem dJ9_floorMod_7cf53_7 : decode cJ9_floorMod_7cf53 7 = .ok (.ifCond .ge 11, 3) := by decide +kernel
theorem dJ9_floorMod_7cf53_10 : decode cJ9_floorMod_7cf53 10 = .ok (.iload_n 2, 1) := by decide +kernel
theorem dJ9_floorMod_7cf53_11 : decode cJ9_floorMod_7cf53 11 = .ok (.ifCond .eq 7, 3) := by decide +kernel
theorem dJ9_floorMod_7cf53_14 : decode cJ9_floorMod_7cf53 14 = .ok (.iload_n 2, 1) := by decide +kernel
theorem dJ9_floorMod_7cf53_15 : decode cJ9_floorMod_7cf53 15 = .ok (.iload_n 1, 1) := by decide +kernel
theorem dJ9_floorMod_7cf53_16 : decode cJ9_floorMod_7cf53 16 = .ok (.iadd, 1) := by decide +kernel
theorem dJ9_floorMod_7cf53_17 : decode cJ9_floorMod_7cf53 17 = .ok (.ireturn, 1) := by decide +kernel
theorem dJ9_floorMod_7cf53_18 : decode cJ9_floorMod_7cf53 18 = .ok (.iload_n 2, 1) := by decide +kernel
theorem dJ9_floorMod_7cf53_19 : decode cJ9_floorMod_7cf53 19 = .ok (.ireturn, 1) := by decide +kernel
theorem dJ9_abs_0f7a4_0 : decode cJ9_abs_0f7a4 0 = .ok (.iload_n 0, 1) := by decide +kernel
theorem dJ9_abs_0f7a4_1 : decode cJ9_abs_0f7a4 1 = .ok (.ifCond .ge 8, 3) := by decide +kernel
theorem dJ9_abs_0f7a4_4 : decode cJ9_abs_0f7a4 4 = .ok (.iload_n 0, 1) := by decide +kernel
theorem dJ9_abs_0f7a4_5 : decode cJ9_abs_0f7a4 5 = .ok (.ineg, 1) := by decide +kernel
theorem dJ9_abs_0f7a4_6 : decode cJ9_abs_0f7a4 6 = .ok (.goto 4, 3) := by decide +kernel
theorem dJ9_abs_0f7a4_9 : decode cJ9_abs_0f7a4 9 = .ok (.iload_n 0, 1) := by decide +kernel
theorem dJ9_abs_0f7a4_10 : decode cJ9_abs_0f7a4 10 = .ok (.ireturn, 1) := by decide +kernel
