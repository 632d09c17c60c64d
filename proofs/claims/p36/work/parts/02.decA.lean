theorem dX0_init_0 : decode cX0_init 0 = .ok (.aload_n 0, 1) := by decide +kernel
theorem dX0_init_1 : decode cX0_init 1 = .ok (.invokespecial 3, 3) := by decide +kernel
theorem dX0_init_4 : decode cX0_init 4 = .ok (.aload_n 0, 1) := by decide +kernel
theorem dX0_init_5 : decode cX0_init 5 = .ok (.new 9, 3) := by decide +kernel
theorem dX0_init_8 : decode cX0_init 8 = .ok (.dup, 1) := by decide +kernel
theorem dX0_init_9 : decode cX0_init 9 = .ok (.invokespecial 11, 3) := by decide +kernel
theorem dX0_init_12 : decode cX0_init 12 = .ok (.putfield 12, 3) := by decide +kernel
theorem dX0_init_15 : decode cX0_init 15 = .ok (.aload_n 0, 1) := by decide +kernel
theorem dX0_init_16 : decode cX0_init 16 = .ok (.new 9, 3) := by decide +kernel
theorem dX0_init_19 : decode cX0_init 19 = .ok (.dup, 1) := by decide +kernel
theorem dX0_init_20 : decode cX0_init 20 = .ok (.invokespecial 11, 3) := by decide +kernel
theorem dX0_init_23 : decode cX0_init 23 = .ok (.putfield 18, 3) := by decide +kernel
theorem dX0_init_26 : decode cX0_init 26 = .ok (.aload_n 0, 1) := by decide +kernel
theorem dX0_init_27 : decode cX0_init 27 = .ok (.new 9, 3) := by decide +kernel
theorem dX0_init_30 : decode cX0_init 30 = .ok (.dup, 1) := by decide +kernel
theorem dX0_init_31 : decode cX0_init 31 = .ok (.invokespecial 11, 3) := by decide +kernel
theorem dX0_init_34 : decode cX0_init 34 = .ok (.putfield 21, 3) := by decide +kernel
theorem dX0_init_37 : decode cX0_init 37 = .ok (.aload_n 0, 1) := by decide +kernel
theorem dX0_init_38 : decode cX0_init 38 = .ok (.new 9, 3) := by decide +kernel
theorem dX0_init_41 : decode cX0_init 41 = .ok (.dup, 1) := by decide +kernel
theorem dX0_init_42 : decode cX0_init 42 = .ok (.invokespecial 11, 3) := by decide +kernel
theorem dX0_init_45 : decode cX0_init 45 = .ok (.putfield 24, 3) := by decide +kernel
theorem dX0_init_48 : decode cX0_init 48 = .ok (.aload_n 0, 1) := by decide +kernel
theorem dX0_init_49 : decode cX0_init 49 = .ok (.iconst 0, 1) := by decide +kernel
theorem dX0_init_50 : decode cX0_init 50 = .ok (.putfield 27, 3) := by decide +kernel
theorem dX0_init_53 : decode cX0_init 53 = .ok (.aload_n 0, 1) := by decide +kernel
theorem dX0_init_54 : decode cX0_init 54 = .ok (.bipush 24, 2) := by decide +kernel
theorem dX0_init_56 : decode cX0_init 56 = .ok (.putfield 31, 3) := by decide +kernel
theorem dX0_init_59 : decode cX0_init 59 = .ok (.return_, 1) := by decide +kernel
theorem dX0_snail_0 : decode cX0_snail 0 = .ok (.iload_n 1, 1) := by decide +kernel
theorem dX0_snail_1 : decode cX0_snail 1 = .ok (.tableswitch 42 0 2 #[27, 32, 37], 27) := by decide +kernel
theorem dX0_snail_28 : decode cX0_snail 28 = .ok (.aload_n 0, 1) := by decide +kernel
theorem dX0_snail_29 : decode cX0_snail 29 = .ok (.getfield 12, 3) := by decide +kernel
theorem dX0_snail_32 : decode cX0_snail 32 = .ok (.areturn, 1) := by decide +kernel
theorem dX0_snail_33 : decode cX0_snail 33 = .ok (.aload_n 0, 1) := by decide +kernel
theorem dX0_snail_34 : decode cX0_snail 34 = .ok (.getfield 18, 3) := by decide +kernel
theorem dX0_snail_37 : decode cX0_snail 37 = .ok (.areturn, 1) := by decide +kernel
theorem dX0_snail_38 : decode cX0_snail 38 = .ok (.aload_n 0, 1) := by decide +kernel
theorem dX0_snail_39 : decode cX0_snail 39 = .ok (.getfield 21, 3) := by decide +kernel
theorem dX0_snail_42 : decode cX0_snail 42 = .ok (.areturn, 1) := by decide +kernel
theorem dX0_snail_43 : decode cX0_snail 43 = .ok (.aload_n 0, 1) := by decide +kernel
theorem dX0_snail_44 : decode cX0_snail 44 = .ok (.getfield 24, 3) := by decide +kernel
theorem dX0_snail_47 : decode cX0_snail 47 = .ok (.areturn, 1) := by decide +kernel
theorem dX0_copyFrom_0 : decode cX0_copyFrom 0 = .ok (.aload_n 0, 1) := by decide +kernel
theorem dX0_copyFrom_1 : decode cX0_copyFrom 1 = .ok (.getfield 12, 3) := by decide +kernel
theorem dX0_copyFrom_4 : decode cX0_copyFrom 4 = .ok (.aload_n 1, 1) := by decide +kernel
theorem dX0_copyFrom_5 : decode cX0_copyFrom 5 = .ok (.getfield 12, 3) := by decide +kernel
theorem dX0_copyFrom_8 : decode cX0_copyFrom 8 = .ok (.invokevirtual 37, 3) := by decide +kernel
theorem dX0_copyFrom_11 : decode cX0_copyFrom 11 = .ok (.aload_n 0, 1) := by decide +kernel
theorem dX0_copyFrom_12 : decode cX0_copyFrom 12 = .ok (.getfield 18, 3) := by decide +kernel
theorem dX0_copyFrom_15 : decode cX0_copyFrom 15 = .ok (.aload_n 1, 1) := by decide +kernel
theorem dX0_copyFrom_16 : decode cX0_copyFrom 16 = .ok (.getfield 18, 3) := by decide +kernel
theorem dX0_copyFrom_19 : decode cX0_copyFrom 19 = .ok (.invokevirtual 37, 3) := by decide +kernel
theorem dX0_copyFrom_22 : decode cX0_copyFrom 22 = .ok (.aload_n 0, 1) := by decide +kernel
theorem dX0_copyFrom_23 : decode cX0_copyFrom 23 = .ok (.getfield 21, 3) := by decide +kernel
theorem dX0_copyFrom_26 : decode cX0_copyFrom 26 = .ok (.aload_n 1, 1) := by decide +kernel
theorem dX0_copyFrom_27 : decode cX0_copyFrom 27 = .ok (.getfield 21, 3) := by decide +kernel
theorem dX0_copyFrom_30 : decode cX0_copyFrom 30 = .ok (.invokevirtual 37, 3) := by decide +kernel
theorem dX0_copyFrom_33 : decode cX0_copyFrom 33 = .ok (.aload_n 0, 1) := by decide +kernel
theorem dX0_copyFrom_34 : decode cX0_copyFrom 34 = .ok (.getfield 24, 3) := by decide +kernel
theorem dX0_copyFrom_37 : decode cX0_copyFrom 37 = .ok (.aload_n 1, 1) := by decide +kernel
theorem dX0_copyFrom_38 : decode cX0_copyFrom 38 = .ok (.getfield 24, 3) := by decide +kernel
theorem dX0_copyFrom_41 : decode cX0_copyFrom 41 = .ok (.invokevirtual 37, 3) := by decide +kernel
theorem dX0_copyFrom_44 : decode cX0_copyFrom 44 = .ok (.aload_n 0, 1) := by decide +kernel
theorem dX0_copyFrom_45 : decode cX0_copyFrom 45 = .ok (.aload_n 1, 1) := by decide +kernel
theorem dX0_copyFrom_46 : decode cX0_copyFrom 46 = .ok (.getfield 27, 3) := by decide +kernel
theorem dX0_copyFrom_49 : decode cX0_copyFrom 49 = .ok (.putfield 27, 3) := by decide +kernel
theorem dX0_copyFrom_52 : decode cX0_copyFrom 52 = .ok (.aload_n 0, 1) := by decide +kernel
theorem dX0_copyFrom_53 : decode cX0_copyFrom 53 = .ok (.aload_n 1, 1) := by decide +kernel
theorem dX0_copyFrom_54 : decode cX0_copyFrom 54 = .ok (.getfield 31, 3) := by decide +kernel
theorem dX0_copyFrom_57 : decode cX0_copyFrom 57 = .ok (.putfield 31, 3) := by decide +kernel
theorem dX0_copyFrom_60 : decode cX0_copyFrom 60 = .ok (.return_, 1) := by decide +kernel
theorem dX1_init_0 : decode cX1_init 0 = .ok (.aload_n 0, 1) := by decide +kernel
theorem dX1_init_1 : decode cX1_init 1 = .ok (.invokespecial 3, 3) := by decide +kernel
theorem dX1_init_4 : decode cX1_init 4 = .ok (.aload_n 0, 1) := by decide +kernel
theorem dX1_init_5 : decode cX1_init 5 = .ok (.bipush 48, 2) := by decide +kernel
theorem dX1_init_7 : decode cX1_init 7 = .ok (.newarray .int, 2) := by decide +kernel
theorem dX1_init_9 : decode cX1_init 9 = .ok (.putfield 11, 3) := by decide +kernel
theorem dX1_init_12 : decode cX1_init 12 = .ok (.return_, 1) := by decide +kernel
theorem dX1_add_0 : decode cX1_add 0 = .ok (.aload_n 0, 1) := by decide +kernel
theorem dX1_add_1 : decode cX1_add 1 = .ok (.getfield 15, 3) := by decide +kernel
theorem dX1_add_4 : decode cX1_add 4 = .ok (.bipush 16, 2) := by decide +kernel
theorem dX1_add_6 : decode cX1_add 6 = .ok (.if_icmp .ge 16, 3) := by decide +kernel
theorem dX1_add_9 : decode cX1_add 9 = .ok (.aload_n 0, 1) := by decide +kernel
theorem dX1_add_10 : decode cX1_add 10 = .ok (.dup, 1) := by decide +kernel
theorem dX1_add_11 : decode cX1_add 11 = .ok (.getfield 15, 3) := by decide +kernel
theorem dX1_add_14 : decode cX1_add 14 = .ok (.iconst 1, 1) := by decide +kernel
theorem dX1_add_15 : decode cX1_add 15 = .ok (.iadd, 1) := by decide +kernel
theorem dX1_add_16 : decode cX1_add 16 = .ok (.putfield 15, 3) := by decide +kernel
theorem dX1_add_19 : decode cX1_add 19 = .ok (.goto 16, 3) := by decide +kernel
theorem dX1_add_22 : decode cX1_add 22 = .ok (.aload_n 0, 1) := by decide +kernel
theorem dX1_add_23 : decode cX1_add 23 = .ok (.aload_n 0, 1) := by decide +kernel
theorem dX1_add_24 : decode cX1_add 24 = .ok (.getfield 19, 3) := by decide +kernel
theorem dX1_add_27 : decode cX1_add 27 = .ok (.iconst 1, 1) := by decide +kernel
theorem dX1_add_28 : decode cX1_add 28 = .ok (.iadd, 1) := by decide +kernel
theorem dX1_add_29 : decode cX1_add 29 = .ok (.bipush 16, 2) := by decide +kernel
theorem dX1_add_31 : decode cX1_add 31 = .ok (.irem, 1) := by decide +kernel
theorem dX1_add_32 : decode cX1_add 32 = .ok (.putfield 19, 3) := by decide +kernel
theorem dX1_add_35 : decode cX1_add 35 = .ok (.aload_n 0, 1) := by decide +kernel
theorem dX1_add_36 : decode cX1_add 36 = .ok (.aload_n 0, 1) := by decide +kernel
theorem dX1_add_37 : decode cX1_add 37 = .ok (.getfield 15, 3) := by decide +kernel
theorem dX1_add_40 : decode cX1_add 40 = .ok (.iconst 1, 1) := by decide +kernel
theorem dX1_add_41 : decode cX1_add 41 = .ok (.isub, 1) := by decide +kernel
theorem dX1_add_42 : decode cX1_add 42 = .ok (.invokevirtual 22, 3) := by decide +kernel
theorem dX1_add_45 : decode cX1_add 45 = .ok (.istore 4, 2) := by decide +kernel
theorem dX1_add_47 : decode cX1_add 47 = .ok (.aload_n 0, 1) := by decide +kernel
theorem dX1_add_48 : decode cX1_add 48 = .ok (.iload 4, 2) := by decide +kernel
theorem dX1_add_50 : decode cX1_add 50 = .ok (.iconst 0, 1) := by decide +kernel
theorem dX1_add_51 : decode cX1_add 51 = .ok (.iadd, 1) := by decide +kernel
theorem dX1_add_52 : decode cX1_add 52 = .ok (.iload_n 1, 1) := by decide +kernel
theorem dX1_add_53 : decode cX1_add 53 = .ok (.invokevirtual 26, 3) := by decide +kernel
theorem dX1_add_56 : decode cX1_add 56 = .ok (.aload_n 0, 1) := by decide +kernel
theorem dX1_add_57 : decode cX1_add 57 = .ok (.iload 4, 2) := by decide +kernel
theorem dX1_add_59 : decode cX1_add 59 = .ok (.iconst 1, 1) := by decide +kernel
theorem dX1_add_60 : decode cX1_add 60 = .ok (.iadd, 1) := by decide +kernel
theorem dX1_add_61 : decode cX1_add 61 = .ok (.iload_n 2, 1) := by decide +kernel
theorem dX1_add_62 : decode cX1_add 62 = .ok (.invokevirtual 26, 3) := by decide +kernel
theorem dX1_add_65 : decode cX1_add 65 = .ok (.aload_n 0, 1) := by decide +kernel
theorem dX1_add_66 : decode cX1_add 66 = .ok (.iload 4, 2) := by decide +kernel
theorem dX1_add_68 : decode cX1_add 68 = .ok (.iconst 2, 1) := by decide +kernel
theorem dX1_add_69 : decode cX1_add 69 = .ok (.iadd, 1) := by decide +kernel
theorem dX1_add_70 : decode cX1_add 70 = .ok (.iload_n 3, 1) := by decide +kernel
theorem dX1_add_71 : decode cX1_add 71 = .ok (.invokevirtual 26, 3) := by decide +kernel
theorem dX1_add_74 : decode cX1_add 74 = .ok (.return_, 1) := by decide +kernel
theorem dX1_dropLatest_0 : decode cX1_dropLatest 0 = .ok (.aload_n 0, 1) := by decide +kernel
theorem dX1_dropLatest_1 : decode cX1_dropLatest 1 = .ok (.getfield 15, 3) := by decide +kernel
theorem dX1_dropLatest_4 : decode cX1_dropLatest 4 = .ok (.ifCond .le 13, 3) := by decide +kernel
theorem dX1_dropLatest_7 : decode cX1_dropLatest 7 = .ok (.aload_n 0, 1) := by decide +kernel
theorem dX1_dropLatest_8 : decode cX1_dropLatest 8 = .ok (.dup, 1) := by decide +kernel
theorem dX1_dropLatest_9 : decode cX1_dropLatest 9 = .ok (.getfield 15, 3) := by decide +kernel
theorem dX1_dropLatest_12 : decode cX1_dropLatest 12 = .ok (.iconst 1, 1) := by decide +kernel
theorem dX1_dropLatest_13 : decode cX1_dropLatest 13 = .ok (.isub, 1) := by decide +kernel
theorem dX1_dropLatest_14 : decode cX1_dropLatest 14 = .ok (.putfield 15, 3) := by decide +kernel
theorem dX1_dropLatest_17 : decode cX1_dropLatest 17 = .ok (.return_, 1) := by decide +kernel
theorem dX1_step_0 : decode cX1_step 0 = .ok (.aload_n 0, 1) := by decide +kernel
theorem dX1_step_1 : decode cX1_step 1 = .ok (.iload_n 1, 1) := by decide +kernel
theorem dX1_step_2 : decode cX1_step 2 = .ok (.iconst 0, 1) := by decide +kernel
theorem dX1_step_3 : decode cX1_step 3 = .ok (.invokevirtual 30, 3) := by decide +kernel
theorem dX1_step_6 : decode cX1_step 6 = .ok (.ireturn, 1) := by decide +kernel
theorem dX1_spent_0 : decode cX1_spent 0 = .ok (.aload_n 0, 1) := by decide +kernel
theorem dX1_spent_1 : decode cX1_spent 1 = .ok (.iload_n 1, 1) := by decide +kernel
theorem dX1_spent_2 : decode cX1_spent 2 = .ok (.iconst 1, 1) := by decide +kernel
theorem dX1_spent_3 : decode cX1_spent 3 = .ok (.invokevirtual 30, 3) := by decide +kernel
theorem dX1_spent_6 : decode cX1_spent 6 = .ok (.ireturn, 1) := by decide +kernel
theorem dX1_before_0 : decode cX1_before 0 = .ok (.aload_n 0, 1) := by decide +kernel
theorem dX1_before_1 : decode cX1_before 1 = .ok (.iload_n 1, 1) := by decide +kernel
theorem dX1_before_2 : decode cX1_before 2 = .ok (.iconst 2, 1) := by decide +kernel
theorem dX1_before_3 : decode cX1_before 3 = .ok (.invokevirtual 30, 3) := by decide +kernel
theorem dX1_before_6 : decode cX1_before 6 = .ok (.ireturn, 1) := by decide +kernel
theorem dX1_speed_0 : decode cX1_speed 0 = .ok (.iconst 0, 1) := by decide +kernel
theorem dX1_speed_1 : decode cX1_speed 1 = .ok (.istore_n 1, 1) := by decide +kernel
theorem dX1_speed_2 : decode cX1_speed 2 = .ok (.iconst 0, 1) := by decide +kernel
theorem dX1_speed_3 : decode cX1_speed 3 = .ok (.istore_n 2, 1) := by decide +kernel
theorem dX1_speed_4 : decode cX1_speed 4 = .ok (.iconst 0, 1) := by decide +kernel
theorem dX1_speed_5 : decode cX1_speed 5 = .ok (.istore_n 3, 1) := by decide +kernel
theorem dX1_speed_6 : decode cX1_speed 6 = .ok (.iload_n 3, 1) := by decide +kernel
theorem dX1_speed_7 : decode cX1_speed 7 = .ok (.aload_n 0, 1) := by decide +kernel
theorem dX1_speed_8 : decode cX1_speed 8 = .ok (.getfield 15, 3) := by decide +kernel
theorem dX1_speed_11 : decode cX1_speed 11 = .ok (.if_icmp .ge 25, 3) := by decide +kernel
theorem dX1_speed_14 : decode cX1_speed 14 = .ok (.iload_n 1, 1) := by decide +kernel
theorem dX1_speed_15 : decode cX1_speed 15 = .ok (.aload_n 0, 1) := by decide +kernel
theorem dX1_speed_16 : decode cX1_speed 16 = .ok (.iload_n 3, 1) := by decide +kernel
theorem dX1_speed_17 : decode cX1_speed 17 = .ok (.invokevirtual 34, 3) := by decide +kernel
theorem dX1_speed_20 : decode cX1_speed 20 = .ok (.iadd, 1) := by decide +kernel
theorem dX1_speed_21 : decode cX1_speed 21 = .ok (.istore_n 1, 1) := by decide +kernel
theorem dX1_speed_22 : decode cX1_speed 22 = .ok (.iload_n 2, 1) := by decide +kernel
theorem dX1_speed_23 : decode cX1_speed 23 = .ok (.aload_n 0, 1) := by decide +kernel
theorem dX1_speed_24 : decode cX1_speed 24 = .ok (.iload_n 3, 1) := by decide +kernel
theorem dX1_speed_25 : decode cX1_speed 25 = .ok (.invokevirtual 37, 3) := by decide +kernel
theorem dX1_speed_28 : decode cX1_speed 28 = .ok (.iadd, 1) := by decide +kernel
theorem dX1_speed_29 : decode cX1_speed 29 = .ok (.istore_n 2, 1) := by decide +kernel
theorem dX1_speed_30 : decode cX1_speed 30 = .ok (.iinc 3 1, 3) := by decide +kernel
theorem dX1_speed_33 : decode cX1_speed 33 = .ok (.goto (-27), 3) := by decide +kernel
theorem dX1_speed_36 : decode cX1_speed 36 = .ok (.iload_n 2, 1) := by decide +kernel
theorem dX1_speed_37 : decode cX1_speed 37 = .ok (.iconst 1, 1) := by decide +kernel
theorem dX1_speed_38 : decode cX1_speed 38 = .ok (.if_icmp .ge 7, 3) := by decide +kernel
theorem dX1_speed_41 : decode cX1_speed 41 = .ok (.dconst 0, 1) := by decide +kernel
theorem dX1_speed_42 : decode cX1_speed 42 = .ok (.goto 12, 3) := by decide +kernel
theorem dX1_speed_45 : decode cX1_speed 45 = .ok (.ldc2_w 40, 3) := by decide +kernel
theorem dX1_speed_48 : decode cX1_speed 48 = .ok (.iload_n 1, 1) := by decide +kernel
theorem dX1_speed_49 : decode cX1_speed 49 = .ok (.i2d, 1) := by decide +kernel
theorem dX1_speed_50 : decode cX1_speed 50 = .ok (.dmul, 1) := by decide +kernel
theorem dX1_speed_51 : decode cX1_speed 51 = .ok (.iload_n 2, 1) := by decide +kernel
theorem dX1_speed_52 : decode cX1_speed 52 = .ok (.i2d, 1) := by decide +kernel
theorem dX1_speed_53 : decode cX1_speed 53 = .ok (.ddiv, 1) := by decide +kernel
theorem dX1_speed_54 : decode cX1_speed 54 = .ok (.dreturn, 1) := by decide +kernel
theorem dX1_copyFrom_0 : decode cX1_copyFrom 0 = .ok (.iconst 0, 1) := by decide +kernel
theorem dX1_copyFrom_1 : decode cX1_copyFrom 1 = .ok (.istore_n 2, 1) := by decide +kernel
theorem dX1_copyFrom_2 : decode cX1_copyFrom 2 = .ok (.iload_n 2, 1) := by decide +kernel
theorem dX1_copyFrom_3 : decode cX1_copyFrom 3 = .ok (.aload_n 0, 1) := by decide +kernel
theorem dX1_copyFrom_4 : decode cX1_copyFrom 4 = .ok (.getfield 11, 3) := by decide +kernel
theorem dX1_copyFrom_7 : decode cX1_copyFrom 7 = .ok (.arraylength, 1) := by decide +kernel
theorem dX1_copyFrom_8 : decode cX1_copyFrom 8 = .ok (.if_icmp .ge 30, 3) := by decide +kernel
theorem dX1_copyFrom_11 : decode cX1_copyFrom 11 = .ok (.iload_n 2, 1) := by decide +kernel
theorem dX1_copyFrom_12 : decode cX1_copyFrom 12 = .ok (.aload_n 1, 1) := by decide +kernel
theorem dX1_copyFrom_13 : decode cX1_copyFrom 13 = .ok (.getfield 11, 3) := by decide +kernel
theorem dX1_copyFrom_16 : decode cX1_copyFrom 16 = .ok (.arraylength, 1) := by decide +kernel
theorem dX1_copyFrom_17 : decode cX1_copyFrom 17 = .ok (.if_icmp .ge 21, 3) := by decide +kernel
theorem dX1_copyFrom_20 : decode cX1_copyFrom 20 = .ok (.aload_n 0, 1) := by decide +kernel
theorem dX1_copyFrom_21 : decode cX1_copyFrom 21 = .ok (.getfield 11, 3) := by decide +kernel
theorem dX1_copyFrom_24 : decode cX1_copyFrom 24 = .ok (.iload_n 2, 1) := by decide +kernel
theorem dX1_copyFrom_25 : decode cX1_copyFrom 25 = .ok (.aload_n 1, 1) := by decide +kernel
theorem dX1_copyFrom_26 : decode cX1_copyFrom 26 = .ok (.getfield 11, 3) := by decide +kernel
theorem dX1_copyFrom_29 : decode cX1_copyFrom 29 = .ok (.iload_n 2, 1) := by decide +kernel
theorem dX1_copyFrom_30 : decode cX1_copyFrom 30 = .ok (.iaload, 1) := by decide +kernel
theorem dX1_copyFrom_31 : decode cX1_copyFrom 31 = .ok (.iastore, 1) := by decide +kernel
theorem dX1_copyFrom_32 : decode cX1_copyFrom 32 = .ok (.iinc 2 1, 3) := by decide +kernel
theorem dX1_copyFrom_35 : decode cX1_copyFrom 35 = .ok (.goto (-33), 3) := by decide +kernel
theorem dX1_copyFrom_38 : decode cX1_copyFrom 38 = .ok (.aload_n 0, 1) := by decide +kernel
theorem dX1_copyFrom_39 : decode cX1_copyFrom 39 = .ok (.aload_n 1, 1) := by decide +kernel
theorem dX1_copyFrom_40 : decode cX1_copyFrom 40 = .ok (.getfield 19, 3) := by decide +kernel
theorem dX1_copyFrom_43 : decode cX1_copyFrom 43 = .ok (.putfield 19, 3) := by decide +kernel
theorem dX1_copyFrom_46 : decode cX1_copyFrom 46 = .ok (.aload_n 0, 1) := by decide +kernel
theorem dX1_copyFrom_47 : decode cX1_copyFrom 47 = .ok (.aload_n 1, 1) := by decide +kernel
theorem dX1_copyFrom_48 : decode cX1_copyFrom 48 = .ok (.getfield 15, 3) := by decide +kernel
theorem dX1_copyFrom_51 : decode cX1_copyFrom 51 = .ok (.putfield 15, 3) := by decide +kernel
theorem dX1_copyFrom_54 : decode cX1_copyFrom 54 = .ok (.return_, 1) := by decide +kernel
theorem dX1_read_0 : decode cX1_read 0 = .ok (.aload_n 0, 1) := by decide +kernel
theorem dX1_read_1 : decode cX1_read 1 = .ok (.iload_n 1, 1) := by decide +kernel
theorem dX1_read_2 : decode cX1_read 2 = .ok (.invokevirtual 22, 3) := by decide +kernel
theorem dX1_read_5 : decode cX1_read 5 = .ok (.iload_n 2, 1) := by decide +kernel
theorem dX1_read_6 : decode cX1_read 6 = .ok (.iadd, 1) := by decide +kernel
theorem dX1_read_7 : decode cX1_read 7 = .ok (.istore_n 3, 1) := by decide +kernel
theorem dX1_read_8 : decode cX1_read 8 = .ok (.iload_n 3, 1) := by decide +kernel
theorem dX1_read_9 : decode cX1_read 9 = .ok (.ifCond .lt 12, 3) := by decide +kernel
theorem dX1_read_12 : decode cX1_read 12 = .ok (.iload_n 3, 1) := by decide +kernel
theorem dX1_read_13 : decode cX1_read 13 = .ok (.aload_n 0, 1) := by decide +kernel
theorem dX1_read_14 : decode cX1_read 14 = .ok (.getfield 11, 3) := by decide +kernel
theorem dX1_read_17 : decode cX1_read 17 = .ok (.arraylength, 1) := by decide +kernel
theorem dX1_read_18 : decode cX1_read 18 = .ok (.if_icmp .lt 7, 3) := by decide +kernel
theorem dX1_read_21 : decode cX1_read 21 = .ok (.iconst 0, 1) := by decide +kernel
theorem dX1_read_22 : decode cX1_read 22 = .ok (.goto 9, 3) := by decide +kernel
theorem dX1_read_25 : decode cX1_read 25 = .ok (.aload_n 0, 1) := by decide +kernel
theorem dX1_read_26 : decode cX1_read 26 = .ok (.getfield 11, 3) := by decide +kernel
theorem dX1_read_29 : decode cX1_read 29 = .ok (.iload_n 3, 1) := by decide +kernel
theorem dX1_read_30 : decode cX1_read 30 = .ok (.iaload, 1) := by decide +kernel
theorem dX1_read_31 : decode cX1_read 31 = .ok (.ireturn, 1) := by decide +kernel
theorem dX1_write_0 : decode cX1_write 0 = .ok (.iload_n 1, 1) := by decide +kernel
theorem dX1_write_1 : decode cX1_write 1 = .ok (.ifCond .lt 19, 3) := by decide +kernel
theorem dX1_write_4 : decode cX1_write 4 = .ok (.iload_n 1, 1) := by decide +kernel
theorem dX1_write_5 : decode cX1_write 5 = .ok (.aload_n 0, 1) := by decide +kernel
theorem dX1_write_6 : decode cX1_write 6 = .ok (.getfield 11, 3) := by decide +kernel
theorem dX1_write_9 : decode cX1_write 9 = .ok (.arraylength, 1) := by decide +kernel
theorem dX1_write_10 : decode cX1_write 10 = .ok (.if_icmp .ge 10, 3) := by decide +kernel
theorem dX1_write_13 : decode cX1_write 13 = .ok (.aload_n 0, 1) := by decide +kernel
theorem dX1_write_14 : decode cX1_write 14 = .ok (.getfield 11, 3) := by decide +kernel
theorem dX1_write_17 : decode cX1_write 17 = .ok (.iload_n 1, 1) := by decide +kernel
theorem dX1_write_18 : decode cX1_write 18 = .ok (.iload_n 2, 1) := by decide +kernel
theorem dX1_write_19 : decode cX1_write 19 = .ok (.iastore, 1) := by decide +kernel
theorem dX1_write_20 : decode cX1_write 20 = .ok (.return_, 1) := by decide +kernel
theorem dX1_rowOf_0 : decode cX1_rowOf 0 = .ok (.aload_n 0, 1) := by decide +kernel
theorem dX1_rowOf_1 : decode cX1_rowOf 1 = .ok (.getfield 19, 3) := by decide +kernel
theorem dX1_rowOf_4 : decode cX1_rowOf 4 = .ok (.iload_n 1, 1) := by decide +kernel
theorem dX1_rowOf_5 : decode cX1_rowOf 5 = .ok (.iadd, 1) := by decide +kernel
theorem dX1_rowOf_6 : decode cX1_rowOf 6 = .ok (.bipush 16, 2) := by decide +kernel
theorem dX1_rowOf_8 : decode cX1_rowOf 8 = .ok (.irem, 1) := by decide +kernel
theorem dX1_rowOf_9 : decode cX1_rowOf 9 = .ok (.iconst 3, 1) := by decide +kernel
theorem dX1_rowOf_10 : decode cX1_rowOf 10 = .ok (.imul, 1) := by decide +kernel
theorem dX1_rowOf_11 : decode cX1_rowOf 11 = .ok (.ireturn, 1) := by decide +kernel
theorem dX2_init_0 : decode cX2_init 0 = .ok (.aload_n 0, 1) := by decide +kernel
theorem dX2_init_1 : decode cX2_init 1 = .ok (.invokespecial 3, 3) := by decide +kernel
theorem dX2_init_4 : decode cX2_init 4 = .ok (.aload_n 0, 1) := by decide +kernel
theorem dX2_init_5 : decode cX2_init 5 = .ok (.bipush 80, 2) := by decide +kernel
theorem dX2_init_7 : decode cX2_init 7 = .ok (.newarray .char, 2) := by decide +kernel
theorem dX2_init_9 : decode cX2_init 9 = .ok (.putfield 9, 3) := by decide +kernel
theorem dX2_init_12 : decode cX2_init 12 = .ok (.return_, 1) := by decide +kernel
theorem dX3_init_0 : decode cX3_init 0 = .ok (.aload_n 0, 1) := by decide +kernel
theorem dX3_init_1 : decode cX3_init 1 = .ok (.invokespecial 3, 3) := by decide +kernel
theorem dX3_init_4 : decode cX3_init 4 = .ok (.aload_n 0, 1) := by decide +kernel
theorem dX3_init_5 : decode cX3_init 5 = .ok (.new 9, 3) := by decide +kernel
theorem dX3_init_8 : decode cX3_init 8 = .ok (.dup, 1) := by decide +kernel
theorem dX3_init_9 : decode cX3_init 9 = .ok (.invokespecial 11, 3) := by decide +kernel
theorem dX3_init_12 : decode cX3_init 12 = .ok (.putfield 12, 3) := by decide +kernel
theorem dX3_init_15 : decode cX3_init 15 = .ok (.aload_n 0, 1) := by decide +kernel
theorem dX3_init_16 : decode cX3_init 16 = .ok (.new 9, 3) := by decide +kernel
theorem dX3_init_19 : decode cX3_init 19 = .ok (.dup, 1) := by decide +kernel
theorem dX3_init_20 : decode cX3_init 20 = .ok (.invokespecial 11, 3) := by decide +kernel
theorem dX3_init_23 : decode cX3_init 23 = .ok (.putfield 18, 3) := by decide +kernel
theorem dX3_init_26 : decode cX3_init 26 = .ok (.aload_n 0, 1) := by decide +kernel
theorem dX3_init_27 : decode cX3_init 27 = .ok (.new 9, 3) := by decide +kernel
theorem dX3_init_30 : decode cX3_init 30 = .ok (.dup, 1) := by decide +kernel
theorem dX3_init_31 : decode cX3_init 31 = .ok (.invokespecial 11, 3) := by decide +kernel
theorem dX3_init_34 : decode cX3_init 34 = .ok (.putfield 21, 3) := by decide +kernel
theorem dX3_init_37 : decode cX3_init 37 = .ok (.aload_n 0, 1) := by decide +kernel
theorem dX3_init_38 : decode cX3_init 38 = .ok (.new 9, 3) := by decide +kernel
theorem dX3_init_41 : decode cX3_init 41 = .ok (.dup, 1) := by decide +kernel
theorem dX3_init_42 : decode cX3_init 42 = .ok (.invokespecial 11, 3) := by decide +kernel
theorem dX3_init_45 : decode cX3_init 45 = .ok (.putfield 24, 3) := by decide +kernel
theorem dX3_init_48 : decode cX3_init 48 = .ok (.return_, 1) := by decide +kernel
theorem dX3_keep_0 : decode cX3_keep 0 = .ok (.aload_n 0, 1) := by decide +kernel
theorem dX3_keep_1 : decode cX3_keep 1 = .ok (.getfield 27, 3) := by decide +kernel
theorem dX3_keep_4 : decode cX3_keep 4 = .ok (.iconst 4, 1) := by decide +kernel
theorem dX3_keep_5 : decode cX3_keep 5 = .ok (.if_icmp .ge 16, 3) := by decide +kernel
theorem dX3_keep_8 : decode cX3_keep 8 = .ok (.aload_n 0, 1) := by decide +kernel
theorem dX3_keep_9 : decode cX3_keep 9 = .ok (.dup, 1) := by decide +kernel
theorem dX3_keep_10 : decode cX3_keep 10 = .ok (.getfield 27, 3) := by decide +kernel
theorem dX3_keep_13 : decode cX3_keep 13 = .ok (.iconst 1, 1) := by decide +kernel
theorem dX3_keep_14 : decode cX3_keep 14 = .ok (.iadd, 1) := by decide +kernel
theorem dX3_keep_15 : decode cX3_keep 15 = .ok (.putfield 27, 3) := by decide +kernel
theorem dX3_keep_18 : decode cX3_keep 18 = .ok (.goto 15, 3) := by decide +kernel
theorem dX3_keep_21 : decode cX3_keep 21 = .ok (.aload_n 0, 1) := by decide +kernel
theorem dX3_keep_22 : decode cX3_keep 22 = .ok (.aload_n 0, 1) := by decide +kernel
theorem dX3_keep_23 : decode cX3_keep 23 = .ok (.getfield 31, 3) := by decide +kernel
theorem dX3_keep_26 : decode cX3_keep 26 = .ok (.iconst 1, 1) := by decide +kernel
theorem dX3_keep_27 : decode cX3_keep 27 = .ok (.iadd, 1) := by decide +kernel
theorem dX3_keep_28 : decode cX3_keep 28 = .ok (.iconst 4, 1) := by decide +kernel
theorem dX3_keep_29 : decode cX3_keep 29 = .ok (.irem, 1) := by decide +kernel
theorem dX3_keep_30 : decode cX3_keep 30 = .ok (.putfield 31, 3) := by decide +kernel
theorem dX3_keep_33 : decode cX3_keep 33 = .ok (.aload_n 0, 1) := by decide +kernel
theorem dX3_keep_34 : decode cX3_keep 34 = .ok (.invokevirtual 34, 3) := by decide +kernel
theorem dX3_keep_37 : decode cX3_keep 37 = .ok (.aload_n 1, 1) := by decide +kernel
theorem dX3_keep_38 : decode cX3_keep 38 = .ok (.invokevirtual 38, 3) := by decide +kernel
theorem dX3_keep_41 : decode cX3_keep 41 = .ok (.return_, 1) := by decide +kernel
theorem dX3_latest_0 : decode cX3_latest 0 = .ok (.aload_n 0, 1) := by decide +kernel
theorem dX3_latest_1 : decode cX3_latest 1 = .ok (.getfield 31, 3) := by decide +kernel
theorem dX3_latest_4 : decode cX3_latest 4 = .ok (.aload_n 0, 1) := by decide +kernel
theorem dX3_latest_5 : decode cX3_latest 5 = .ok (.getfield 27, 3) := by decide +kernel
theorem dX3_latest_8 : decode cX3_latest 8 = .ok (.iadd, 1) := by decide +kernel
theorem dX3_latest_9 : decode cX3_latest 9 = .ok (.iconst 1, 1) := by decide +kernel
theorem dX3_latest_10 : decode cX3_latest 10 = .ok (.isub, 1) := by decide +kernel
theorem dX3_latest_11 : decode cX3_latest 11 = .ok (.iconst 4, 1) := by decide +kernel
theorem dX3_latest_12 : decode cX3_latest 12 = .ok (.irem, 1) := by decide +kernel
theorem dX3_latest_13 : decode cX3_latest 13 = .ok (.tableswitch 42 0 2 #[27, 32, 37], 27) := by decide +kernel
theorem dX3_latest_40 : decode cX3_latest 40 = .ok (.aload_n 0, 1) := by decide +kernel
theorem dX3_latest_41 : decode cX3_latest 41 = .ok (.getfield 12, 3) := by decide +kernel
theorem dX3_latest_44 : decode cX3_latest 44 = .ok (.areturn, 1) := by decide +kernel
theorem dX3_latest_45 : decode cX3_latest 45 = .ok (.aload_n 0, 1) := by decide +kernel
theorem dX3_latest_46 : decode cX3_latest 46 = .ok (.getfield 18, 3) := by decide +kernel
theorem dX3_latest_49 : decode cX3_latest 49 = .ok (.areturn, 1) := by decide +kernel
theorem dX3_latest_50 : decode cX3_latest 50 = .ok (.aload_n 0, 1) := by decide +kernel
theorem dX3_latest_51 : decode cX3_latest 51 = .ok (.getfield 21, 3) := by decide +kernel
theorem dX3_latest_54 : decode cX3_latest 54 = .ok (.areturn, 1) := by decide +kernel
theorem dX3_latest_55 : decode cX3_latest 55 = .ok (.aload_n 0, 1) := by decide +kernel
theorem dX3_latest_56 : decode cX3_latest 56 = .ok (.getfield 24, 3) := by decide +kernel
theorem dX3_latest_59 : decode cX3_latest 59 = .ok (.areturn, 1) := by decide +kernel
theorem dX4_init_0 : decode cX4_init 0 = .ok (.aload_n 0, 1) := by decide +kernel
theorem dX4_init_1 : decode cX4_init 1 = .ok (.invokespecial 3, 3) := by decide +kernel
theorem dX4_init_4 : decode cX4_init 4 = .ok (.aload_n 0, 1) := by decide +kernel
theorem dX4_init_5 : decode cX4_init 5 = .ok (.new 9, 3) := by decide +kernel
theorem dX4_init_8 : decode cX4_init 8 = .ok (.dup, 1) := by decide +kernel
theorem dX4_init_9 : decode cX4_init 9 = .ok (.invokespecial 11, 3) := by decide +kernel
theorem dX4_init_12 : decode cX4_init 12 = .ok (.putfield 12, 3) := by decide +kernel
theorem dX4_init_15 : decode cX4_init 15 = .ok (.return_, 1) := by decide +kernel
theorem dX4_ring_0 : decode cX4_ring 0 = .ok (.iload_n 0, 1) := by decide +kernel
theorem dX4_ring_1 : decode cX4_ring 1 = .ok (.iload_n 0, 1) := by decide +kernel
theorem dX4_ring_2 : decode cX4_ring 2 = .ok (.iconst 1, 1) := by decide +kernel
theorem dX4_ring_3 : decode cX4_ring 3 = .ok (.ishr, 1) := by decide +kernel
theorem dX4_ring_4 : decode cX4_ring 4 = .ok (.ixor, 1) := by decide +kernel
theorem dX4_ring_5 : decode cX4_ring 5 = .ok (.ireturn, 1) := by decide +kernel
theorem dX4_neighbour_0 : decode cX4_neighbour 0 = .ok (.aload_n 0, 1) := by decide +kernel
theorem dX4_neighbour_1 : decode cX4_neighbour 1 = .ok (.getfield 18, 3) := by decide +kernel
theorem dX4_neighbour_4 : decode cX4_neighbour 4 = .ok (.invokestatic 22, 3) := by decide +kernel
theorem dX4_neighbour_7 : decode cX4_neighbour 7 = .ok (.iload_n 1, 1) := by decide +kernel
theorem dX4_neighbour_8 : decode cX4_neighbour 8 = .ok (.iadd, 1) := by decide +kernel
theorem dX4_neighbour_9 : decode cX4_neighbour 9 = .ok (.iconst 3, 1) := by decide +kernel
theorem dX4_neighbour_10 : decode cX4_neighbour 10 = .ok (.iand, 1) := by decide +kernel
theorem dX4_neighbour_11 : decode cX4_neighbour 11 = .ok (.invokestatic 22, 3) := by decide +kernel
theorem dX4_neighbour_14 : decode cX4_neighbour 14 = .ok (.ireturn, 1) := by decide +kernel
theorem dX4_stepUnder_0 : decode cX4_stepUnder 0 = .ok (.aload_n 0, 1) := by decide +kernel
theorem dX4_stepUnder_1 : decode cX4_stepUnder 1 = .ok (.getfield 18, 3) := by decide +kernel
theorem dX4_stepUnder_4 : decode cX4_stepUnder 4 = .ok (.iload_n 2, 1) := by decide +kernel
theorem dX4_stepUnder_5 : decode cX4_stepUnder 5 = .ok (.ixor, 1) := by decide +kernel
theorem dX4_stepUnder_6 : decode cX4_stepUnder 6 = .ok (.iconst 3, 1) := by decide +kernel
theorem dX4_stepUnder_7 : decode cX4_stepUnder 7 = .ok (.if_icmp .ne 19, 3) := by decide +kernel
theorem dX4_stepUnder_10 : decode cX4_stepUnder 10 = .ok (.iload_n 1, 1) := by decide +kernel
theorem dX4_stepUnder_11 : decode cX4_stepUnder 11 = .ok (.iconst 1, 1) := by decide +kernel
theorem dX4_stepUnder_12 : decode cX4_stepUnder 12 = .ok (.if_icmp .ne 12, 3) := by decide +kernel
theorem dX4_stepUnder_15 : decode cX4_stepUnder 15 = .ok (.iconst 2, 1) := by decide +kernel
theorem dX4_stepUnder_16 : decode cX4_stepUnder 16 = .ok (.aload_n 0, 1) := by decide +kernel
theorem dX4_stepUnder_17 : decode cX4_stepUnder 17 = .ok (.getfield 26, 3) := by decide +kernel
theorem dX4_stepUnder_20 : decode cX4_stepUnder 20 = .ok (.imul, 1) := by decide +kernel
theorem dX4_stepUnder_21 : decode cX4_stepUnder 21 = .ok (.goto 4, 3) := by decide +kernel
theorem dX4_stepUnder_24 : decode cX4_stepUnder 24 = .ok (.iconst 0, 1) := by decide +kernel
theorem dX4_stepUnder_25 : decode cX4_stepUnder 25 = .ok (.ireturn, 1) := by decide +kernel
theorem dX4_stepUnder_26 : decode cX4_stepUnder 26 = .ok (.iload_n 2, 1) := by decide +kernel
theorem dX4_stepUnder_27 : decode cX4_stepUnder 27 = .ok (.aload_n 0, 1) := by decide +kernel
theorem dX4_stepUnder_28 : decode cX4_stepUnder 28 = .ok (.getfield 18, 3) := by decide +kernel
theorem dX4_stepUnder_31 : decode cX4_stepUnder 31 = .ok (.if_icmp .ne 5, 3) := by decide +kernel
theorem dX4_stepUnder_34 : decode cX4_stepUnder 34 = .ok (.iconst 0, 1) := by decide +kernel
theorem dX4_stepUnder_35 : decode cX4_stepUnder 35 = .ok (.ireturn, 1) := by decide +kernel
theorem dX4_stepUnder_36 : decode cX4_stepUnder 36 = .ok (.iload_n 2, 1) := by decide +kernel
theorem dX4_stepUnder_37 : decode cX4_stepUnder 37 = .ok (.aload_n 0, 1) := by decide +kernel
theorem dX4_stepUnder_38 : decode cX4_stepUnder 38 = .ok (.iconst 1, 1) := by decide +kernel
theorem dX4_stepUnder_39 : decode cX4_stepUnder 39 = .ok (.invokevirtual 29, 3) := by decide +kernel
theorem dX4_stepUnder_42 : decode cX4_stepUnder 42 = .ok (.if_icmp .ne 7, 3) := by decide +kernel
theorem dX4_stepUnder_45 : decode cX4_stepUnder 45 = .ok (.iconst 1, 1) := by decide +kernel
theorem dX4_stepUnder_46 : decode cX4_stepUnder 46 = .ok (.goto 4, 3) := by decide +kernel
theorem dX4_stepUnder_49 : decode cX4_stepUnder 49 = .ok (.iconst (-1), 1) := by decide +kernel
theorem dX4_stepUnder_50 : decode cX4_stepUnder 50 = .ok (.ireturn, 1) := by decide +kernel
theorem dX4_hasRoom_0 : decode cX4_hasRoom 0 = .ok (.aload_n 0, 1) := by decide +kernel
theorem dX4_hasRoom_1 : decode cX4_hasRoom 1 = .ok (.getfield 32, 3) := by decide +kernel
theorem dX4_hasRoom_4 : decode cX4_hasRoom 4 = .ok (.iload_n 1, 1) := by decide +kernel
theorem dX4_hasRoom_5 : decode cX4_hasRoom 5 = .ok (.iadd, 1) := by decide +kernel
theorem dX4_hasRoom_6 : decode cX4_hasRoom 6 = .ok (.ldc 35, 2) := by decide +kernel
theorem dX4_hasRoom_8 : decode cX4_hasRoom 8 = .ok (.if_icmp .gt 18, 3) := by decide +kernel
theorem dX4_hasRoom_11 : decode cX4_hasRoom 11 = .ok (.aload_n 0, 1) := by decide +kernel
theorem dX4_hasRoom_12 : decode cX4_hasRoom 12 = .ok (.getfield 36, 3) := by decide +kernel
theorem dX4_hasRoom_15 : decode cX4_hasRoom 15 = .ok (.iload_n 2, 1) := by decide +kernel
theorem dX4_hasRoom_16 : decode cX4_hasRoom 16 = .ok (.iadd, 1) := by decide +kernel
theorem dX4_hasRoom_17 : decode cX4_hasRoom 17 = .ok (.ldc 35, 2) := by decide +kernel
theorem dX4_hasRoom_19 : decode cX4_hasRoom 19 = .ok (.if_icmp .gt 7, 3) := by decide +kernel
theorem dX4_hasRoom_22 : decode cX4_hasRoom 22 = .ok (.iconst 1, 1) := by decide +kernel
theorem dX4_hasRoom_23 : decode cX4_hasRoom 23 = .ok (.goto 4, 3) := by decide +kernel
theorem dX4_hasRoom_26 : decode cX4_hasRoom 26 = .ok (.iconst 0, 1) := by decide +kernel
theorem dX4_hasRoom_27 : decode cX4_hasRoom 27 = .ok (.ireturn, 1) := by decide +kernel
theorem dX4_sense_0 : decode cX4_sense 0 = .ok (.aload_n 0, 1) := by decide +kernel
theorem dX4_sense_1 : decode cX4_sense 1 = .ok (.getfield 18, 3) := by decide +kernel
theorem dX4_sense_4 : decode cX4_sense 4 = .ok (.iload_n 1, 1) := by decide +kernel
theorem dX4_sense_5 : decode cX4_sense 5 = .ok (.ixor, 1) := by decide +kernel
theorem dX4_sense_6 : decode cX4_sense 6 = .ok (.iconst 3, 1) := by decide +kernel
theorem dX4_sense_7 : decode cX4_sense 7 = .ok (.if_icmp .ne 13, 3) := by decide +kernel
theorem dX4_sense_10 : decode cX4_sense 10 = .ok (.aload_n 0, 1) := by decide +kernel
theorem dX4_sense_11 : decode cX4_sense 11 = .ok (.dup, 1) := by decide +kernel
theorem dX4_sense_12 : decode cX4_sense 12 = .ok (.getfield 39, 3) := by decide +kernel
theorem dX4_sense_15 : decode cX4_sense 15 = .ok (.iconst 1, 1) := by decide +kernel
theorem dX4_sense_16 : decode cX4_sense 16 = .ok (.iadd, 1) := by decide +kernel
theorem dX4_sense_17 : decode cX4_sense 17 = .ok (.putfield 39, 3) := by decide +kernel
theorem dX4_sense_20 : decode cX4_sense 20 = .ok (.aload_n 0, 1) := by decide +kernel
theorem dX4_sense_21 : decode cX4_sense 21 = .ok (.getfield 12, 3) := by decide +kernel
theorem dX4_sense_24 : decode cX4_sense 24 = .ok (.iload_n 2, 1) := by decide +kernel
theorem dX4_sense_25 : decode cX4_sense 25 = .ok (.iload_n 3, 1) := by decide +kernel
theorem dX4_sense_26 : decode cX4_sense 26 = .ok (.aload_n 0, 1) := by decide +kernel
theorem dX4_sense_27 : decode cX4_sense 27 = .ok (.getfield 18, 3) := by decide +kernel
theorem dX4_sense_30 : decode cX4_sense 30 = .ok (.invokevirtual 42, 3) := by decide +kernel
theorem dX4_sense_33 : decode cX4_sense 33 = .ok (.aload_n 0, 1) := by decide +kernel
theorem dX4_sense_34 : decode cX4_sense 34 = .ok (.iload_n 1, 1) := by decide +kernel
theorem dX4_sense_35 : decode cX4_sense 35 = .ok (.iload_n 2, 1) := by decide +kernel
theorem dX4_sense_36 : decode cX4_sense 36 = .ok (.iload_n 3, 1) := by decide +kernel
theorem dX4_sense_37 : decode cX4_sense 37 = .ok (.invokevirtual 46, 3) := by decide +kernel
theorem dX4_sense_40 : decode cX4_sense 40 = .ok (.return_, 1) := by decide +kernel
theorem dX4_canRetrace_0 : decode cX4_canRetrace 0 = .ok (.aload_n 0, 1) := by decide +kernel
theorem dX4_canRetrace_1 : decode cX4_canRetrace 1 = .ok (.getfield 12, 3) := by decide +kernel
theorem dX4_canRetrace_4 : decode cX4_canRetrace 4 = .ok (.getfield 49, 3) := by decide +kernel
theorem dX4_canRetrace_7 : decode cX4_canRetrace 7 = .ok (.iload_n 1, 1) := by decide +kernel
theorem dX4_canRetrace_8 : decode cX4_canRetrace 8 = .ok (.if_icmp .ge 5, 3) := by decide +kernel
theorem dX4_canRetrace_11 : decode cX4_canRetrace 11 = .ok (.iconst 0, 1) := by decide +kernel
theorem dX4_canRetrace_12 : decode cX4_canRetrace 12 = .ok (.ireturn, 1) := by decide +kernel
theorem dX4_canRetrace_13 : decode cX4_canRetrace 13 = .ok (.iconst 0, 1) := by decide +kernel
theorem dX4_canRetrace_14 : decode cX4_canRetrace 14 = .ok (.istore_n 2, 1) := by decide +kernel
theorem dX4_canRetrace_15 : decode cX4_canRetrace 15 = .ok (.iconst 0, 1) := by decide +kernel
theorem dX4_canRetrace_16 : decode cX4_canRetrace 16 = .ok (.istore_n 3, 1) := by decide +kernel
theorem dX4_canRetrace_17 : decode cX4_canRetrace 17 = .ok (.aload_n 0, 1) := by decide +kernel
theorem dX4_canRetrace_18 : decode cX4_canRetrace 18 = .ok (.getfield 12, 3) := by decide +kernel
theorem dX4_canRetrace_21 : decode cX4_canRetrace 21 = .ok (.getfield 49, 3) := by decide +kernel
theorem dX4_canRetrace_24 : decode cX4_canRetrace 24 = .ok (.iload_n 1, 1) := by decide +kernel
theorem dX4_canRetrace_25 : decode cX4_canRetrace 25 = .ok (.isub, 1) := by decide +kernel
theorem dX4_canRetrace_26 : decode cX4_canRetrace 26 = .ok (.istore 4, 2) := by decide +kernel
theorem dX4_canRetrace_28 : decode cX4_canRetrace 28 = .ok (.iload 4, 2) := by decide +kernel
theorem dX4_canRetrace_30 : decode cX4_canRetrace 30 = .ok (.aload_n 0, 1) := by decide +kernel
theorem dX4_canRetrace_31 : decode cX4_canRetrace 31 = .ok (.getfield 12, 3) := by decide +kernel
theorem dX4_canRetrace_34 : decode cX4_canRetrace 34 = .ok (.getfield 49, 3) := by decide +kernel
theorem dX4_canRetrace_37 : decode cX4_canRetrace 37 = .ok (.if_icmp .ge 36, 3) := by decide +kernel
theorem dX4_canRetrace_40 : decode cX4_canRetrace 40 = .ok (.iload_n 2, 1) := by decide +kernel
theorem dX4_canRetrace_41 : decode cX4_canRetrace 41 = .ok (.aload_n 0, 1) := by decide +kernel
theorem dX4_canRetrace_42 : decode cX4_canRetrace 42 = .ok (.getfield 12, 3) := by decide +kernel
theorem dX4_canRetrace_45 : decode cX4_canRetrace 45 = .ok (.iload 4, 2) := by decide +kernel
theorem dX4_canRetrace_47 : decode cX4_canRetrace 47 = .ok (.invokevirtual 52, 3) := by decide +kernel
theorem dX4_canRetrace_50 : decode cX4_canRetrace 50 = .ok (.iadd, 1) := by decide +kernel
theorem dX4_canRetrace_51 : decode cX4_canRetrace 51 = .ok (.istore_n 2, 1) := by decide +kernel
theorem dX4_canRetrace_52 : decode cX4_canRetrace 52 = .ok (.iload_n 3, 1) := by decide +kernel
theorem dX4_canRetrace_53 : decode cX4_canRetrace 53 = .ok (.aload_n 0, 1) := by decide +kernel
theorem dX4_canRetrace_54 : decode cX4_canRetrace 54 = .ok (.getfield 12, 3) := by decide +kernel
theorem dX4_canRetrace_57 : decode cX4_canRetrace 57 = .ok (.iload 4, 2) := by decide +kernel
theorem dX4_canRetrace_59 : decode cX4_canRetrace 59 = .ok (.invokevirtual 55, 3) := by decide +kernel
theorem dX4_canRetrace_62 : decode cX4_canRetrace 62 = .ok (.invokestatic 58, 3) := by decide +kernel
theorem dX4_canRetrace_65 : decode cX4_canRetrace 65 = .ok (.iadd, 1) := by decide +kernel
theorem dX4_canRetrace_66 : decode cX4_canRetrace 66 = .ok (.istore_n 3, 1) := by decide +kernel
theorem dX4_canRetrace_67 : decode cX4_canRetrace 67 = .ok (.iinc 4 1, 3) := by decide +kernel
theorem dX4_canRetrace_70 : decode cX4_canRetrace 70 = .ok (.goto (-42), 3) := by decide +kernel
theorem dX4_canRetrace_73 : decode cX4_canRetrace 73 = .ok (.aload_n 0, 1) := by decide +kernel
theorem dX4_canRetrace_74 : decode cX4_canRetrace 74 = .ok (.iload_n 2, 1) := by decide +kernel
theorem dX4_canRetrace_75 : decode cX4_canRetrace 75 = .ok (.iload_n 3, 1) := by decide +kernel
theorem dX4_canRetrace_76 : decode cX4_canRetrace 76 = .ok (.invokevirtual 63, 3) := by decide +kernel
theorem dX4_canRetrace_79 : decode cX4_canRetrace 79 = .ok (.ireturn, 1) := by decide +kernel
theorem dX4_retrace_0 : decode cX4_retrace 0 = .ok (.iconst 0, 1) := by decide +kernel
theorem dX4_retrace_1 : decode cX4_retrace 1 = .ok (.istore_n 2, 1) := by decide +kernel
theorem dX4_retrace_2 : decode cX4_retrace 2 = .ok (.iload_n 2, 1) := by decide +kernel
theorem dX4_retrace_3 : decode cX4_retrace 3 = .ok (.iload_n 1, 1) := by decide +kernel
theorem dX4_retrace_4 : decode cX4_retrace 4 = .ok (.if_icmp .ge 55, 3) := by decide +kernel
theorem dX4_retrace_7 : decode cX4_retrace 7 = .ok (.aload_n 0, 1) := by decide +kernel
theorem dX4_retrace_8 : decode cX4_retrace 8 = .ok (.getfield 12, 3) := by decide +kernel
theorem dX4_retrace_11 : decode cX4_retrace 11 = .ok (.getfield 49, 3) := by decide +kernel
theorem dX4_retrace_14 : decode cX4_retrace 14 = .ok (.iconst 1, 1) := by decide +kernel
theorem dX4_retrace_15 : decode cX4_retrace 15 = .ok (.isub, 1) := by decide +kernel
theorem dX4_retrace_16 : decode cX4_retrace 16 = .ok (.istore_n 3, 1) := by decide +kernel
theorem dX4_retrace_17 : decode cX4_retrace 17 = .ok (.aload_n 0, 1) := by decide +kernel
theorem dX4_retrace_18 : decode cX4_retrace 18 = .ok (.aload_n 0, 1) := by decide +kernel
theorem dX4_retrace_19 : decode cX4_retrace 19 = .ok (.getfield 12, 3) := by decide +kernel
theorem dX4_retrace_22 : decode cX4_retrace 22 = .ok (.iload_n 3, 1) := by decide +kernel
theorem dX4_retrace_23 : decode cX4_retrace 23 = .ok (.invokevirtual 67, 3) := by decide +kernel
theorem dX4_retrace_26 : decode cX4_retrace 26 = .ok (.aload_n 0, 1) := by decide +kernel
theorem dX4_retrace_27 : decode cX4_retrace 27 = .ok (.getfield 12, 3) := by decide +kernel
theorem dX4_retrace_30 : decode cX4_retrace 30 = .ok (.iload_n 3, 1) := by decide +kernel
theorem dX4_retrace_31 : decode cX4_retrace 31 = .ok (.invokevirtual 55, 3) := by decide +kernel
theorem dX4_retrace_34 : decode cX4_retrace 34 = .ok (.ineg, 1) := by decide +kernel
theorem dX4_retrace_35 : decode cX4_retrace 35 = .ok (.aload_n 0, 1) := by decide +kernel
theorem dX4_retrace_36 : decode cX4_retrace 36 = .ok (.getfield 12, 3) := by decide +kernel
theorem dX4_retrace_39 : decode cX4_retrace 39 = .ok (.iload_n 3, 1) := by decide +kernel
theorem dX4_retrace_40 : decode cX4_retrace 40 = .ok (.invokevirtual 52, 3) := by decide +kernel
theorem dX4_retrace_43 : decode cX4_retrace 43 = .ok (.invokevirtual 46, 3) := by decide +kernel
theorem dX4_retrace_46 : decode cX4_retrace 46 = .ok (.aload_n 0, 1) := by decide +kernel
theorem dX4_retrace_47 : decode cX4_retrace 47 = .ok (.getfield 12, 3) := by decide +kernel
theorem dX4_retrace_50 : decode cX4_retrace 50 = .ok (.invokevirtual 70, 3) := by decide +kernel
theorem dX4_retrace_53 : decode cX4_retrace 53 = .ok (.iinc 2 1, 3) := by decide +kernel
theorem dX4_retrace_56 : decode cX4_retrace 56 = .ok (.goto (-54), 3) := by decide +kernel
theorem dX4_retrace_59 : decode cX4_retrace 59 = .ok (.return_, 1) := by decide +kernel
theorem dX4_move_0 : decode cX4_move 0 = .ok (.aload_n 0, 1) := by decide +kernel
theorem dX4_move_1 : decode cX4_move 1 = .ok (.aload_n 0, 1) := by decide +kernel
theorem dX4_move_2 : decode cX4_move 2 = .ok (.getfield 18, 3) := by decide +kernel
theorem dX4_move_5 : decode cX4_move 5 = .ok (.iload_n 1, 1) := by decide +kernel
theorem dX4_move_6 : decode cX4_move 6 = .ok (.ixor, 1) := by decide +kernel
theorem dX4_move_7 : decode cX4_move 7 = .ok (.iload_n 2, 1) := by decide +kernel
theorem dX4_move_8 : decode cX4_move 8 = .ok (.invokevirtual 73, 3) := by decide +kernel
theorem dX4_move_11 : decode cX4_move 11 = .ok (.aload_n 0, 1) := by decide +kernel
theorem dX4_move_12 : decode cX4_move 12 = .ok (.iload_n 1, 1) := by decide +kernel
theorem dX4_move_13 : decode cX4_move 13 = .ok (.putfield 18, 3) := by decide +kernel
theorem dX4_move_16 : decode cX4_move 16 = .ok (.aload_n 0, 1) := by decide +kernel
theorem dX4_move_17 : decode cX4_move 17 = .ok (.dup, 1) := by decide +kernel
theorem dX4_move_18 : decode cX4_move 18 = .ok (.getfield 77, 3) := by decide +kernel
theorem dX4_move_21 : decode cX4_move 21 = .ok (.iload_n 2, 1) := by decide +kernel
theorem dX4_move_22 : decode cX4_move 22 = .ok (.iadd, 1) := by decide +kernel
theorem dX4_move_23 : decode cX4_move 23 = .ok (.putfield 77, 3) := by decide +kernel
theorem dX4_move_26 : decode cX4_move 26 = .ok (.aload_n 0, 1) := by decide +kernel
theorem dX4_move_27 : decode cX4_move 27 = .ok (.dup, 1) := by decide +kernel
theorem dX4_move_28 : decode cX4_move 28 = .ok (.getfield 36, 3) := by decide +kernel
theorem dX4_move_31 : decode cX4_move 31 = .ok (.iload_n 2, 1) := by decide +kernel
theorem dX4_move_32 : decode cX4_move 32 = .ok (.invokestatic 58, 3) := by decide +kernel
theorem dX4_move_35 : decode cX4_move 35 = .ok (.iadd, 1) := by decide +kernel
theorem dX4_move_36 : decode cX4_move 36 = .ok (.putfield 36, 3) := by decide +kernel
theorem dX4_move_39 : decode cX4_move 39 = .ok (.aload_n 0, 1) := by decide +kernel
theorem dX4_move_40 : decode cX4_move 40 = .ok (.dup, 1) := by decide +kernel
theorem dX4_move_41 : decode cX4_move 41 = .ok (.getfield 32, 3) := by decide +kernel
theorem dX4_move_44 : decode cX4_move 44 = .ok (.iload_n 3, 1) := by decide +kernel
theorem dX4_move_45 : decode cX4_move 45 = .ok (.iadd, 1) := by decide +kernel
theorem dX4_move_46 : decode cX4_move 46 = .ok (.putfield 32, 3) := by decide +kernel
theorem dX4_move_49 : decode cX4_move 49 = .ok (.iload_n 2, 1) := by decide +kernel
theorem dX4_move_50 : decode cX4_move 50 = .ok (.ifCond .eq 16, 3) := by decide +kernel
theorem dX4_move_53 : decode cX4_move 53 = .ok (.aload_n 0, 1) := by decide +kernel
theorem dX4_move_54 : decode cX4_move 54 = .ok (.iload_n 2, 1) := by decide +kernel
theorem dX4_move_55 : decode cX4_move 55 = .ok (.ifCond .le 7, 3) := by decide +kernel
theorem dX4_move_58 : decode cX4_move 58 = .ok (.iconst 1, 1) := by decide +kernel
theorem dX4_move_59 : decode cX4_move 59 = .ok (.goto 4, 3) := by decide +kernel
theorem dX4_move_62 : decode cX4_move 62 = .ok (.iconst (-1), 1) := by decide +kernel
theorem dX4_move_63 : decode cX4_move 63 = .ok (.putfield 26, 3) := by decide +kernel
theorem dX4_move_66 : decode cX4_move 66 = .ok (.return_, 1) := by decide +kernel
theorem dX4_book_0 : decode cX4_book 0 = .ok (.iload_n 1, 1) := by decide +kernel
theorem dX4_book_1 : decode cX4_book 1 = .ok (.tableswitch 66 1 3 #[40, 27, 53], 27) := by decide +kernel
theorem dX4_book_28 : decode cX4_book 28 = .ok (.aload_n 0, 1) := by decide +kernel
theorem dX4_book_29 : decode cX4_book 29 = .ok (.dup, 1) := by decide +kernel
theorem dX4_book_30 : decode cX4_book 30 = .ok (.getfield 80, 3) := by decide +kernel
theorem dX4_book_33 : decode cX4_book 33 = .ok (.iload_n 2, 1) := by decide +kernel
theorem dX4_book_34 : decode cX4_book 34 = .ok (.iadd, 1) := by decide +kernel
theorem dX4_book_35 : decode cX4_book 35 = .ok (.putfield 80, 3) := by decide +kernel
theorem dX4_book_38 : decode cX4_book 38 = .ok (.goto 29, 3) := by decide +kernel
theorem dX4_book_41 : decode cX4_book 41 = .ok (.aload_n 0, 1) := by decide +kernel
theorem dX4_book_42 : decode cX4_book 42 = .ok (.dup, 1) := by decide +kernel
theorem dX4_book_43 : decode cX4_book 43 = .ok (.getfield 83, 3) := by decide +kernel
theorem dX4_book_46 : decode cX4_book 46 = .ok (.iload_n 2, 1) := by decide +kernel
theorem dX4_book_47 : decode cX4_book 47 = .ok (.iadd, 1) := by decide +kernel
theorem dX4_book_48 : decode cX4_book 48 = .ok (.putfield 83, 3) := by decide +kernel
theorem dX4_book_51 : decode cX4_book 51 = .ok (.goto 16, 3) := by decide +kernel
theorem dX4_book_54 : decode cX4_book 54 = .ok (.aload_n 0, 1) := by decide +kernel
theorem dX4_book_55 : decode cX4_book 55 = .ok (.dup, 1) := by decide +kernel
theorem dX4_book_56 : decode cX4_book 56 = .ok (.getfield 86, 3) := by decide +kernel
theorem dX4_book_59 : decode cX4_book 59 = .ok (.iload_n 2, 1) := by decide +kernel
theorem dX4_book_60 : decode cX4_book 60 = .ok (.iadd, 1) := by decide +kernel
theorem dX4_book_61 : decode cX4_book 61 = .ok (.putfield 86, 3) := by decide +kernel
theorem dX4_book_64 : decode cX4_book 64 = .ok (.goto 3, 3) := by decide +kernel
theorem dX4_book_67 : decode cX4_book 67 = .ok (.return_, 1) := by decide +kernel
theorem dX4_turnsOver_0 : decode cX4_turnsOver 0 = .ok (.iload_n 1, 1) := by decide +kernel
theorem dX4_turnsOver_1 : decode cX4_turnsOver 1 = .ok (.iconst 1, 1) := by decide +kernel
theorem dX4_turnsOver_2 : decode cX4_turnsOver 2 = .ok (.if_icmp .ge 7, 3) := by decide +kernel
theorem dX4_turnsOver_5 : decode cX4_turnsOver 5 = .ok (.iconst 0, 1) := by decide +kernel
theorem dX4_turnsOver_6 : decode cX4_turnsOver 6 = .ok (.goto 11, 3) := by decide +kernel
theorem dX4_turnsOver_9 : decode cX4_turnsOver 9 = .ok (.aload_n 0, 1) := by decide +kernel
theorem dX4_turnsOver_10 : decode cX4_turnsOver 10 = .ok (.getfield 77, 3) := by decide +kernel
theorem dX4_turnsOver_13 : decode cX4_turnsOver 13 = .ok (.iload_n 1, 1) := by decide +kernel
theorem dX4_turnsOver_14 : decode cX4_turnsOver 14 = .ok (.invokestatic 89, 3) := by decide +kernel
theorem dX4_turnsOver_17 : decode cX4_turnsOver 17 = .ok (.ireturn, 1) := by decide +kernel
theorem dX4_placeIn_0 : decode cX4_placeIn 0 = .ok (.iload_n 1, 1) := by decide +kernel
theorem dX4_placeIn_1 : decode cX4_placeIn 1 = .ok (.iconst 1, 1) := by decide +kernel
theorem dX4_placeIn_2 : decode cX4_placeIn 2 = .ok (.if_icmp .ge 7, 3) := by decide +kernel
theorem dX4_placeIn_5 : decode cX4_placeIn 5 = .ok (.iconst 0, 1) := by decide +kernel
theorem dX4_placeIn_6 : decode cX4_placeIn 6 = .ok (.goto 11, 3) := by decide +kernel
theorem dX4_placeIn_9 : decode cX4_placeIn 9 = .ok (.aload_n 0, 1) := by decide +kernel
theorem dX4_placeIn_10 : decode cX4_placeIn 10 = .ok (.getfield 77, 3) := by decide +kernel
theorem dX4_placeIn_13 : decode cX4_placeIn 13 = .ok (.iload_n 1, 1) := by decide +kernel
theorem dX4_placeIn_14 : decode cX4_placeIn 14 = .ok (.invokestatic 93, 3) := by decide +kernel
theorem dX4_placeIn_17 : decode cX4_placeIn 17 = .ok (.ireturn, 1) := by decide +kernel
theorem dX4_passMark_0 : decode cX4_passMark 0 = .ok (.aload_n 0, 1) := by decide +kernel
theorem dX4_passMark_1 : decode cX4_passMark 1 = .ok (.iload_n 1, 1) := by decide +kernel
theorem dX4_passMark_2 : decode cX4_passMark 2 = .ok (.invokevirtual 96, 3) := by decide +kernel
theorem dX4_passMark_5 : decode cX4_passMark 5 = .ok (.istore_n 2, 1) := by decide +kernel
theorem dX4_passMark_6 : decode cX4_passMark 6 = .ok (.iconst 2, 1) := by decide +kernel
theorem dX4_passMark_7 : decode cX4_passMark 7 = .ok (.iload_n 2, 1) := by decide +kernel
theorem dX4_passMark_8 : decode cX4_passMark 8 = .ok (.imul, 1) := by decide +kernel
theorem dX4_passMark_9 : decode cX4_passMark 9 = .ok (.iload_n 1, 1) := by decide +kernel
theorem dX4_passMark_10 : decode cX4_passMark 10 = .ok (.if_icmp .gt 7, 3) := by decide +kernel
theorem dX4_passMark_13 : decode cX4_passMark 13 = .ok (.iload_n 2, 1) := by decide +kernel
theorem dX4_passMark_14 : decode cX4_passMark 14 = .ok (.goto 6, 3) := by decide +kernel
