theorem dX6_init_0 : decode cX6_init 0 = .ok (.aload_n 0, 1) := by decide +kernel
theorem dX6_init_1 : decode cX6_init 1 = .ok (.invokespecial 1, 3) := by decide +kernel
theorem dX6_init_4 : decode cX6_init 4 = .ok (.aload_n 0, 1) := by decide +kernel
theorem dX6_init_5 : decode cX6_init 5 = .ok (.sipush 230, 3) := by decide +kernel
theorem dX6_init_8 : decode cX6_init 8 = .ok (.newarray .int, 2) := by decide +kernel
theorem dX6_init_10 : decode cX6_init 10 = .ok (.putfield 7, 3) := by decide +kernel
theorem dX6_init_13 : decode cX6_init 13 = .ok (.aload_n 0, 1) := by decide +kernel
theorem dX6_init_14 : decode cX6_init 14 = .ok (.sipush 920, 3) := by decide +kernel
theorem dX6_init_17 : decode cX6_init 17 = .ok (.newarray .int, 2) := by decide +kernel
theorem dX6_init_19 : decode cX6_init 19 = .ok (.putfield 13, 3) := by decide +kernel
theorem dX6_init_22 : decode cX6_init 22 = .ok (.aload_n 0, 1) := by decide +kernel
theorem dX6_init_23 : decode cX6_init 23 = .ok (.sipush 230, 3) := by decide +kernel
theorem dX6_init_26 : decode cX6_init 26 = .ok (.newarray .int, 2) := by decide +kernel
theorem dX6_init_28 : decode cX6_init 28 = .ok (.putfield 16, 3) := by decide +kernel
theorem dX6_init_31 : decode cX6_init 31 = .ok (.aload_n 0, 1) := by decide +kernel
theorem dX6_init_32 : decode cX6_init 32 = .ok (.sipush 230, 3) := by decide +kernel
theorem dX6_init_35 : decode cX6_init 35 = .ok (.newarray .int, 2) := by decide +kernel
theorem dX6_init_37 : decode cX6_init 37 = .ok (.putfield 19, 3) := by decide +kernel
theorem dX6_init_40 : decode cX6_init 40 = .ok (.aload_n 0, 1) := by decide +kernel
theorem dX6_init_41 : decode cX6_init 41 = .ok (.bipush 80, 2) := by decide +kernel
theorem dX6_init_43 : decode cX6_init 43 = .ok (.newarray .int, 2) := by decide +kernel
theorem dX6_init_45 : decode cX6_init 45 = .ok (.putfield 22, 3) := by decide +kernel
theorem dX6_init_48 : decode cX6_init 48 = .ok (.aload_n 0, 1) := by decide +kernel
theorem dX6_init_49 : decode cX6_init 49 = .ok (.getfield 7, 3) := by decide +kernel
theorem dX6_init_52 : decode cX6_init 52 = .ok (.sipush 229, 3) := by decide +kernel
theorem dX6_init_55 : decode cX6_init 55 = .ok (.bipush 24, 2) := by decide +kernel
theorem dX6_init_57 : decode cX6_init 57 = .ok (.iastore, 1) := by decide +kernel
theorem dX6_init_58 : decode cX6_init 58 = .ok (.return_, 1) := by decide +kernel
theorem dX6_thrown_0 : decode cX6_thrown 0 = .ok (.aload_n 0, 1) := by decide +kernel
theorem dX6_thrown_1 : decode cX6_thrown 1 = .ok (.getfield 25, 3) := by decide +kernel
theorem dX6_thrown_4 : decode cX6_thrown 4 = .ok (.ireturn, 1) := by decide +kernel
theorem dX6_throwing_0 : decode cX6_throwing 0 = .ok (.aload_n 0, 1) := by decide +kernel
theorem dX6_throwing_1 : decode cX6_throwing 1 = .ok (.iload_n 1, 1) := by decide +kernel
theorem dX6_throwing_2 : decode cX6_throwing 2 = .ok (.putfield 25, 3) := by decide +kernel
theorem dX6_throwing_5 : decode cX6_throwing 5 = .ok (.iconst 0, 1) := by decide +kernel
theorem dX6_throwing_6 : decode cX6_throwing 6 = .ok (.ireturn, 1) := by decide +kernel
theorem dX6_in_0 : decode cX6_in 0 = .ok (.iload_n 0, 1) := by decide +kernel
theorem dX6_in_1 : decode cX6_in 1 = .ok (.iload_n 1, 1) := by decide +kernel
theorem dX6_in_2 : decode cX6_in 2 = .ok (.if_icmp .lt 12, 3) := by decide +kernel
theorem dX6_in_5 : decode cX6_in 5 = .ok (.iload_n 0, 1) := by decide +kernel
theorem dX6_in_6 : decode cX6_in 6 = .ok (.iload_n 2, 1) := by decide +kernel
theorem dX6_in_7 : decode cX6_in 7 = .ok (.if_icmp .gt 7, 3) := by decide +kernel
theorem dX6_in_10 : decode cX6_in 10 = .ok (.iconst 1, 1) := by decide +kernel
theorem dX6_in_11 : decode cX6_in 11 = .ok (.goto 4, 3) := by decide +kernel
theorem dX6_in_14 : decode cX6_in 14 = .ok (.iconst 0, 1) := by decide +kernel
theorem dX6_in_15 : decode cX6_in 15 = .ok (.ireturn, 1) := by decide +kernel
theorem dX6_isThere_0 : decode cX6_isThere 0 = .ok (.aload_n 0, 1) := by decide +kernel
theorem dX6_isThere_1 : decode cX6_isThere 1 = .ok (.iload_n 1, 1) := by decide +kernel
theorem dX6_isThere_2 : decode cX6_isThere 2 = .ok (.iconst 0, 1) := by decide +kernel
theorem dX6_isThere_3 : decode cX6_isThere 3 = .ok (.iconst 3, 1) := by decide +kernel
theorem dX6_isThere_4 : decode cX6_isThere 4 = .ok (.invokestatic 29, 3) := by decide +kernel
theorem dX6_isThere_7 : decode cX6_isThere 7 = .ok (.ifCond .eq 7, 3) := by decide +kernel
theorem dX6_isThere_10 : decode cX6_isThere 10 = .ok (.iconst 0, 1) := by decide +kernel
theorem dX6_isThere_11 : decode cX6_isThere 11 = .ok (.goto 4, 3) := by decide +kernel
theorem dX6_isThere_14 : decode cX6_isThere 14 = .ok (.iconst 1, 1) := by decide +kernel
theorem dX6_isThere_15 : decode cX6_isThere 15 = .ok (.putfield 25, 3) := by decide +kernel
theorem dX6_isThere_18 : decode cX6_isThere 18 = .ok (.aload_n 0, 1) := by decide +kernel
theorem dX6_isThere_19 : decode cX6_isThere 19 = .ok (.getfield 25, 3) := by decide +kernel
theorem dX6_isThere_22 : decode cX6_isThere 22 = .ok (.ifCond .ne 7, 3) := by decide +kernel
theorem dX6_isThere_25 : decode cX6_isThere 25 = .ok (.iconst 1, 1) := by decide +kernel
theorem dX6_isThere_26 : decode cX6_isThere 26 = .ok (.goto 4, 3) := by decide +kernel
theorem dX6_isThere_29 : decode cX6_isThere 29 = .ok (.iconst 0, 1) := by decide +kernel
theorem dX6_isThere_30 : decode cX6_isThere 30 = .ok (.ireturn, 1) := by decide +kernel
theorem dX6_size_0 : decode cX6_size 0 = .ok (.iload_n 0, 1) := by decide +kernel
theorem dX6_size_1 : decode cX6_size 1 = .ok (.ifCond .ge 8, 3) := by decide +kernel
theorem dX6_size_4 : decode cX6_size 4 = .ok (.iload_n 0, 1) := by decide +kernel
theorem dX6_size_5 : decode cX6_size 5 = .ok (.ineg, 1) := by decide +kernel
theorem dX6_size_6 : decode cX6_size 6 = .ok (.goto 4, 3) := by decide +kernel
theorem dX6_size_9 : decode cX6_size 9 = .ok (.iload_n 0, 1) := by decide +kernel
theorem dX6_size_10 : decode cX6_size 10 = .ok (.ireturn, 1) := by decide +kernel
theorem dX6_record_0 : decode cX6_record 0 = .ok (.aload_n 0, 1) := by decide +kernel
theorem dX6_record_1 : decode cX6_record 1 = .ok (.getfield 33, 3) := by decide +kernel
theorem dX6_record_4 : decode cX6_record 4 = .ok (.iconst 4, 1) := by decide +kernel
theorem dX6_record_5 : decode cX6_record 5 = .ok (.if_icmp .ne 44, 3) := by decide +kernel
theorem dX6_record_8 : decode cX6_record 8 = .ok (.iconst 0, 1) := by decide +kernel
theorem dX6_record_9 : decode cX6_record 9 = .ok (.istore_n 1, 1) := by decide +kernel
theorem dX6_record_10 : decode cX6_record 10 = .ok (.iload_n 1, 1) := by decide +kernel
theorem dX6_record_11 : decode cX6_record 11 = .ok (.sipush 690, 3) := by decide +kernel
theorem dX6_record_14 : decode cX6_record 14 = .ok (.if_icmp .ge 25, 3) := by decide +kernel
theorem dX6_record_17 : decode cX6_record 17 = .ok (.aload_n 0, 1) := by decide +kernel
theorem dX6_record_18 : decode cX6_record 18 = .ok (.getfield 13, 3) := by decide +kernel
theorem dX6_record_21 : decode cX6_record 21 = .ok (.iload_n 1, 1) := by decide +kernel
theorem dX6_record_22 : decode cX6_record 22 = .ok (.aload_n 0, 1) := by decide +kernel
theorem dX6_record_23 : decode cX6_record 23 = .ok (.getfield 13, 3) := by decide +kernel
theorem dX6_record_26 : decode cX6_record 26 = .ok (.sipush 230, 3) := by decide +kernel
theorem dX6_record_29 : decode cX6_record 29 = .ok (.iload_n 1, 1) := by decide +kernel
theorem dX6_record_30 : decode cX6_record 30 = .ok (.iadd, 1) := by decide +kernel
theorem dX6_record_31 : decode cX6_record 31 = .ok (.iaload, 1) := by decide +kernel
theorem dX6_record_32 : decode cX6_record 32 = .ok (.iastore, 1) := by decide +kernel
theorem dX6_record_33 : decode cX6_record 33 = .ok (.iinc 1 1, 3) := by decide +kernel
theorem dX6_record_36 : decode cX6_record 36 = .ok (.goto (-26), 3) := by decide +kernel
theorem dX6_record_39 : decode cX6_record 39 = .ok (.aload_n 0, 1) := by decide +kernel
theorem dX6_record_40 : decode cX6_record 40 = .ok (.dup, 1) := by decide +kernel
theorem dX6_record_41 : decode cX6_record 41 = .ok (.getfield 33, 3) := by decide +kernel
theorem dX6_record_44 : decode cX6_record 44 = .ok (.iconst 1, 1) := by decide +kernel
theorem dX6_record_45 : decode cX6_record 45 = .ok (.isub, 1) := by decide +kernel
theorem dX6_record_46 : decode cX6_record 46 = .ok (.putfield 33, 3) := by decide +kernel
theorem dX6_record_49 : decode cX6_record 49 = .ok (.iconst 0, 1) := by decide +kernel
theorem dX6_record_50 : decode cX6_record 50 = .ok (.istore_n 1, 1) := by decide +kernel
theorem dX6_record_51 : decode cX6_record 51 = .ok (.iload_n 1, 1) := by decide +kernel
theorem dX6_record_52 : decode cX6_record 52 = .ok (.sipush 230, 3) := by decide +kernel
theorem dX6_record_55 : decode cX6_record 55 = .ok (.if_icmp .ge 30, 3) := by decide +kernel
theorem dX6_record_58 : decode cX6_record 58 = .ok (.aload_n 0, 1) := by decide +kernel
theorem dX6_record_59 : decode cX6_record 59 = .ok (.getfield 13, 3) := by decide +kernel
theorem dX6_record_62 : decode cX6_record 62 = .ok (.sipush 230, 3) := by decide +kernel
theorem dX6_record_65 : decode cX6_record 65 = .ok (.aload_n 0, 1) := by decide +kernel
theorem dX6_record_66 : decode cX6_record 66 = .ok (.getfield 33, 3) := by decide +kernel
theorem dX6_record_69 : decode cX6_record 69 = .ok (.imul, 1) := by decide +kernel
theorem dX6_record_70 : decode cX6_record 70 = .ok (.iload_n 1, 1) := by decide +kernel
theorem dX6_record_71 : decode cX6_record 71 = .ok (.iadd, 1) := by decide +kernel
theorem dX6_record_72 : decode cX6_record 72 = .ok (.aload_n 0, 1) := by decide +kernel
theorem dX6_record_73 : decode cX6_record 73 = .ok (.getfield 7, 3) := by decide +kernel
theorem dX6_record_76 : decode cX6_record 76 = .ok (.iload_n 1, 1) := by decide +kernel
theorem dX6_record_77 : decode cX6_record 77 = .ok (.iaload, 1) := by decide +kernel
theorem dX6_record_78 : decode cX6_record 78 = .ok (.iastore, 1) := by decide +kernel
theorem dX6_record_79 : decode cX6_record 79 = .ok (.iinc 1 1, 3) := by decide +kernel
theorem dX6_record_82 : decode cX6_record 82 = .ok (.goto (-31), 3) := by decide +kernel
theorem dX6_record_85 : decode cX6_record 85 = .ok (.aload_n 0, 1) := by decide +kernel
theorem dX6_record_86 : decode cX6_record 86 = .ok (.dup, 1) := by decide +kernel
theorem dX6_record_87 : decode cX6_record 87 = .ok (.getfield 33, 3) := by decide +kernel
theorem dX6_record_90 : decode cX6_record 90 = .ok (.iconst 1, 1) := by decide +kernel
theorem dX6_record_91 : decode cX6_record 91 = .ok (.iadd, 1) := by decide +kernel
theorem dX6_record_92 : decode cX6_record 92 = .ok (.putfield 33, 3) := by decide +kernel
theorem dX6_record_95 : decode cX6_record 95 = .ok (.return_, 1) := by decide +kernel
theorem dX6_of_0 : decode cX6_of 0 = .ok (.aload_n 0, 1) := by decide +kernel
theorem dX6_of_1 : decode cX6_of 1 = .ok (.getfield 7, 3) := by decide +kernel
theorem dX6_of_4 : decode cX6_of 4 = .ok (.bipush 57, 2) := by decide +kernel
theorem dX6_of_6 : decode cX6_of 6 = .ok (.iload_n 1, 1) := by decide +kernel
theorem dX6_of_7 : decode cX6_of 7 = .ok (.imul, 1) := by decide +kernel
theorem dX6_of_8 : decode cX6_of 8 = .ok (.iload_n 2, 1) := by decide +kernel
theorem dX6_of_9 : decode cX6_of 9 = .ok (.iadd, 1) := by decide +kernel
theorem dX6_of_10 : decode cX6_of 10 = .ok (.iaload, 1) := by decide +kernel
theorem dX6_of_11 : decode cX6_of 11 = .ok (.ireturn, 1) := by decide +kernel
theorem dX6_lay_0 : decode cX6_lay 0 = .ok (.aload_n 0, 1) := by decide +kernel
theorem dX6_lay_1 : decode cX6_lay 1 = .ok (.getfield 7, 3) := by decide +kernel
theorem dX6_lay_4 : decode cX6_lay 4 = .ok (.bipush 57, 2) := by decide +kernel
theorem dX6_lay_6 : decode cX6_lay 6 = .ok (.iload_n 1, 1) := by decide +kernel
theorem dX6_lay_7 : decode cX6_lay 7 = .ok (.imul, 1) := by decide +kernel
theorem dX6_lay_8 : decode cX6_lay 8 = .ok (.iload_n 2, 1) := by decide +kernel
theorem dX6_lay_9 : decode cX6_lay 9 = .ok (.iadd, 1) := by decide +kernel
theorem dX6_lay_10 : decode cX6_lay 10 = .ok (.iload_n 3, 1) := by decide +kernel
theorem dX6_lay_11 : decode cX6_lay 11 = .ok (.iastore, 1) := by decide +kernel
theorem dX6_lay_12 : decode cX6_lay 12 = .ok (.return_, 1) := by decide +kernel
theorem dX6_grow_0 : decode cX6_grow 0 = .ok (.aload_n 0, 1) := by decide +kernel
theorem dX6_grow_1 : decode cX6_grow 1 = .ok (.getfield 7, 3) := by decide +kernel
theorem dX6_grow_4 : decode cX6_grow 4 = .ok (.bipush 57, 2) := by decide +kernel
theorem dX6_grow_6 : decode cX6_grow 6 = .ok (.iload_n 1, 1) := by decide +kernel
theorem dX6_grow_7 : decode cX6_grow 7 = .ok (.imul, 1) := by decide +kernel
theorem dX6_grow_8 : decode cX6_grow 8 = .ok (.iload_n 2, 1) := by decide +kernel
theorem dX6_grow_9 : decode cX6_grow 9 = .ok (.iadd, 1) := by decide +kernel
theorem dX6_grow_10 : decode cX6_grow 10 = .ok (.dup2, 1) := by decide +kernel
theorem dX6_grow_11 : decode cX6_grow 11 = .ok (.iaload, 1) := by decide +kernel
theorem dX6_grow_12 : decode cX6_grow 12 = .ok (.iload_n 3, 1) := by decide +kernel
theorem dX6_grow_13 : decode cX6_grow 13 = .ok (.iadd, 1) := by decide +kernel
theorem dX6_grow_14 : decode cX6_grow 14 = .ok (.iastore, 1) := by decide +kernel
theorem dX6_grow_15 : decode cX6_grow 15 = .ok (.return_, 1) := by decide +kernel
theorem dX6_order_0 : decode cX6_order 0 = .ok (.iload_n 0, 1) := by decide +kernel
theorem dX6_order_1 : decode cX6_order 1 = .ok (.iconst 3, 1) := by decide +kernel
theorem dX6_order_2 : decode cX6_order 2 = .ok (.if_icmp .ne 7, 3) := by decide +kernel
theorem dX6_order_5 : decode cX6_order 5 = .ok (.iconst 2, 1) := by decide +kernel
theorem dX6_order_6 : decode cX6_order 6 = .ok (.goto 13, 3) := by decide +kernel
theorem dX6_order_9 : decode cX6_order 9 = .ok (.iload_n 0, 1) := by decide +kernel
theorem dX6_order_10 : decode cX6_order 10 = .ok (.iconst 2, 1) := by decide +kernel
theorem dX6_order_11 : decode cX6_order 11 = .ok (.if_icmp .ne 7, 3) := by decide +kernel
theorem dX6_order_14 : decode cX6_order 14 = .ok (.iconst 3, 1) := by decide +kernel
theorem dX6_order_15 : decode cX6_order 15 = .ok (.goto 4, 3) := by decide +kernel
theorem dX6_order_18 : decode cX6_order 18 = .ok (.iload_n 0, 1) := by decide +kernel
theorem dX6_order_19 : decode cX6_order 19 = .ok (.ireturn, 1) := by decide +kernel
theorem dX6_state_0 : decode cX6_state 0 = .ok (.iload_n 0, 1) := by decide +kernel
theorem dX6_state_1 : decode cX6_state 1 = .ok (.iconst 3, 1) := by decide +kernel
theorem dX6_state_2 : decode cX6_state 2 = .ok (.iand, 1) := by decide +kernel
theorem dX6_state_3 : decode cX6_state 3 = .ok (.invokestatic 36, 3) := by decide +kernel
theorem dX6_state_6 : decode cX6_state 6 = .ok (.ireturn, 1) := by decide +kernel
theorem dX6_onward_0 : decode cX6_onward 0 = .ok (.iload_n 1, 1) := by decide +kernel
theorem dX6_onward_1 : decode cX6_onward 1 = .ok (.invokestatic 36, 3) := by decide +kernel
theorem dX6_onward_4 : decode cX6_onward 4 = .ok (.iload_n 0, 1) := by decide +kernel
theorem dX6_onward_5 : decode cX6_onward 5 = .ok (.invokestatic 36, 3) := by decide +kernel
theorem dX6_onward_8 : decode cX6_onward 8 = .ok (.isub, 1) := by decide +kernel
theorem dX6_onward_9 : decode cX6_onward 9 = .ok (.iconst 4, 1) := by decide +kernel
theorem dX6_onward_10 : decode cX6_onward 10 = .ok (.iadd, 1) := by decide +kernel
theorem dX6_onward_11 : decode cX6_onward 11 = .ok (.iconst 3, 1) := by decide +kernel
theorem dX6_onward_12 : decode cX6_onward 12 = .ok (.iand, 1) := by decide +kernel
theorem dX6_onward_13 : decode cX6_onward 13 = .ok (.ireturn, 1) := by decide +kernel
theorem dX6_stepOf_0 : decode cX6_stepOf 0 = .ok (.aload_n 0, 1) := by decide +kernel
theorem dX6_stepOf_1 : decode cX6_stepOf 1 = .ok (.iload_n 1, 1) := by decide +kernel
theorem dX6_stepOf_2 : decode cX6_stepOf 2 = .ok (.iconst 0, 1) := by decide +kernel
theorem dX6_stepOf_3 : decode cX6_stepOf 3 = .ok (.invokevirtual 40, 3) := by decide +kernel
theorem dX6_stepOf_6 : decode cX6_stepOf 6 = .ok (.iload_n 2, 1) := by decide +kernel
theorem dX6_stepOf_7 : decode cX6_stepOf 7 = .ok (.invokestatic 44, 3) := by decide +kernel
theorem dX6_stepOf_10 : decode cX6_stepOf 10 = .ok (.istore_n 3, 1) := by decide +kernel
theorem dX6_stepOf_11 : decode cX6_stepOf 11 = .ok (.iload_n 3, 1) := by decide +kernel
theorem dX6_stepOf_12 : decode cX6_stepOf 12 = .ok (.iconst 2, 1) := by decide +kernel
theorem dX6_stepOf_13 : decode cX6_stepOf 13 = .ok (.if_icmp .ne 29, 3) := by decide +kernel
theorem dX6_stepOf_16 : decode cX6_stepOf 16 = .ok (.aload_n 0, 1) := by decide +kernel
theorem dX6_stepOf_17 : decode cX6_stepOf 17 = .ok (.getfield 7, 3) := by decide +kernel
theorem dX6_stepOf_20 : decode cX6_stepOf 20 = .ok (.sipush 228, 3) := by decide +kernel
theorem dX6_stepOf_23 : decode cX6_stepOf 23 = .ok (.iaload, 1) := by decide +kernel
theorem dX6_stepOf_24 : decode cX6_stepOf 24 = .ok (.ifCond .ne 7, 3) := by decide +kernel
theorem dX6_stepOf_27 : decode cX6_stepOf 27 = .ok (.iconst 0, 1) := by decide +kernel
theorem dX6_stepOf_28 : decode cX6_stepOf 28 = .ok (.goto 24, 3) := by decide +kernel
theorem dX6_stepOf_31 : decode cX6_stepOf 31 = .ok (.iconst 2, 1) := by decide +kernel
theorem dX6_stepOf_32 : decode cX6_stepOf 32 = .ok (.aload_n 0, 1) := by decide +kernel
theorem dX6_stepOf_33 : decode cX6_stepOf 33 = .ok (.iload_n 1, 1) := by decide +kernel
theorem dX6_stepOf_34 : decode cX6_stepOf 34 = .ok (.iconst 2, 1) := by decide +kernel
theorem dX6_stepOf_35 : decode cX6_stepOf 35 = .ok (.invokevirtual 40, 3) := by decide +kernel
theorem dX6_stepOf_38 : decode cX6_stepOf 38 = .ok (.imul, 1) := by decide +kernel
theorem dX6_stepOf_39 : decode cX6_stepOf 39 = .ok (.goto 13, 3) := by decide +kernel
theorem dX6_stepOf_42 : decode cX6_stepOf 42 = .ok (.iload_n 3, 1) := by decide +kernel
theorem dX6_stepOf_43 : decode cX6_stepOf 43 = .ok (.iconst 3, 1) := by decide +kernel
theorem dX6_stepOf_44 : decode cX6_stepOf 44 = .ok (.if_icmp .ne 7, 3) := by decide +kernel
theorem dX6_stepOf_47 : decode cX6_stepOf 47 = .ok (.iconst (-1), 1) := by decide +kernel
theorem dX6_stepOf_48 : decode cX6_stepOf 48 = .ok (.goto 4, 3) := by decide +kernel
theorem dX6_stepOf_51 : decode cX6_stepOf 51 = .ok (.iload_n 3, 1) := by decide +kernel
theorem dX6_stepOf_52 : decode cX6_stepOf 52 = .ok (.ireturn, 1) := by decide +kernel
theorem dX6_isA_0 : decode cX6_isA 0 = .ok (.iload_n 0, 1) := by decide +kernel
theorem dX6_isA_1 : decode cX6_isA 1 = .ok (.iload_n 1, 1) := by decide +kernel
theorem dX6_isA_2 : decode cX6_isA 2 = .ok (.ixor, 1) := by decide +kernel
theorem dX6_isA_3 : decode cX6_isA 3 = .ok (.iconst 2, 1) := by decide +kernel
theorem dX6_isA_4 : decode cX6_isA 4 = .ok (.if_icmp .ne 7, 3) := by decide +kernel
theorem dX6_isA_7 : decode cX6_isA 7 = .ok (.iconst 1, 1) := by decide +kernel
theorem dX6_isA_8 : decode cX6_isA 8 = .ok (.goto 4, 3) := by decide +kernel
theorem dX6_isA_11 : decode cX6_isA 11 = .ok (.iconst 0, 1) := by decide +kernel
theorem dX6_isA_12 : decode cX6_isA 12 = .ok (.ireturn, 1) := by decide +kernel
theorem dX6_canFeel_0 : decode cX6_canFeel 0 = .ok (.aload_n 0, 1) := by decide +kernel
theorem dX6_canFeel_1 : decode cX6_canFeel 1 = .ok (.iload_n 1, 1) := by decide +kernel
theorem dX6_canFeel_2 : decode cX6_canFeel 2 = .ok (.bipush 6, 2) := by decide +kernel
theorem dX6_canFeel_4 : decode cX6_canFeel 4 = .ok (.invokevirtual 40, 3) := by decide +kernel
theorem dX6_canFeel_7 : decode cX6_canFeel 7 = .ok (.iload_n 3, 1) := by decide +kernel
theorem dX6_canFeel_8 : decode cX6_canFeel 8 = .ok (.iadd, 1) := by decide +kernel
theorem dX6_canFeel_9 : decode cX6_canFeel 9 = .ok (.ldc 47, 2) := by decide +kernel
theorem dX6_canFeel_11 : decode cX6_canFeel 11 = .ok (.if_icmp .gt 28, 3) := by decide +kernel
theorem dX6_canFeel_14 : decode cX6_canFeel 14 = .ok (.aload_n 0, 1) := by decide +kernel
theorem dX6_canFeel_15 : decode cX6_canFeel 15 = .ok (.iload_n 1, 1) := by decide +kernel
theorem dX6_canFeel_16 : decode cX6_canFeel 16 = .ok (.iconst 5, 1) := by decide +kernel
theorem dX6_canFeel_17 : decode cX6_canFeel 17 = .ok (.invokevirtual 40, 3) := by decide +kernel
theorem dX6_canFeel_20 : decode cX6_canFeel 20 = .ok (.aload_n 0, 1) := by decide +kernel
theorem dX6_canFeel_21 : decode cX6_canFeel 21 = .ok (.iload_n 1, 1) := by decide +kernel
theorem dX6_canFeel_22 : decode cX6_canFeel 22 = .ok (.iload_n 2, 1) := by decide +kernel
theorem dX6_canFeel_23 : decode cX6_canFeel 23 = .ok (.invokevirtual 48, 3) := by decide +kernel
theorem dX6_canFeel_26 : decode cX6_canFeel 26 = .ok (.invokestatic 51, 3) := by decide +kernel
theorem dX6_canFeel_29 : decode cX6_canFeel 29 = .ok (.iadd, 1) := by decide +kernel
theorem dX6_canFeel_30 : decode cX6_canFeel 30 = .ok (.ldc 47, 2) := by decide +kernel
theorem dX6_canFeel_32 : decode cX6_canFeel 32 = .ok (.if_icmp .gt 7, 3) := by decide +kernel
theorem dX6_canFeel_35 : decode cX6_canFeel 35 = .ok (.iconst 1, 1) := by decide +kernel
theorem dX6_canFeel_36 : decode cX6_canFeel 36 = .ok (.goto 4, 3) := by decide +kernel
theorem dX6_canFeel_39 : decode cX6_canFeel 39 = .ok (.iconst 0, 1) := by decide +kernel
theorem dX6_canFeel_40 : decode cX6_canFeel 40 = .ok (.ireturn, 1) := by decide +kernel
theorem dX6_turns_0 : decode cX6_turns 0 = .ok (.aload_n 0, 1) := by decide +kernel
theorem dX6_turns_1 : decode cX6_turns 1 = .ok (.iload_n 1, 1) := by decide +kernel
theorem dX6_turns_2 : decode cX6_turns 2 = .ok (.iconst 2, 1) := by decide +kernel
theorem dX6_turns_3 : decode cX6_turns 3 = .ok (.iload_n 2, 1) := by decide +kernel
theorem dX6_turns_4 : decode cX6_turns 4 = .ok (.ifCond .le 7, 3) := by decide +kernel
theorem dX6_turns_7 : decode cX6_turns 7 = .ok (.iconst 1, 1) := by decide +kernel
theorem dX6_turns_8 : decode cX6_turns 8 = .ok (.goto 17, 3) := by decide +kernel
theorem dX6_turns_11 : decode cX6_turns 11 = .ok (.iload_n 2, 1) := by decide +kernel
theorem dX6_turns_12 : decode cX6_turns 12 = .ok (.ifCond .ge 7, 3) := by decide +kernel
theorem dX6_turns_15 : decode cX6_turns 15 = .ok (.iconst (-1), 1) := by decide +kernel
theorem dX6_turns_16 : decode cX6_turns 16 = .ok (.goto 9, 3) := by decide +kernel
theorem dX6_turns_19 : decode cX6_turns 19 = .ok (.aload_n 0, 1) := by decide +kernel
theorem dX6_turns_20 : decode cX6_turns 20 = .ok (.iload_n 1, 1) := by decide +kernel
theorem dX6_turns_21 : decode cX6_turns 21 = .ok (.iconst 2, 1) := by decide +kernel
theorem dX6_turns_22 : decode cX6_turns 22 = .ok (.invokevirtual 40, 3) := by decide +kernel
theorem dX6_turns_25 : decode cX6_turns 25 = .ok (.invokevirtual 54, 3) := by decide +kernel
theorem dX6_turns_28 : decode cX6_turns 28 = .ok (.return_, 1) := by decide +kernel
theorem dX6_feels_0 : decode cX6_feels 0 = .ok (.aload_n 0, 1) := by decide +kernel
theorem dX6_feels_1 : decode cX6_feels 1 = .ok (.iload_n 1, 1) := by decide +kernel
theorem dX6_feels_2 : decode cX6_feels 2 = .ok (.iconst 0, 1) := by decide +kernel
theorem dX6_feels_3 : decode cX6_feels 3 = .ok (.invokevirtual 40, 3) := by decide +kernel
theorem dX6_feels_6 : decode cX6_feels 6 = .ok (.istore 4, 2) := by decide +kernel
theorem dX6_feels_8 : decode cX6_feels 8 = .ok (.aload_n 0, 1) := by decide +kernel
theorem dX6_feels_9 : decode cX6_feels 9 = .ok (.iload_n 1, 1) := by decide +kernel
theorem dX6_feels_10 : decode cX6_feels 10 = .ok (.iload_n 2, 1) := by decide +kernel
theorem dX6_feels_11 : decode cX6_feels 11 = .ok (.invokevirtual 48, 3) := by decide +kernel
theorem dX6_feels_14 : decode cX6_feels 14 = .ok (.istore 5, 2) := by decide +kernel
theorem dX6_feels_16 : decode cX6_feels 16 = .ok (.aload_n 0, 1) := by decide +kernel
theorem dX6_feels_17 : decode cX6_feels 17 = .ok (.iload_n 1, 1) := by decide +kernel
theorem dX6_feels_18 : decode cX6_feels 18 = .ok (.bipush 8, 2) := by decide +kernel
theorem dX6_feels_20 : decode cX6_feels 20 = .ok (.invokevirtual 40, 3) := by decide +kernel
theorem dX6_feels_23 : decode cX6_feels 23 = .ok (.bipush 16, 2) := by decide +kernel
theorem dX6_feels_25 : decode cX6_feels 25 = .ok (.if_icmp .ne 57, 3) := by decide +kernel
theorem dX6_feels_28 : decode cX6_feels 28 = .ok (.bipush 57, 2) := by decide +kernel
theorem dX6_feels_30 : decode cX6_feels 30 = .ok (.iload_n 1, 1) := by decide +kernel
theorem dX6_feels_31 : decode cX6_feels 31 = .ok (.imul, 1) := by decide +kernel
theorem dX6_feels_32 : decode cX6_feels 32 = .ok (.bipush 9, 2) := by decide +kernel
theorem dX6_feels_34 : decode cX6_feels 34 = .ok (.iadd, 1) := by decide +kernel
theorem dX6_feels_35 : decode cX6_feels 35 = .ok (.istore 6, 2) := by decide +kernel
theorem dX6_feels_37 : decode cX6_feels 37 = .ok (.iload 6, 2) := by decide +kernel
theorem dX6_feels_39 : decode cX6_feels 39 = .ok (.bipush 57, 2) := by decide +kernel
theorem dX6_feels_41 : decode cX6_feels 41 = .ok (.iload_n 1, 1) := by decide +kernel
theorem dX6_feels_42 : decode cX6_feels 42 = .ok (.imul, 1) := by decide +kernel
theorem dX6_feels_43 : decode cX6_feels 43 = .ok (.bipush 9, 2) := by decide +kernel
theorem dX6_feels_45 : decode cX6_feels 45 = .ok (.iadd, 1) := by decide +kernel
theorem dX6_feels_46 : decode cX6_feels 46 = .ok (.bipush 45, 2) := by decide +kernel
theorem dX6_feels_48 : decode cX6_feels 48 = .ok (.iadd, 1) := by decide +kernel
theorem dX6_feels_49 : decode cX6_feels 49 = .ok (.if_icmp .ge 25, 3) := by decide +kernel
theorem dX6_feels_52 : decode cX6_feels 52 = .ok (.aload_n 0, 1) := by decide +kernel
theorem dX6_feels_53 : decode cX6_feels 53 = .ok (.getfield 7, 3) := by decide +kernel
theorem dX6_feels_56 : decode cX6_feels 56 = .ok (.iload 6, 2) := by decide +kernel
theorem dX6_feels_58 : decode cX6_feels 58 = .ok (.aload_n 0, 1) := by decide +kernel
theorem dX6_feels_59 : decode cX6_feels 59 = .ok (.getfield 7, 3) := by decide +kernel
theorem dX6_feels_62 : decode cX6_feels 62 = .ok (.iload 6, 2) := by decide +kernel
theorem dX6_feels_64 : decode cX6_feels 64 = .ok (.iconst 3, 1) := by decide +kernel
theorem dX6_feels_65 : decode cX6_feels 65 = .ok (.iadd, 1) := by decide +kernel
theorem dX6_feels_66 : decode cX6_feels 66 = .ok (.iaload, 1) := by decide +kernel
theorem dX6_feels_67 : decode cX6_feels 67 = .ok (.iastore, 1) := by decide +kernel
theorem dX6_feels_68 : decode cX6_feels 68 = .ok (.iinc 6 1, 3) := by decide +kernel
theorem dX6_feels_71 : decode cX6_feels 71 = .ok (.goto (-34), 3) := by decide +kernel
theorem dX6_feels_74 : decode cX6_feels 74 = .ok (.aload_n 0, 1) := by decide +kernel
theorem dX6_feels_75 : decode cX6_feels 75 = .ok (.iload_n 1, 1) := by decide +kernel
theorem dX6_feels_76 : decode cX6_feels 76 = .ok (.bipush 8, 2) := by decide +kernel
theorem dX6_feels_78 : decode cX6_feels 78 = .ok (.iconst (-1), 1) := by decide +kernel
theorem dX6_feels_79 : decode cX6_feels 79 = .ok (.invokevirtual 58, 3) := by decide +kernel
theorem dX6_feels_82 : decode cX6_feels 82 = .ok (.bipush 9, 2) := by decide +kernel
theorem dX6_feels_84 : decode cX6_feels 84 = .ok (.iconst 3, 1) := by decide +kernel
theorem dX6_feels_85 : decode cX6_feels 85 = .ok (.aload_n 0, 1) := by decide +kernel
theorem dX6_feels_86 : decode cX6_feels 86 = .ok (.iload_n 1, 1) := by decide +kernel
theorem dX6_feels_87 : decode cX6_feels 87 = .ok (.bipush 8, 2) := by decide +kernel
theorem dX6_feels_89 : decode cX6_feels 89 = .ok (.invokevirtual 40, 3) := by decide +kernel
theorem dX6_feels_92 : decode cX6_feels 92 = .ok (.imul, 1) := by decide +kernel
theorem dX6_feels_93 : decode cX6_feels 93 = .ok (.iadd, 1) := by decide +kernel
theorem dX6_feels_94 : decode cX6_feels 94 = .ok (.istore 6, 2) := by decide +kernel
theorem dX6_feels_96 : decode cX6_feels 96 = .ok (.aload_n 0, 1) := by decide +kernel
theorem dX6_feels_97 : decode cX6_feels 97 = .ok (.iload_n 1, 1) := by decide +kernel
theorem dX6_feels_98 : decode cX6_feels 98 = .ok (.iload 6, 2) := by decide +kernel
theorem dX6_feels_100 : decode cX6_feels 100 = .ok (.iload 5, 2) := by decide +kernel
theorem dX6_feels_102 : decode cX6_feels 102 = .ok (.invokevirtual 54, 3) := by decide +kernel
theorem dX6_feels_105 : decode cX6_feels 105 = .ok (.aload_n 0, 1) := by decide +kernel
theorem dX6_feels_106 : decode cX6_feels 106 = .ok (.iload_n 1, 1) := by decide +kernel
theorem dX6_feels_107 : decode cX6_feels 107 = .ok (.iload 6, 2) := by decide +kernel
theorem dX6_feels_109 : decode cX6_feels 109 = .ok (.iconst 1, 1) := by decide +kernel
theorem dX6_feels_110 : decode cX6_feels 110 = .ok (.iadd, 1) := by decide +kernel
theorem dX6_feels_111 : decode cX6_feels 111 = .ok (.iload_n 3, 1) := by decide +kernel
theorem dX6_feels_112 : decode cX6_feels 112 = .ok (.invokevirtual 54, 3) := by decide +kernel
theorem dX6_feels_115 : decode cX6_feels 115 = .ok (.aload_n 0, 1) := by decide +kernel
theorem dX6_feels_116 : decode cX6_feels 116 = .ok (.iload_n 1, 1) := by decide +kernel
theorem dX6_feels_117 : decode cX6_feels 117 = .ok (.iload 6, 2) := by decide +kernel
theorem dX6_feels_119 : decode cX6_feels 119 = .ok (.iconst 2, 1) := by decide +kernel
theorem dX6_feels_120 : decode cX6_feels 120 = .ok (.iadd, 1) := by decide +kernel
theorem dX6_feels_121 : decode cX6_feels 121 = .ok (.iload 4, 2) := by decide +kernel
theorem dX6_feels_123 : decode cX6_feels 123 = .ok (.invokevirtual 54, 3) := by decide +kernel
theorem dX6_feels_126 : decode cX6_feels 126 = .ok (.aload_n 0, 1) := by decide +kernel
theorem dX6_feels_127 : decode cX6_feels 127 = .ok (.iload_n 1, 1) := by decide +kernel
theorem dX6_feels_128 : decode cX6_feels 128 = .ok (.bipush 8, 2) := by decide +kernel
theorem dX6_feels_130 : decode cX6_feels 130 = .ok (.iconst 1, 1) := by decide +kernel
theorem dX6_feels_131 : decode cX6_feels 131 = .ok (.invokevirtual 58, 3) := by decide +kernel
theorem dX6_feels_134 : decode cX6_feels 134 = .ok (.aload_n 0, 1) := by decide +kernel
theorem dX6_feels_135 : decode cX6_feels 135 = .ok (.iload_n 1, 1) := by decide +kernel
theorem dX6_feels_136 : decode cX6_feels 136 = .ok (.iconst 0, 1) := by decide +kernel
theorem dX6_feels_137 : decode cX6_feels 137 = .ok (.iload_n 2, 1) := by decide +kernel
theorem dX6_feels_138 : decode cX6_feels 138 = .ok (.invokevirtual 54, 3) := by decide +kernel
theorem dX6_feels_141 : decode cX6_feels 141 = .ok (.aload_n 0, 1) := by decide +kernel
theorem dX6_feels_142 : decode cX6_feels 142 = .ok (.iload_n 1, 1) := by decide +kernel
theorem dX6_feels_143 : decode cX6_feels 143 = .ok (.iconst 1, 1) := by decide +kernel
theorem dX6_feels_144 : decode cX6_feels 144 = .ok (.iload 5, 2) := by decide +kernel
theorem dX6_feels_146 : decode cX6_feels 146 = .ok (.invokevirtual 58, 3) := by decide +kernel
theorem dX6_feels_149 : decode cX6_feels 149 = .ok (.aload_n 0, 1) := by decide +kernel
theorem dX6_feels_150 : decode cX6_feels 150 = .ok (.iload_n 1, 1) := by decide +kernel
theorem dX6_feels_151 : decode cX6_feels 151 = .ok (.iconst 3, 1) := by decide +kernel
theorem dX6_feels_152 : decode cX6_feels 152 = .ok (.iload 4, 2) := by decide +kernel
theorem dX6_feels_154 : decode cX6_feels 154 = .ok (.iload_n 2, 1) := by decide +kernel
theorem dX6_feels_155 : decode cX6_feels 155 = .ok (.invokestatic 44, 3) := by decide +kernel
theorem dX6_feels_158 : decode cX6_feels 158 = .ok (.iconst 2, 1) := by decide +kernel
theorem dX6_feels_159 : decode cX6_feels 159 = .ok (.if_icmp .ne 7, 3) := by decide +kernel
theorem dX6_feels_162 : decode cX6_feels 162 = .ok (.iconst 1, 1) := by decide +kernel
theorem dX6_feels_163 : decode cX6_feels 163 = .ok (.goto 4, 3) := by decide +kernel
theorem dX6_feels_166 : decode cX6_feels 166 = .ok (.iconst 0, 1) := by decide +kernel
theorem dX6_feels_167 : decode cX6_feels 167 = .ok (.invokevirtual 58, 3) := by decide +kernel
theorem dX6_feels_170 : decode cX6_feels 170 = .ok (.aload_n 0, 1) := by decide +kernel
theorem dX6_feels_171 : decode cX6_feels 171 = .ok (.iload_n 1, 1) := by decide +kernel
theorem dX6_feels_172 : decode cX6_feels 172 = .ok (.bipush 7, 2) := by decide +kernel
theorem dX6_feels_174 : decode cX6_feels 174 = .ok (.iload 4, 2) := by decide +kernel
theorem dX6_feels_176 : decode cX6_feels 176 = .ok (.iload_n 2, 1) := by decide +kernel
theorem dX6_feels_177 : decode cX6_feels 177 = .ok (.invokestatic 61, 3) := by decide +kernel
theorem dX6_feels_180 : decode cX6_feels 180 = .ok (.ifCond .eq 8, 3) := by decide +kernel
theorem dX6_feels_183 : decode cX6_feels 183 = .ok (.iload 5, 2) := by decide +kernel
theorem dX6_feels_185 : decode cX6_feels 185 = .ok (.goto 4, 3) := by decide +kernel
theorem dX6_feels_188 : decode cX6_feels 188 = .ok (.iconst 0, 1) := by decide +kernel
theorem dX6_feels_189 : decode cX6_feels 189 = .ok (.invokevirtual 58, 3) := by decide +kernel
theorem dX6_feels_192 : decode cX6_feels 192 = .ok (.aload_n 0, 1) := by decide +kernel
theorem dX6_feels_193 : decode cX6_feels 193 = .ok (.iload_n 1, 1) := by decide +kernel
theorem dX6_feels_194 : decode cX6_feels 194 = .ok (.iconst 5, 1) := by decide +kernel
theorem dX6_feels_195 : decode cX6_feels 195 = .ok (.iload 5, 2) := by decide +kernel
theorem dX6_feels_197 : decode cX6_feels 197 = .ok (.invokestatic 51, 3) := by decide +kernel
theorem dX6_feels_200 : decode cX6_feels 200 = .ok (.invokevirtual 58, 3) := by decide +kernel
theorem dX6_feels_203 : decode cX6_feels 203 = .ok (.aload_n 0, 1) := by decide +kernel
theorem dX6_feels_204 : decode cX6_feels 204 = .ok (.iload_n 1, 1) := by decide +kernel
theorem dX6_feels_205 : decode cX6_feels 205 = .ok (.bipush 6, 2) := by decide +kernel
theorem dX6_feels_207 : decode cX6_feels 207 = .ok (.iload_n 3, 1) := by decide +kernel
theorem dX6_feels_208 : decode cX6_feels 208 = .ok (.invokevirtual 58, 3) := by decide +kernel
theorem dX6_feels_211 : decode cX6_feels 211 = .ok (.aload_n 0, 1) := by decide +kernel
theorem dX6_feels_212 : decode cX6_feels 212 = .ok (.iload_n 1, 1) := by decide +kernel
theorem dX6_feels_213 : decode cX6_feels 213 = .ok (.iload 5, 2) := by decide +kernel
theorem dX6_feels_215 : decode cX6_feels 215 = .ok (.invokevirtual 65, 3) := by decide +kernel
theorem dX6_feels_218 : decode cX6_feels 218 = .ok (.iload 5, 2) := by decide +kernel
theorem dX6_feels_220 : decode cX6_feels 220 = .ok (.ireturn, 1) := by decide +kernel
theorem dX6_ahead_0 : decode cX6_ahead 0 = .ok (.iload_n 0, 1) := by decide +kernel
theorem dX6_ahead_1 : decode cX6_ahead 1 = .ok (.invokestatic 36, 3) := by decide +kernel
theorem dX6_ahead_4 : decode cX6_ahead 4 = .ok (.iconst 4, 1) := by decide +kernel
theorem dX6_ahead_5 : decode cX6_ahead 5 = .ok (.iadd, 1) := by decide +kernel
theorem dX6_ahead_6 : decode cX6_ahead 6 = .ok (.iload_n 1, 1) := by decide +kernel
theorem dX6_ahead_7 : decode cX6_ahead 7 = .ok (.iadd, 1) := by decide +kernel
theorem dX6_ahead_8 : decode cX6_ahead 8 = .ok (.invokestatic 69, 3) := by decide +kernel
theorem dX6_ahead_11 : decode cX6_ahead 11 = .ok (.ireturn, 1) := by decide +kernel
theorem dX6_meets_0 : decode cX6_meets 0 = .ok (.aload_n 0, 1) := by decide +kernel
theorem dX6_meets_1 : decode cX6_meets 1 = .ok (.iload_n 1, 1) := by decide +kernel
theorem dX6_meets_2 : decode cX6_meets 2 = .ok (.invokevirtual 72, 3) := by decide +kernel
theorem dX6_meets_5 : decode cX6_meets 5 = .ok (.istore_n 2, 1) := by decide +kernel
theorem dX6_meets_6 : decode cX6_meets 6 = .ok (.iconst 2, 1) := by decide +kernel
theorem dX6_meets_7 : decode cX6_meets 7 = .ok (.iload_n 2, 1) := by decide +kernel
theorem dX6_meets_8 : decode cX6_meets 8 = .ok (.imul, 1) := by decide +kernel
theorem dX6_meets_9 : decode cX6_meets 9 = .ok (.aload_n 0, 1) := by decide +kernel
theorem dX6_meets_10 : decode cX6_meets 10 = .ok (.getfield 7, 3) := by decide +kernel
theorem dX6_meets_13 : decode cX6_meets 13 = .ok (.sipush 229, 3) := by decide +kernel
theorem dX6_meets_16 : decode cX6_meets 16 = .ok (.iaload, 1) := by decide +kernel
theorem dX6_meets_17 : decode cX6_meets 17 = .ok (.if_icmp .gt 7, 3) := by decide +kernel
theorem dX6_meets_20 : decode cX6_meets 20 = .ok (.iload_n 2, 1) := by decide +kernel
theorem dX6_meets_21 : decode cX6_meets 21 = .ok (.goto 13, 3) := by decide +kernel
theorem dX6_meets_24 : decode cX6_meets 24 = .ok (.iload_n 2, 1) := by decide +kernel
theorem dX6_meets_25 : decode cX6_meets 25 = .ok (.aload_n 0, 1) := by decide +kernel
theorem dX6_meets_26 : decode cX6_meets 26 = .ok (.getfield 7, 3) := by decide +kernel
theorem dX6_meets_29 : decode cX6_meets 29 = .ok (.sipush 229, 3) := by decide +kernel
theorem dX6_meets_32 : decode cX6_meets 32 = .ok (.iaload, 1) := by decide +kernel
theorem dX6_meets_33 : decode cX6_meets 33 = .ok (.isub, 1) := by decide +kernel
theorem dX6_meets_34 : decode cX6_meets 34 = .ok (.istore_n 3, 1) := by decide +kernel
theorem dX6_meets_35 : decode cX6_meets 35 = .ok (.aload_n 0, 1) := by decide +kernel
theorem dX6_meets_36 : decode cX6_meets 36 = .ok (.iload_n 1, 1) := by decide +kernel
theorem dX6_meets_37 : decode cX6_meets 37 = .ok (.iconst 1, 1) := by decide +kernel
theorem dX6_meets_38 : decode cX6_meets 38 = .ok (.iload_n 3, 1) := by decide +kernel
theorem dX6_meets_39 : decode cX6_meets 39 = .ok (.ineg, 1) := by decide +kernel
theorem dX6_meets_40 : decode cX6_meets 40 = .ok (.invokevirtual 58, 3) := by decide +kernel
theorem dX6_meets_43 : decode cX6_meets 43 = .ok (.aload_n 0, 1) := by decide +kernel
theorem dX6_meets_44 : decode cX6_meets 44 = .ok (.iload_n 1, 1) := by decide +kernel
theorem dX6_meets_45 : decode cX6_meets 45 = .ok (.iconst 4, 1) := by decide +kernel
theorem dX6_meets_46 : decode cX6_meets 46 = .ok (.iload_n 3, 1) := by decide +kernel
theorem dX6_meets_47 : decode cX6_meets 47 = .ok (.invokestatic 51, 3) := by decide +kernel
theorem dX6_meets_50 : decode cX6_meets 50 = .ok (.invokevirtual 58, 3) := by decide +kernel
theorem dX6_meets_53 : decode cX6_meets 53 = .ok (.iload_n 3, 1) := by decide +kernel
theorem dX6_meets_54 : decode cX6_meets 54 = .ok (.ireturn, 1) := by decide +kernel
theorem dX6_placed_0 : decode cX6_placed 0 = .ok (.aload_n 0, 1) := by decide +kernel
theorem dX6_placed_1 : decode cX6_placed 1 = .ok (.iload_n 1, 1) := by decide +kernel
theorem dX6_placed_2 : decode cX6_placed 2 = .ok (.iconst 1, 1) := by decide +kernel
theorem dX6_placed_3 : decode cX6_placed 3 = .ok (.invokevirtual 40, 3) := by decide +kernel
theorem dX6_placed_6 : decode cX6_placed 6 = .ok (.aload_n 0, 1) := by decide +kernel
theorem dX6_placed_7 : decode cX6_placed 7 = .ok (.getfield 7, 3) := by decide +kernel
theorem dX6_placed_10 : decode cX6_placed 10 = .ok (.sipush 229, 3) := by decide +kernel
theorem dX6_placed_13 : decode cX6_placed 13 = .ok (.iaload, 1) := by decide +kernel
theorem dX6_placed_14 : decode cX6_placed 14 = .ok (.irem, 1) := by decide +kernel
theorem dX6_placed_15 : decode cX6_placed 15 = .ok (.istore_n 2, 1) := by decide +kernel
theorem dX6_placed_16 : decode cX6_placed 16 = .ok (.iload_n 2, 1) := by decide +kernel
theorem dX6_placed_17 : decode cX6_placed 17 = .ok (.ifCond .ge 16, 3) := by decide +kernel
theorem dX6_placed_20 : decode cX6_placed 20 = .ok (.iload_n 2, 1) := by decide +kernel
theorem dX6_placed_21 : decode cX6_placed 21 = .ok (.aload_n 0, 1) := by decide +kernel
theorem dX6_placed_22 : decode cX6_placed 22 = .ok (.getfield 7, 3) := by decide +kernel
theorem dX6_placed_25 : decode cX6_placed 25 = .ok (.sipush 229, 3) := by decide +kernel
theorem dX6_placed_28 : decode cX6_placed 28 = .ok (.iaload, 1) := by decide +kernel
theorem dX6_placed_29 : decode cX6_placed 29 = .ok (.iadd, 1) := by decide +kernel
theorem dX6_placed_30 : decode cX6_placed 30 = .ok (.goto 4, 3) := by decide +kernel
theorem dX6_placed_33 : decode cX6_placed 33 = .ok (.iload_n 2, 1) := by decide +kernel
theorem dX6_placed_34 : decode cX6_placed 34 = .ok (.ireturn, 1) := by decide +kernel
theorem dX6_canGoBack_0 : decode cX6_canGoBack 0 = .ok (.aload_n 0, 1) := by decide +kernel
theorem dX6_canGoBack_1 : decode cX6_canGoBack 1 = .ok (.iload_n 1, 1) := by decide +kernel
theorem dX6_canGoBack_2 : decode cX6_canGoBack 2 = .ok (.bipush 8, 2) := by decide +kernel
theorem dX6_canGoBack_4 : decode cX6_canGoBack 4 = .ok (.invokevirtual 40, 3) := by decide +kernel
theorem dX6_canGoBack_7 : decode cX6_canGoBack 7 = .ok (.iload_n 2, 1) := by decide +kernel
theorem dX6_canGoBack_8 : decode cX6_canGoBack 8 = .ok (.if_icmp .ge 5, 3) := by decide +kernel
theorem dX6_canGoBack_11 : decode cX6_canGoBack 11 = .ok (.iconst 0, 1) := by decide +kernel
theorem dX6_canGoBack_12 : decode cX6_canGoBack 12 = .ok (.ireturn, 1) := by decide +kernel
theorem dX6_canGoBack_13 : decode cX6_canGoBack 13 = .ok (.aload_n 0, 1) := by decide +kernel
theorem dX6_canGoBack_14 : decode cX6_canGoBack 14 = .ok (.iload_n 1, 1) := by decide +kernel
theorem dX6_canGoBack_15 : decode cX6_canGoBack 15 = .ok (.bipush 6, 2) := by decide +kernel
theorem dX6_canGoBack_17 : decode cX6_canGoBack 17 = .ok (.invokevirtual 40, 3) := by decide +kernel
theorem dX6_canGoBack_20 : decode cX6_canGoBack 20 = .ok (.istore_n 3, 1) := by decide +kernel
theorem dX6_canGoBack_21 : decode cX6_canGoBack 21 = .ok (.aload_n 0, 1) := by decide +kernel
theorem dX6_canGoBack_22 : decode cX6_canGoBack 22 = .ok (.iload_n 1, 1) := by decide +kernel
theorem dX6_canGoBack_23 : decode cX6_canGoBack 23 = .ok (.iconst 5, 1) := by decide +kernel
theorem dX6_canGoBack_24 : decode cX6_canGoBack 24 = .ok (.invokevirtual 40, 3) := by decide +kernel
theorem dX6_canGoBack_27 : decode cX6_canGoBack 27 = .ok (.istore 4, 2) := by decide +kernel
theorem dX6_canGoBack_29 : decode cX6_canGoBack 29 = .ok (.aload_n 0, 1) := by decide +kernel
theorem dX6_canGoBack_30 : decode cX6_canGoBack 30 = .ok (.iload_n 1, 1) := by decide +kernel
theorem dX6_canGoBack_31 : decode cX6_canGoBack 31 = .ok (.bipush 8, 2) := by decide +kernel
theorem dX6_canGoBack_33 : decode cX6_canGoBack 33 = .ok (.invokevirtual 40, 3) := by decide +kernel
theorem dX6_canGoBack_36 : decode cX6_canGoBack 36 = .ok (.iload_n 2, 1) := by decide +kernel
theorem dX6_canGoBack_37 : decode cX6_canGoBack 37 = .ok (.isub, 1) := by decide +kernel
theorem dX6_canGoBack_38 : decode cX6_canGoBack 38 = .ok (.istore 5, 2) := by decide +kernel
theorem dX6_canGoBack_40 : decode cX6_canGoBack 40 = .ok (.iload 5, 2) := by decide +kernel
theorem dX6_canGoBack_42 : decode cX6_canGoBack 42 = .ok (.aload_n 0, 1) := by decide +kernel
theorem dX6_canGoBack_43 : decode cX6_canGoBack 43 = .ok (.iload_n 1, 1) := by decide +kernel
theorem dX6_canGoBack_44 : decode cX6_canGoBack 44 = .ok (.bipush 8, 2) := by decide +kernel
theorem dX6_canGoBack_46 : decode cX6_canGoBack 46 = .ok (.invokevirtual 40, 3) := by decide +kernel
theorem dX6_canGoBack_49 : decode cX6_canGoBack 49 = .ok (.if_icmp .ge 46, 3) := by decide +kernel
theorem dX6_canGoBack_52 : decode cX6_canGoBack 52 = .ok (.iload 4, 2) := by decide +kernel
theorem dX6_canGoBack_54 : decode cX6_canGoBack 54 = .ok (.aload_n 0, 1) := by decide +kernel
theorem dX6_canGoBack_55 : decode cX6_canGoBack 55 = .ok (.iload_n 1, 1) := by decide +kernel
theorem dX6_canGoBack_56 : decode cX6_canGoBack 56 = .ok (.bipush 9, 2) := by decide +kernel
theorem dX6_canGoBack_58 : decode cX6_canGoBack 58 = .ok (.iconst 3, 1) := by decide +kernel
theorem dX6_canGoBack_59 : decode cX6_canGoBack 59 = .ok (.iload 5, 2) := by decide +kernel
theorem dX6_canGoBack_61 : decode cX6_canGoBack 61 = .ok (.imul, 1) := by decide +kernel
theorem dX6_canGoBack_62 : decode cX6_canGoBack 62 = .ok (.iadd, 1) := by decide +kernel
theorem dX6_canGoBack_63 : decode cX6_canGoBack 63 = .ok (.invokevirtual 40, 3) := by decide +kernel
theorem dX6_canGoBack_66 : decode cX6_canGoBack 66 = .ok (.invokestatic 51, 3) := by decide +kernel
theorem dX6_canGoBack_69 : decode cX6_canGoBack 69 = .ok (.iadd, 1) := by decide +kernel
theorem dX6_canGoBack_70 : decode cX6_canGoBack 70 = .ok (.istore 4, 2) := by decide +kernel
theorem dX6_canGoBack_72 : decode cX6_canGoBack 72 = .ok (.iload_n 3, 1) := by decide +kernel
theorem dX6_canGoBack_73 : decode cX6_canGoBack 73 = .ok (.aload_n 0, 1) := by decide +kernel
theorem dX6_canGoBack_74 : decode cX6_canGoBack 74 = .ok (.iload_n 1, 1) := by decide +kernel
theorem dX6_canGoBack_75 : decode cX6_canGoBack 75 = .ok (.bipush 9, 2) := by decide +kernel
theorem dX6_canGoBack_77 : decode cX6_canGoBack 77 = .ok (.iconst 3, 1) := by decide +kernel
theorem dX6_canGoBack_78 : decode cX6_canGoBack 78 = .ok (.iload 5, 2) := by decide +kernel
theorem dX6_canGoBack_80 : decode cX6_canGoBack 80 = .ok (.imul, 1) := by decide +kernel
theorem dX6_canGoBack_81 : decode cX6_canGoBack 81 = .ok (.iadd, 1) := by decide +kernel
theorem dX6_canGoBack_82 : decode cX6_canGoBack 82 = .ok (.iconst 1, 1) := by decide +kernel
theorem dX6_canGoBack_83 : decode cX6_canGoBack 83 = .ok (.iadd, 1) := by decide +kernel
theorem dX6_canGoBack_84 : decode cX6_canGoBack 84 = .ok (.invokevirtual 40, 3) := by decide +kernel
theorem dX6_canGoBack_87 : decode cX6_canGoBack 87 = .ok (.iadd, 1) := by decide +kernel
theorem dX6_canGoBack_88 : decode cX6_canGoBack 88 = .ok (.istore_n 3, 1) := by decide +kernel
theorem dX6_canGoBack_89 : decode cX6_canGoBack 89 = .ok (.iinc 5 1, 3) := by decide +kernel
theorem dX6_canGoBack_92 : decode cX6_canGoBack 92 = .ok (.goto (-52), 3) := by decide +kernel
theorem dX6_canGoBack_95 : decode cX6_canGoBack 95 = .ok (.iload_n 3, 1) := by decide +kernel
theorem dX6_canGoBack_96 : decode cX6_canGoBack 96 = .ok (.ldc 47, 2) := by decide +kernel
theorem dX6_canGoBack_98 : decode cX6_canGoBack 98 = .ok (.if_icmp .gt 14, 3) := by decide +kernel
theorem dX6_canGoBack_101 : decode cX6_canGoBack 101 = .ok (.iload 4, 2) := by decide +kernel
theorem dX6_canGoBack_103 : decode cX6_canGoBack 103 = .ok (.ldc 47, 2) := by decide +kernel
theorem dX6_canGoBack_105 : decode cX6_canGoBack 105 = .ok (.if_icmp .gt 7, 3) := by decide +kernel
theorem dX6_canGoBack_108 : decode cX6_canGoBack 108 = .ok (.iconst 1, 1) := by decide +kernel
theorem dX6_canGoBack_109 : decode cX6_canGoBack 109 = .ok (.goto 4, 3) := by decide +kernel
theorem dX6_canGoBack_112 : decode cX6_canGoBack 112 = .ok (.iconst 0, 1) := by decide +kernel
theorem dX6_canGoBack_113 : decode cX6_canGoBack 113 = .ok (.ireturn, 1) := by decide +kernel
theorem dX6_goesBack_0 : decode cX6_goesBack 0 = .ok (.iconst 0, 1) := by decide +kernel
theorem dX6_goesBack_1 : decode cX6_goesBack 1 = .ok (.istore_n 3, 1) := by decide +kernel
theorem dX6_goesBack_2 : decode cX6_goesBack 2 = .ok (.iload_n 3, 1) := by decide +kernel
theorem dX6_goesBack_3 : decode cX6_goesBack 3 = .ok (.iload_n 2, 1) := by decide +kernel
theorem dX6_goesBack_4 : decode cX6_goesBack 4 = .ok (.if_icmp .ge 159, 3) := by decide +kernel
theorem dX6_goesBack_7 : decode cX6_goesBack 7 = .ok (.aload_n 0, 1) := by decide +kernel
theorem dX6_goesBack_8 : decode cX6_goesBack 8 = .ok (.iload_n 1, 1) := by decide +kernel
theorem dX6_goesBack_9 : decode cX6_goesBack 9 = .ok (.bipush 8, 2) := by decide +kernel
theorem dX6_goesBack_11 : decode cX6_goesBack 11 = .ok (.iconst (-1), 1) := by decide +kernel
theorem dX6_goesBack_12 : decode cX6_goesBack 12 = .ok (.invokevirtual 58, 3) := by decide +kernel
theorem dX6_goesBack_15 : decode cX6_goesBack 15 = .ok (.bipush 9, 2) := by decide +kernel
theorem dX6_goesBack_17 : decode cX6_goesBack 17 = .ok (.iconst 3, 1) := by decide +kernel
theorem dX6_goesBack_18 : decode cX6_goesBack 18 = .ok (.aload_n 0, 1) := by decide +kernel
theorem dX6_goesBack_19 : decode cX6_goesBack 19 = .ok (.iload_n 1, 1) := by decide +kernel
theorem dX6_goesBack_20 : decode cX6_goesBack 20 = .ok (.bipush 8, 2) := by decide +kernel
theorem dX6_goesBack_22 : decode cX6_goesBack 22 = .ok (.invokevirtual 40, 3) := by decide +kernel
theorem dX6_goesBack_25 : decode cX6_goesBack 25 = .ok (.imul, 1) := by decide +kernel
theorem dX6_goesBack_26 : decode cX6_goesBack 26 = .ok (.iadd, 1) := by decide +kernel
theorem dX6_goesBack_27 : decode cX6_goesBack 27 = .ok (.istore 4, 2) := by decide +kernel
theorem dX6_goesBack_29 : decode cX6_goesBack 29 = .ok (.aload_n 0, 1) := by decide +kernel
theorem dX6_goesBack_30 : decode cX6_goesBack 30 = .ok (.iload_n 1, 1) := by decide +kernel
theorem dX6_goesBack_31 : decode cX6_goesBack 31 = .ok (.iload 4, 2) := by decide +kernel
theorem dX6_goesBack_33 : decode cX6_goesBack 33 = .ok (.invokevirtual 40, 3) := by decide +kernel
theorem dX6_goesBack_36 : decode cX6_goesBack 36 = .ok (.istore 5, 2) := by decide +kernel
theorem dX6_goesBack_38 : decode cX6_goesBack 38 = .ok (.aload_n 0, 1) := by decide +kernel
theorem dX6_goesBack_39 : decode cX6_goesBack 39 = .ok (.iload_n 1, 1) := by decide +kernel
theorem dX6_goesBack_40 : decode cX6_goesBack 40 = .ok (.iload 4, 2) := by decide +kernel
theorem dX6_goesBack_42 : decode cX6_goesBack 42 = .ok (.iconst 2, 1) := by decide +kernel
theorem dX6_goesBack_43 : decode cX6_goesBack 43 = .ok (.iadd, 1) := by decide +kernel
theorem dX6_goesBack_44 : decode cX6_goesBack 44 = .ok (.invokevirtual 40, 3) := by decide +kernel
theorem dX6_goesBack_47 : decode cX6_goesBack 47 = .ok (.istore 6, 2) := by decide +kernel
theorem dX6_goesBack_49 : decode cX6_goesBack 49 = .ok (.aload_n 0, 1) := by decide +kernel
theorem dX6_goesBack_50 : decode cX6_goesBack 50 = .ok (.iload_n 1, 1) := by decide +kernel
theorem dX6_goesBack_51 : decode cX6_goesBack 51 = .ok (.bipush 7, 2) := by decide +kernel
theorem dX6_goesBack_53 : decode cX6_goesBack 53 = .ok (.iload 6, 2) := by decide +kernel
theorem dX6_goesBack_55 : decode cX6_goesBack 55 = .ok (.aload_n 0, 1) := by decide +kernel
theorem dX6_goesBack_56 : decode cX6_goesBack 56 = .ok (.iload_n 1, 1) := by decide +kernel
theorem dX6_goesBack_57 : decode cX6_goesBack 57 = .ok (.iconst 0, 1) := by decide +kernel
theorem dX6_goesBack_58 : decode cX6_goesBack 58 = .ok (.invokevirtual 40, 3) := by decide +kernel
theorem dX6_goesBack_61 : decode cX6_goesBack 61 = .ok (.invokestatic 61, 3) := by decide +kernel
theorem dX6_goesBack_64 : decode cX6_goesBack 64 = .ok (.ifCond .eq 9, 3) := by decide +kernel
theorem dX6_goesBack_67 : decode cX6_goesBack 67 = .ok (.iload 5, 2) := by decide +kernel
theorem dX6_goesBack_69 : decode cX6_goesBack 69 = .ok (.ineg, 1) := by decide +kernel
theorem dX6_goesBack_70 : decode cX6_goesBack 70 = .ok (.goto 4, 3) := by decide +kernel
theorem dX6_goesBack_73 : decode cX6_goesBack 73 = .ok (.iconst 0, 1) := by decide +kernel
theorem dX6_goesBack_74 : decode cX6_goesBack 74 = .ok (.invokevirtual 58, 3) := by decide +kernel
theorem dX6_goesBack_77 : decode cX6_goesBack 77 = .ok (.aload_n 0, 1) := by decide +kernel
theorem dX6_goesBack_78 : decode cX6_goesBack 78 = .ok (.iload_n 1, 1) := by decide +kernel
theorem dX6_goesBack_79 : decode cX6_goesBack 79 = .ok (.iconst 1, 1) := by decide +kernel
theorem dX6_goesBack_80 : decode cX6_goesBack 80 = .ok (.iload 5, 2) := by decide +kernel
theorem dX6_goesBack_82 : decode cX6_goesBack 82 = .ok (.ineg, 1) := by decide +kernel
theorem dX6_goesBack_83 : decode cX6_goesBack 83 = .ok (.invokevirtual 58, 3) := by decide +kernel
theorem dX6_goesBack_86 : decode cX6_goesBack 86 = .ok (.aload_n 0, 1) := by decide +kernel
theorem dX6_goesBack_87 : decode cX6_goesBack 87 = .ok (.iload_n 1, 1) := by decide +kernel
theorem dX6_goesBack_88 : decode cX6_goesBack 88 = .ok (.iconst 5, 1) := by decide +kernel
theorem dX6_goesBack_89 : decode cX6_goesBack 89 = .ok (.iload 5, 2) := by decide +kernel
theorem dX6_goesBack_91 : decode cX6_goesBack 91 = .ok (.invokestatic 51, 3) := by decide +kernel
theorem dX6_goesBack_94 : decode cX6_goesBack 94 = .ok (.invokevirtual 58, 3) := by decide +kernel
theorem dX6_goesBack_97 : decode cX6_goesBack 97 = .ok (.aload_n 0, 1) := by decide +kernel
theorem dX6_goesBack_98 : decode cX6_goesBack 98 = .ok (.iload_n 1, 1) := by decide +kernel
theorem dX6_goesBack_99 : decode cX6_goesBack 99 = .ok (.bipush 6, 2) := by decide +kernel
theorem dX6_goesBack_101 : decode cX6_goesBack 101 = .ok (.aload_n 0, 1) := by decide +kernel
theorem dX6_goesBack_102 : decode cX6_goesBack 102 = .ok (.iload_n 1, 1) := by decide +kernel
theorem dX6_goesBack_103 : decode cX6_goesBack 103 = .ok (.iload 4, 2) := by decide +kernel
theorem dX6_goesBack_105 : decode cX6_goesBack 105 = .ok (.iconst 1, 1) := by decide +kernel
theorem dX6_goesBack_106 : decode cX6_goesBack 106 = .ok (.iadd, 1) := by decide +kernel
theorem dX6_goesBack_107 : decode cX6_goesBack 107 = .ok (.invokevirtual 40, 3) := by decide +kernel
theorem dX6_goesBack_110 : decode cX6_goesBack 110 = .ok (.invokevirtual 58, 3) := by decide +kernel
theorem dX6_goesBack_113 : decode cX6_goesBack 113 = .ok (.aload_n 0, 1) := by decide +kernel
theorem dX6_goesBack_114 : decode cX6_goesBack 114 = .ok (.iload_n 1, 1) := by decide +kernel
theorem dX6_goesBack_115 : decode cX6_goesBack 115 = .ok (.iconst 0, 1) := by decide +kernel
theorem dX6_goesBack_116 : decode cX6_goesBack 116 = .ok (.iload 6, 2) := by decide +kernel
theorem dX6_goesBack_118 : decode cX6_goesBack 118 = .ok (.invokevirtual 54, 3) := by decide +kernel
theorem dX6_goesBack_121 : decode cX6_goesBack 121 = .ok (.aload_n 0, 1) := by decide +kernel
theorem dX6_goesBack_122 : decode cX6_goesBack 122 = .ok (.iload_n 1, 1) := by decide +kernel
theorem dX6_goesBack_123 : decode cX6_goesBack 123 = .ok (.iload 5, 2) := by decide +kernel
theorem dX6_goesBack_125 : decode cX6_goesBack 125 = .ok (.ineg, 1) := by decide +kernel
theorem dX6_goesBack_126 : decode cX6_goesBack 126 = .ok (.invokevirtual 65, 3) := by decide +kernel
theorem dX6_goesBack_129 : decode cX6_goesBack 129 = .ok (.aload_n 0, 1) := by decide +kernel
theorem dX6_goesBack_130 : decode cX6_goesBack 130 = .ok (.iload_n 1, 1) := by decide +kernel
theorem dX6_goesBack_131 : decode cX6_goesBack 131 = .ok (.iload 4, 2) := by decide +kernel
theorem dX6_goesBack_133 : decode cX6_goesBack 133 = .ok (.iconst 0, 1) := by decide +kernel
theorem dX6_goesBack_134 : decode cX6_goesBack 134 = .ok (.invokevirtual 54, 3) := by decide +kernel
theorem dX6_goesBack_137 : decode cX6_goesBack 137 = .ok (.aload_n 0, 1) := by decide +kernel
theorem dX6_goesBack_138 : decode cX6_goesBack 138 = .ok (.iload_n 1, 1) := by decide +kernel
theorem dX6_goesBack_139 : decode cX6_goesBack 139 = .ok (.iload 4, 2) := by decide +kernel
theorem dX6_goesBack_141 : decode cX6_goesBack 141 = .ok (.iconst 1, 1) := by decide +kernel
theorem dX6_goesBack_142 : decode cX6_goesBack 142 = .ok (.iadd, 1) := by decide +kernel
theorem dX6_goesBack_143 : decode cX6_goesBack 143 = .ok (.iconst 0, 1) := by decide +kernel
theorem dX6_goesBack_144 : decode cX6_goesBack 144 = .ok (.invokevirtual 54, 3) := by decide +kernel
theorem dX6_goesBack_147 : decode cX6_goesBack 147 = .ok (.aload_n 0, 1) := by decide +kernel
theorem dX6_goesBack_148 : decode cX6_goesBack 148 = .ok (.iload_n 1, 1) := by decide +kernel
theorem dX6_goesBack_149 : decode cX6_goesBack 149 = .ok (.iload 4, 2) := by decide +kernel
theorem dX6_goesBack_151 : decode cX6_goesBack 151 = .ok (.iconst 2, 1) := by decide +kernel
theorem dX6_goesBack_152 : decode cX6_goesBack 152 = .ok (.iadd, 1) := by decide +kernel
theorem dX6_goesBack_153 : decode cX6_goesBack 153 = .ok (.iconst 0, 1) := by decide +kernel
theorem dX6_goesBack_154 : decode cX6_goesBack 154 = .ok (.invokevirtual 54, 3) := by decide +kernel
theorem dX6_goesBack_157 : decode cX6_goesBack 157 = .ok (.iinc 3 1, 3) := by decide +kernel
theorem dX6_goesBack_160 : decode cX6_goesBack 160 = .ok (.goto (-158), 3) := by decide +kernel
theorem dX6_goesBack_163 : decode cX6_goesBack 163 = .ok (.aload_n 0, 1) := by decide +kernel
theorem dX6_goesBack_164 : decode cX6_goesBack 164 = .ok (.iload_n 1, 1) := by decide +kernel
theorem dX6_goesBack_165 : decode cX6_goesBack 165 = .ok (.iconst 1, 1) := by decide +kernel
theorem dX6_goesBack_166 : decode cX6_goesBack 166 = .ok (.invokevirtual 40, 3) := by decide +kernel
theorem dX6_goesBack_169 : decode cX6_goesBack 169 = .ok (.ireturn, 1) := by decide +kernel
theorem dX6_feel_0 : decode cX6_feel 0 = .ok (.aload_n 0, 1) := by decide +kernel
theorem dX6_feel_1 : decode cX6_feel 1 = .ok (.iload_n 1, 1) := by decide +kernel
theorem dX6_feel_2 : decode cX6_feel 2 = .ok (.invokevirtual 75, 3) := by decide +kernel
theorem dX6_feel_5 : decode cX6_feel 5 = .ok (.ifCond .ne 5, 3) := by decide +kernel
theorem dX6_feel_8 : decode cX6_feel 8 = .ok (.iconst 0, 1) := by decide +kernel
theorem dX6_feel_9 : decode cX6_feel 9 = .ok (.ireturn, 1) := by decide +kernel
theorem dX6_feel_10 : decode cX6_feel 10 = .ok (.iload_n 2, 1) := by decide +kernel
theorem dX6_feel_11 : decode cX6_feel 11 = .ok (.iconst 0, 1) := by decide +kernel
theorem dX6_feel_12 : decode cX6_feel 12 = .ok (.iconst 3, 1) := by decide +kernel
theorem dX6_feel_13 : decode cX6_feel 13 = .ok (.invokestatic 29, 3) := by decide +kernel
theorem dX6_feel_16 : decode cX6_feel 16 = .ok (.ifCond .eq 14, 3) := by decide +kernel
theorem dX6_feel_19 : decode cX6_feel 19 = .ok (.iload_n 3, 1) := by decide +kernel
theorem dX6_feel_20 : decode cX6_feel 20 = .ok (.iconst 1, 1) := by decide +kernel
theorem dX6_feel_21 : decode cX6_feel 21 = .ok (.sipush 1000, 3) := by decide +kernel
theorem dX6_feel_24 : decode cX6_feel 24 = .ok (.invokestatic 29, 3) := by decide +kernel
theorem dX6_feel_27 : decode cX6_feel 27 = .ok (.ifCond .ne 9, 3) := by decide +kernel
theorem dX6_feel_30 : decode cX6_feel 30 = .ok (.aload_n 0, 1) := by decide +kernel
theorem dX6_feel_31 : decode cX6_feel 31 = .ok (.iconst 2, 1) := by decide +kernel
theorem dX6_feel_32 : decode cX6_feel 32 = .ok (.invokevirtual 79, 3) := by decide +kernel
theorem dX6_feel_35 : decode cX6_feel 35 = .ok (.ireturn, 1) := by decide +kernel
theorem dX6_feel_36 : decode cX6_feel 36 = .ok (.aload_n 0, 1) := by decide +kernel
theorem dX6_feel_37 : decode cX6_feel 37 = .ok (.iload_n 1, 1) := by decide +kernel
theorem dX6_feel_38 : decode cX6_feel 38 = .ok (.iload_n 2, 1) := by decide +kernel
theorem dX6_feel_39 : decode cX6_feel 39 = .ok (.iload_n 3, 1) := by decide +kernel
theorem dX6_feel_40 : decode cX6_feel 40 = .ok (.invokevirtual 82, 3) := by decide +kernel
theorem dX6_feel_43 : decode cX6_feel 43 = .ok (.ifCond .ne 9, 3) := by decide +kernel
theorem dX6_feel_46 : decode cX6_feel 46 = .ok (.aload_n 0, 1) := by decide +kernel
theorem dX6_feel_47 : decode cX6_feel 47 = .ok (.iconst 3, 1) := by decide +kernel
theorem dX6_feel_48 : decode cX6_feel 48 = .ok (.invokevirtual 79, 3) := by decide +kernel
theorem dX6_feel_51 : decode cX6_feel 51 = .ok (.ireturn, 1) := by decide +kernel
theorem dX6_feel_52 : decode cX6_feel 52 = .ok (.aload_n 0, 1) := by decide +kernel
theorem dX6_feel_53 : decode cX6_feel 53 = .ok (.invokevirtual 85, 3) := by decide +kernel
theorem dX6_feel_56 : decode cX6_feel 56 = .ok (.aload_n 0, 1) := by decide +kernel
theorem dX6_feel_57 : decode cX6_feel 57 = .ok (.iload_n 1, 1) := by decide +kernel
theorem dX6_feel_58 : decode cX6_feel 58 = .ok (.iload_n 2, 1) := by decide +kernel
theorem dX6_feel_59 : decode cX6_feel 59 = .ok (.iload_n 3, 1) := by decide +kernel
theorem dX6_feel_60 : decode cX6_feel 60 = .ok (.invokevirtual 88, 3) := by decide +kernel
theorem dX6_feel_63 : decode cX6_feel 63 = .ok (.ireturn, 1) := by decide +kernel
theorem dX6_crawl_0 : decode cX6_crawl 0 = .ok (.aload_n 0, 1) := by decide +kernel
theorem dX6_crawl_1 : decode cX6_crawl 1 = .ok (.iload_n 1, 1) := by decide +kernel
theorem dX6_crawl_2 : decode cX6_crawl 2 = .ok (.invokevirtual 75, 3) := by decide +kernel
theorem dX6_crawl_5 : decode cX6_crawl 5 = .ok (.ifCond .ne 5, 3) := by decide +kernel
theorem dX6_crawl_8 : decode cX6_crawl 8 = .ok (.iconst 0, 1) := by decide +kernel
theorem dX6_crawl_9 : decode cX6_crawl 9 = .ok (.ireturn, 1) := by decide +kernel
theorem dX6_crawl_10 : decode cX6_crawl 10 = .ok (.iload_n 2, 1) := by decide +kernel
theorem dX6_crawl_11 : decode cX6_crawl 11 = .ok (.bipush (-100), 2) := by decide +kernel
theorem dX6_crawl_13 : decode cX6_crawl 13 = .ok (.bipush 100, 2) := by decide +kernel
theorem dX6_crawl_15 : decode cX6_crawl 15 = .ok (.invokestatic 29, 3) := by decide +kernel
theorem dX6_crawl_18 : decode cX6_crawl 18 = .ok (.ifCond .ne 9, 3) := by decide +kernel
theorem dX6_crawl_21 : decode cX6_crawl 21 = .ok (.aload_n 0, 1) := by decide +kernel
theorem dX6_crawl_22 : decode cX6_crawl 22 = .ok (.iconst 2, 1) := by decide +kernel
theorem dX6_crawl_23 : decode cX6_crawl 23 = .ok (.invokevirtual 79, 3) := by decide +kernel
theorem dX6_crawl_26 : decode cX6_crawl 26 = .ok (.ireturn, 1) := by decide +kernel
theorem dX6_crawl_27 : decode cX6_crawl 27 = .ok (.aload_n 0, 1) := by decide +kernel
theorem dX6_crawl_28 : decode cX6_crawl 28 = .ok (.iload_n 1, 1) := by decide +kernel
theorem dX6_crawl_29 : decode cX6_crawl 29 = .ok (.bipush 6, 2) := by decide +kernel
theorem dX6_crawl_31 : decode cX6_crawl 31 = .ok (.invokevirtual 40, 3) := by decide +kernel
theorem dX6_crawl_34 : decode cX6_crawl 34 = .ok (.iload_n 2, 1) := by decide +kernel
theorem dX6_crawl_35 : decode cX6_crawl 35 = .ok (.invokestatic 51, 3) := by decide +kernel
theorem dX6_crawl_38 : decode cX6_crawl 38 = .ok (.iadd, 1) := by decide +kernel
theorem dX6_crawl_39 : decode cX6_crawl 39 = .ok (.ldc 47, 2) := by decide +kernel
theorem dX6_crawl_41 : decode cX6_crawl 41 = .ok (.if_icmp .gt 19, 3) := by decide +kernel
theorem dX6_crawl_44 : decode cX6_crawl 44 = .ok (.aload_n 0, 1) := by decide +kernel
theorem dX6_crawl_45 : decode cX6_crawl 45 = .ok (.iload_n 1, 1) := by decide +kernel
theorem dX6_crawl_46 : decode cX6_crawl 46 = .ok (.iconst 5, 1) := by decide +kernel
theorem dX6_crawl_47 : decode cX6_crawl 47 = .ok (.invokevirtual 40, 3) := by decide +kernel
theorem dX6_crawl_50 : decode cX6_crawl 50 = .ok (.iload_n 2, 1) := by decide +kernel
theorem dX6_crawl_51 : decode cX6_crawl 51 = .ok (.invokestatic 51, 3) := by decide +kernel
theorem dX6_crawl_54 : decode cX6_crawl 54 = .ok (.iadd, 1) := by decide +kernel
theorem dX6_crawl_55 : decode cX6_crawl 55 = .ok (.ldc 47, 2) := by decide +kernel
theorem dX6_crawl_57 : decode cX6_crawl 57 = .ok (.if_icmp .le 9, 3) := by decide +kernel
theorem dX6_crawl_60 : decode cX6_crawl 60 = .ok (.aload_n 0, 1) := by decide +kernel
theorem dX6_crawl_61 : decode cX6_crawl 61 = .ok (.iconst 3, 1) := by decide +kernel
theorem dX6_crawl_62 : decode cX6_crawl 62 = .ok (.invokevirtual 79, 3) := by decide +kernel
theorem dX6_crawl_65 : decode cX6_crawl 65 = .ok (.ireturn, 1) := by decide +kernel
theorem dX6_crawl_66 : decode cX6_crawl 66 = .ok (.aload_n 0, 1) := by decide +kernel
theorem dX6_crawl_67 : decode cX6_crawl 67 = .ok (.invokevirtual 85, 3) := by decide +kernel
theorem dX6_crawl_70 : decode cX6_crawl 70 = .ok (.iconst 0, 1) := by decide +kernel
theorem dX6_crawl_71 : decode cX6_crawl 71 = .ok (.istore_n 3, 1) := by decide +kernel
theorem dX6_crawl_72 : decode cX6_crawl 72 = .ok (.iload_n 3, 1) := by decide +kernel
theorem dX6_crawl_73 : decode cX6_crawl 73 = .ok (.iload_n 2, 1) := by decide +kernel
theorem dX6_crawl_74 : decode cX6_crawl 74 = .ok (.invokestatic 51, 3) := by decide +kernel
theorem dX6_crawl_77 : decode cX6_crawl 77 = .ok (.if_icmp .ge 35, 3) := by decide +kernel
theorem dX6_crawl_80 : decode cX6_crawl 80 = .ok (.aload_n 0, 1) := by decide +kernel
theorem dX6_crawl_81 : decode cX6_crawl 81 = .ok (.iload_n 1, 1) := by decide +kernel
theorem dX6_crawl_82 : decode cX6_crawl 82 = .ok (.aload_n 0, 1) := by decide +kernel
theorem dX6_crawl_83 : decode cX6_crawl 83 = .ok (.iload_n 1, 1) := by decide +kernel
theorem dX6_crawl_84 : decode cX6_crawl 84 = .ok (.iconst 0, 1) := by decide +kernel
theorem dX6_crawl_85 : decode cX6_crawl 85 = .ok (.invokevirtual 40, 3) := by decide +kernel
theorem dX6_crawl_88 : decode cX6_crawl 88 = .ok (.iload_n 2, 1) := by decide +kernel
theorem dX6_crawl_89 : decode cX6_crawl 89 = .ok (.ifCond .ge 7, 3) := by decide +kernel
theorem dX6_crawl_92 : decode cX6_crawl 92 = .ok (.iconst (-1), 1) := by decide +kernel
theorem dX6_crawl_93 : decode cX6_crawl 93 = .ok (.goto 4, 3) := by decide +kernel
theorem dX6_crawl_96 : decode cX6_crawl 96 = .ok (.iconst 1, 1) := by decide +kernel
theorem dX6_crawl_97 : decode cX6_crawl 97 = .ok (.invokestatic 92, 3) := by decide +kernel
theorem dX6_crawl_100 : decode cX6_crawl 100 = .ok (.iconst 1, 1) := by decide +kernel
theorem dX6_crawl_101 : decode cX6_crawl 101 = .ok (.invokevirtual 88, 3) := by decide +kernel
theorem dX6_crawl_104 : decode cX6_crawl 104 = .ok (.istore 4, 2) := by decide +kernel
theorem dX6_crawl_106 : decode cX6_crawl 106 = .ok (.iinc 3 1, 3) := by decide +kernel
theorem dX6_crawl_109 : decode cX6_crawl 109 = .ok (.goto (-37), 3) := by decide +kernel
theorem dX6_crawl_112 : decode cX6_crawl 112 = .ok (.aload_n 0, 1) := by decide +kernel
theorem dX6_crawl_113 : decode cX6_crawl 113 = .ok (.iload_n 1, 1) := by decide +kernel
theorem dX6_crawl_114 : decode cX6_crawl 114 = .ok (.iconst 1, 1) := by decide +kernel
theorem dX6_crawl_115 : decode cX6_crawl 115 = .ok (.invokevirtual 40, 3) := by decide +kernel
theorem dX6_crawl_118 : decode cX6_crawl 118 = .ok (.ireturn, 1) := by decide +kernel
theorem dX6_meetMark_0 : decode cX6_meetMark 0 = .ok (.aload_n 0, 1) := by decide +kernel
theorem dX6_meetMark_1 : decode cX6_meetMark 1 = .ok (.iload_n 1, 1) := by decide +kernel
theorem dX6_meetMark_2 : decode cX6_meetMark 2 = .ok (.invokevirtual 75, 3) := by decide +kernel
theorem dX6_meetMark_5 : decode cX6_meetMark 5 = .ok (.ifCond .ne 5, 3) := by decide +kernel
theorem dX6_meetMark_8 : decode cX6_meetMark 8 = .ok (.iconst 0, 1) := by decide +kernel
theorem dX6_meetMark_9 : decode cX6_meetMark 9 = .ok (.ireturn, 1) := by decide +kernel
theorem dX6_meetMark_10 : decode cX6_meetMark 10 = .ok (.aload_n 0, 1) := by decide +kernel
theorem dX6_meetMark_11 : decode cX6_meetMark 11 = .ok (.invokevirtual 85, 3) := by decide +kernel
theorem dX6_meetMark_14 : decode cX6_meetMark 14 = .ok (.aload_n 0, 1) := by decide +kernel
theorem dX6_meetMark_15 : decode cX6_meetMark 15 = .ok (.iload_n 1, 1) := by decide +kernel
theorem dX6_meetMark_16 : decode cX6_meetMark 16 = .ok (.invokevirtual 95, 3) := by decide +kernel
theorem dX6_meetMark_19 : decode cX6_meetMark 19 = .ok (.ireturn, 1) := by decide +kernel
theorem dX6_goBack_0 : decode cX6_goBack 0 = .ok (.aload_n 0, 1) := by decide +kernel
theorem dX6_goBack_1 : decode cX6_goBack 1 = .ok (.iload_n 1, 1) := by decide +kernel
theorem dX6_goBack_2 : decode cX6_goBack 2 = .ok (.invokevirtual 75, 3) := by decide +kernel
theorem dX6_goBack_5 : decode cX6_goBack 5 = .ok (.ifCond .ne 5, 3) := by decide +kernel
theorem dX6_goBack_8 : decode cX6_goBack 8 = .ok (.iconst 0, 1) := by decide +kernel
theorem dX6_goBack_9 : decode cX6_goBack 9 = .ok (.ireturn, 1) := by decide +kernel
theorem dX6_goBack_10 : decode cX6_goBack 10 = .ok (.iload_n 2, 1) := by decide +kernel
theorem dX6_goBack_11 : decode cX6_goBack 11 = .ok (.iconst 1, 1) := by decide +kernel
theorem dX6_goBack_12 : decode cX6_goBack 12 = .ok (.bipush 16, 2) := by decide +kernel
theorem dX6_goBack_14 : decode cX6_goBack 14 = .ok (.invokestatic 29, 3) := by decide +kernel
theorem dX6_goBack_17 : decode cX6_goBack 17 = .ok (.ifCond .ne 9, 3) := by decide +kernel
theorem dX6_goBack_20 : decode cX6_goBack 20 = .ok (.aload_n 0, 1) := by decide +kernel
theorem dX6_goBack_21 : decode cX6_goBack 21 = .ok (.iconst 2, 1) := by decide +kernel
theorem dX6_goBack_22 : decode cX6_goBack 22 = .ok (.invokevirtual 79, 3) := by decide +kernel
theorem dX6_goBack_25 : decode cX6_goBack 25 = .ok (.ireturn, 1) := by decide +kernel
theorem dX6_goBack_26 : decode cX6_goBack 26 = .ok (.aload_n 0, 1) := by decide +kernel
theorem dX6_goBack_27 : decode cX6_goBack 27 = .ok (.iload_n 1, 1) := by decide +kernel
theorem dX6_goBack_28 : decode cX6_goBack 28 = .ok (.iload_n 2, 1) := by decide +kernel
theorem dX6_goBack_29 : decode cX6_goBack 29 = .ok (.invokevirtual 98, 3) := by decide +kernel
theorem dX6_goBack_32 : decode cX6_goBack 32 = .ok (.ifCond .ne 9, 3) := by decide +kernel
theorem dX6_goBack_35 : decode cX6_goBack 35 = .ok (.aload_n 0, 1) := by decide +kernel
theorem dX6_goBack_36 : decode cX6_goBack 36 = .ok (.iconst 3, 1) := by decide +kernel
theorem dX6_goBack_37 : decode cX6_goBack 37 = .ok (.invokevirtual 79, 3) := by decide +kernel
theorem dX6_goBack_40 : decode cX6_goBack 40 = .ok (.ireturn, 1) := by decide +kernel
theorem dX6_goBack_41 : decode cX6_goBack 41 = .ok (.aload_n 0, 1) := by decide +kernel
theorem dX6_goBack_42 : decode cX6_goBack 42 = .ok (.invokevirtual 85, 3) := by decide +kernel
theorem dX6_goBack_45 : decode cX6_goBack 45 = .ok (.aload_n 0, 1) := by decide +kernel
theorem dX6_goBack_46 : decode cX6_goBack 46 = .ok (.iload_n 1, 1) := by decide +kernel
theorem dX6_goBack_47 : decode cX6_goBack 47 = .ok (.iload_n 2, 1) := by decide +kernel
theorem dX6_goBack_48 : decode cX6_goBack 48 = .ok (.invokevirtual 101, 3) := by decide +kernel
theorem dX6_goBack_51 : decode cX6_goBack 51 = .ok (.ireturn, 1) := by decide +kernel
theorem dX6_setRule_0 : decode cX6_setRule 0 = .ok (.aload_n 0, 1) := by decide +kernel
theorem dX6_setRule_1 : decode cX6_setRule 1 = .ok (.iconst 0, 1) := by decide +kernel
theorem dX6_setRule_2 : decode cX6_setRule 2 = .ok (.putfield 25, 3) := by decide +kernel
theorem dX6_setRule_5 : decode cX6_setRule 5 = .ok (.iload_n 1, 1) := by decide +kernel
theorem dX6_setRule_6 : decode cX6_setRule 6 = .ok (.iconst 0, 1) := by decide +kernel
theorem dX6_setRule_7 : decode cX6_setRule 7 = .ok (.iconst 1, 1) := by decide +kernel
theorem dX6_setRule_8 : decode cX6_setRule 8 = .ok (.invokestatic 29, 3) := by decide +kernel
theorem dX6_setRule_11 : decode cX6_setRule 11 = .ok (.ifCond .ne 9, 3) := by decide +kernel
theorem dX6_setRule_14 : decode cX6_setRule 14 = .ok (.aload_n 0, 1) := by decide +kernel
theorem dX6_setRule_15 : decode cX6_setRule 15 = .ok (.iconst 1, 1) := by decide +kernel
theorem dX6_setRule_16 : decode cX6_setRule 16 = .ok (.invokevirtual 79, 3) := by decide +kernel
theorem dX6_setRule_19 : decode cX6_setRule 19 = .ok (.ireturn, 1) := by decide +kernel
theorem dX6_setRule_20 : decode cX6_setRule 20 = .ok (.aload_n 0, 1) := by decide +kernel
theorem dX6_setRule_21 : decode cX6_setRule 21 = .ok (.invokevirtual 85, 3) := by decide +kernel
theorem dX6_setRule_24 : decode cX6_setRule 24 = .ok (.aload_n 0, 1) := by decide +kernel
theorem dX6_setRule_25 : decode cX6_setRule 25 = .ok (.getfield 7, 3) := by decide +kernel
theorem dX6_setRule_28 : decode cX6_setRule 28 = .ok (.sipush 228, 3) := by decide +kernel
theorem dX6_setRule_31 : decode cX6_setRule 31 = .ok (.iaload, 1) := by decide +kernel
theorem dX6_setRule_32 : decode cX6_setRule 32 = .ok (.istore_n 2, 1) := by decide +kernel
theorem dX6_setRule_33 : decode cX6_setRule 33 = .ok (.aload_n 0, 1) := by decide +kernel
theorem dX6_setRule_34 : decode cX6_setRule 34 = .ok (.getfield 7, 3) := by decide +kernel
theorem dX6_setRule_37 : decode cX6_setRule 37 = .ok (.sipush 228, 3) := by decide +kernel
theorem dX6_setRule_40 : decode cX6_setRule 40 = .ok (.iload_n 1, 1) := by decide +kernel
theorem dX6_setRule_41 : decode cX6_setRule 41 = .ok (.iastore, 1) := by decide +kernel
theorem dX6_setRule_42 : decode cX6_setRule 42 = .ok (.iload_n 2, 1) := by decide +kernel
theorem dX6_setRule_43 : decode cX6_setRule 43 = .ok (.ireturn, 1) := by decide +kernel
theorem dX6_setCounts_0 : decode cX6_setCounts 0 = .ok (.aload_n 0, 1) := by decide +kernel
theorem dX6_setCounts_1 : decode cX6_setCounts 1 = .ok (.iconst 0, 1) := by decide +kernel
theorem dX6_setCounts_2 : decode cX6_setCounts 2 = .ok (.putfield 25, 3) := by decide +kernel
theorem dX6_setCounts_5 : decode cX6_setCounts 5 = .ok (.iload_n 1, 1) := by decide +kernel
theorem dX6_setCounts_6 : decode cX6_setCounts 6 = .ok (.iconst 4, 1) := by decide +kernel
theorem dX6_setCounts_7 : decode cX6_setCounts 7 = .ok (.sipush 400, 3) := by decide +kernel
theorem dX6_setCounts_10 : decode cX6_setCounts 10 = .ok (.invokestatic 29, 3) := by decide +kernel
theorem dX6_setCounts_13 : decode cX6_setCounts 13 = .ok (.ifCond .eq 9, 3) := by decide +kernel
theorem dX6_setCounts_16 : decode cX6_setCounts 16 = .ok (.iload_n 1, 1) := by decide +kernel
theorem dX6_setCounts_17 : decode cX6_setCounts 17 = .ok (.iconst 4, 1) := by decide +kernel
theorem dX6_setCounts_18 : decode cX6_setCounts 18 = .ok (.irem, 1) := by decide +kernel
theorem dX6_setCounts_19 : decode cX6_setCounts 19 = .ok (.ifCond .eq 9, 3) := by decide +kernel
theorem dX6_setCounts_22 : decode cX6_setCounts 22 = .ok (.aload_n 0, 1) := by decide +kernel
theorem dX6_setCounts_23 : decode cX6_setCounts 23 = .ok (.iconst 1, 1) := by decide +kernel
theorem dX6_setCounts_24 : decode cX6_setCounts 24 = .ok (.invokevirtual 79, 3) := by decide +kernel
theorem dX6_setCounts_27 : decode cX6_setCounts 27 = .ok (.ireturn, 1) := by decide +kernel
theorem dX6_setCounts_28 : decode cX6_setCounts 28 = .ok (.aload_n 0, 1) := by decide +kernel
theorem dX6_setCounts_29 : decode cX6_setCounts 29 = .ok (.invokevirtual 85, 3) := by decide +kernel
theorem dX6_setCounts_32 : decode cX6_setCounts 32 = .ok (.aload_n 0, 1) := by decide +kernel
theorem dX6_setCounts_33 : decode cX6_setCounts 33 = .ok (.getfield 7, 3) := by decide +kernel
theorem dX6_setCounts_36 : decode cX6_setCounts 36 = .ok (.sipush 229, 3) := by decide +kernel
theorem dX6_setCounts_39 : decode cX6_setCounts 39 = .ok (.iaload, 1) := by decide +kernel
theorem dX6_setCounts_40 : decode cX6_setCounts 40 = .ok (.istore_n 2, 1) := by decide +kernel
theorem dX6_setCounts_41 : decode cX6_setCounts 41 = .ok (.aload_n 0, 1) := by decide +kernel
theorem dX6_setCounts_42 : decode cX6_setCounts 42 = .ok (.getfield 7, 3) := by decide +kernel
theorem dX6_setCounts_45 : decode cX6_setCounts 45 = .ok (.sipush 229, 3) := by decide +kernel
theorem dX6_setCounts_48 : decode cX6_setCounts 48 = .ok (.iload_n 1, 1) := by decide +kernel
theorem dX6_setCounts_49 : decode cX6_setCounts 49 = .ok (.iastore, 1) := by decide +kernel
theorem dX6_setCounts_50 : decode cX6_setCounts 50 = .ok (.iload_n 2, 1) := by decide +kernel
theorem dX6_setCounts_51 : decode cX6_setCounts 51 = .ok (.ireturn, 1) := by decide +kernel
theorem dX6_type_0 : decode cX6_type 0 = .ok (.aload_n 0, 1) := by decide +kernel
theorem dX6_type_1 : decode cX6_type 1 = .ok (.iconst 0, 1) := by decide +kernel
theorem dX6_type_2 : decode cX6_type 2 = .ok (.putfield 25, 3) := by decide +kernel
theorem dX6_type_5 : decode cX6_type 5 = .ok (.aload_n 0, 1) := by decide +kernel
theorem dX6_type_6 : decode cX6_type 6 = .ok (.getfield 104, 3) := by decide +kernel
theorem dX6_type_9 : decode cX6_type 9 = .ok (.bipush 80, 2) := by decide +kernel
theorem dX6_type_11 : decode cX6_type 11 = .ok (.if_icmp .ne 9, 3) := by decide +kernel
theorem dX6_type_14 : decode cX6_type 14 = .ok (.aload_n 0, 1) := by decide +kernel
theorem dX6_type_15 : decode cX6_type 15 = .ok (.iconst 1, 1) := by decide +kernel
theorem dX6_type_16 : decode cX6_type 16 = .ok (.invokevirtual 79, 3) := by decide +kernel
theorem dX6_type_19 : decode cX6_type 19 = .ok (.ireturn, 1) := by decide +kernel
theorem dX6_type_20 : decode cX6_type 20 = .ok (.aload_n 0, 1) := by decide +kernel
theorem dX6_type_21 : decode cX6_type 21 = .ok (.getfield 22, 3) := by decide +kernel
theorem dX6_type_24 : decode cX6_type 24 = .ok (.aload_n 0, 1) := by decide +kernel
theorem dX6_type_25 : decode cX6_type 25 = .ok (.getfield 104, 3) := by decide +kernel
theorem dX6_type_28 : decode cX6_type 28 = .ok (.iload_n 1, 1) := by decide +kernel
theorem dX6_type_29 : decode cX6_type 29 = .ok (.iastore, 1) := by decide +kernel
theorem dX6_type_30 : decode cX6_type 30 = .ok (.aload_n 0, 1) := by decide +kernel
theorem dX6_type_31 : decode cX6_type 31 = .ok (.dup, 1) := by decide +kernel
theorem dX6_type_32 : decode cX6_type 32 = .ok (.getfield 104, 3) := by decide +kernel
theorem dX6_type_35 : decode cX6_type 35 = .ok (.iconst 1, 1) := by decide +kernel
theorem dX6_type_36 : decode cX6_type 36 = .ok (.iadd, 1) := by decide +kernel
theorem dX6_type_37 : decode cX6_type 37 = .ok (.putfield 104, 3) := by decide +kernel
theorem dX6_type_40 : decode cX6_type 40 = .ok (.aload_n 0, 1) := by decide +kernel
theorem dX6_type_41 : decode cX6_type 41 = .ok (.getfield 104, 3) := by decide +kernel
theorem dX6_type_44 : decode cX6_type 44 = .ok (.ireturn, 1) := by decide +kernel
theorem dX6_clearText_0 : decode cX6_clearText 0 = .ok (.aload_n 0, 1) := by decide +kernel
theorem dX6_clearText_1 : decode cX6_clearText 1 = .ok (.iconst 0, 1) := by decide +kernel
theorem dX6_clearText_2 : decode cX6_clearText 2 = .ok (.putfield 25, 3) := by decide +kernel
theorem dX6_clearText_5 : decode cX6_clearText 5 = .ok (.aload_n 0, 1) := by decide +kernel
theorem dX6_clearText_6 : decode cX6_clearText 6 = .ok (.getfield 104, 3) := by decide +kernel
theorem dX6_clearText_9 : decode cX6_clearText 9 = .ok (.istore_n 1, 1) := by decide +kernel
theorem dX6_clearText_10 : decode cX6_clearText 10 = .ok (.aload_n 0, 1) := by decide +kernel
theorem dX6_clearText_11 : decode cX6_clearText 11 = .ok (.iconst 0, 1) := by decide +kernel
theorem dX6_clearText_12 : decode cX6_clearText 12 = .ok (.putfield 104, 3) := by decide +kernel
theorem dX6_clearText_15 : decode cX6_clearText 15 = .ok (.iload_n 1, 1) := by decide +kernel
theorem dX6_clearText_16 : decode cX6_clearText 16 = .ok (.ireturn, 1) := by decide +kernel
theorem dX6_sign_0 : decode cX6_sign 0 = .ok (.aload_n 0, 1) := by decide +kernel
theorem dX6_sign_1 : decode cX6_sign 1 = .ok (.getfield 107, 3) := by decide +kernel
theorem dX6_sign_4 : decode cX6_sign 4 = .ok (.aload_n 0, 1) := by decide +kernel
theorem dX6_sign_5 : decode cX6_sign 5 = .ok (.getfield 104, 3) := by decide +kernel
theorem dX6_sign_8 : decode cX6_sign 8 = .ok (.if_icmp .ge 22, 3) := by decide +kernel
theorem dX6_sign_11 : decode cX6_sign 11 = .ok (.aload_n 0, 1) := by decide +kernel
theorem dX6_sign_12 : decode cX6_sign 12 = .ok (.getfield 110, 3) := by decide +kernel
theorem dX6_sign_15 : decode cX6_sign 15 = .ok (.ifCond .ne 15, 3) := by decide +kernel
theorem dX6_sign_18 : decode cX6_sign 18 = .ok (.aload_n 0, 1) := by decide +kernel
theorem dX6_sign_19 : decode cX6_sign 19 = .ok (.getfield 22, 3) := by decide +kernel
theorem dX6_sign_22 : decode cX6_sign 22 = .ok (.aload_n 0, 1) := by decide +kernel
theorem dX6_sign_23 : decode cX6_sign 23 = .ok (.getfield 107, 3) := by decide +kernel
theorem dX6_sign_26 : decode cX6_sign 26 = .ok (.iaload, 1) := by decide +kernel
theorem dX6_sign_27 : decode cX6_sign 27 = .ok (.goto 4, 3) := by decide +kernel
theorem dX6_sign_30 : decode cX6_sign 30 = .ok (.iconst 0, 1) := by decide +kernel
theorem dX6_sign_31 : decode cX6_sign 31 = .ok (.istore_n 3, 1) := by decide +kernel
theorem dX6_sign_32 : decode cX6_sign 32 = .ok (.aload_n 0, 1) := by decide +kernel
theorem dX6_sign_33 : decode cX6_sign 33 = .ok (.aload_n 0, 1) := by decide +kernel
theorem dX6_sign_34 : decode cX6_sign 34 = .ok (.getfield 110, 3) := by decide +kernel
theorem dX6_sign_37 : decode cX6_sign 37 = .ok (.ifCond .ne 12, 3) := by decide +kernel
theorem dX6_sign_40 : decode cX6_sign 40 = .ok (.iload_n 3, 1) := by decide +kernel
theorem dX6_sign_41 : decode cX6_sign 41 = .ok (.iload_n 1, 1) := by decide +kernel
theorem dX6_sign_42 : decode cX6_sign 42 = .ok (.iload_n 2, 1) := by decide +kernel
theorem dX6_sign_43 : decode cX6_sign 43 = .ok (.invokestatic 29, 3) := by decide +kernel
theorem dX6_sign_46 : decode cX6_sign 46 = .ok (.ifCond .ne 7, 3) := by decide +kernel
theorem dX6_sign_49 : decode cX6_sign 49 = .ok (.iconst 1, 1) := by decide +kernel
theorem dX6_sign_50 : decode cX6_sign 50 = .ok (.goto 4, 3) := by decide +kernel
theorem dX6_sign_53 : decode cX6_sign 53 = .ok (.iconst 0, 1) := by decide +kernel
theorem dX6_sign_54 : decode cX6_sign 54 = .ok (.putfield 110, 3) := by decide +kernel
theorem dX6_sign_57 : decode cX6_sign 57 = .ok (.aload_n 0, 1) := by decide +kernel
theorem dX6_sign_58 : decode cX6_sign 58 = .ok (.dup, 1) := by decide +kernel
theorem dX6_sign_59 : decode cX6_sign 59 = .ok (.getfield 107, 3) := by decide +kernel
theorem dX6_sign_62 : decode cX6_sign 62 = .ok (.aload_n 0, 1) := by decide +kernel
theorem dX6_sign_63 : decode cX6_sign 63 = .ok (.getfield 110, 3) := by decide +kernel
theorem dX6_sign_66 : decode cX6_sign 66 = .ok (.ifCond .eq 7, 3) := by decide +kernel
theorem dX6_sign_69 : decode cX6_sign 69 = .ok (.iconst 0, 1) := by decide +kernel
theorem dX6_sign_70 : decode cX6_sign 70 = .ok (.goto 4, 3) := by decide +kernel
theorem dX6_sign_73 : decode cX6_sign 73 = .ok (.iconst 1, 1) := by decide +kernel
theorem dX6_sign_74 : decode cX6_sign 74 = .ok (.iadd, 1) := by decide +kernel
theorem dX6_sign_75 : decode cX6_sign 75 = .ok (.putfield 107, 3) := by decide +kernel
theorem dX6_sign_78 : decode cX6_sign 78 = .ok (.iload_n 3, 1) := by decide +kernel
theorem dX6_sign_79 : decode cX6_sign 79 = .ok (.ireturn, 1) := by decide +kernel
theorem dX6_isNext_0 : decode cX6_isNext 0 = .ok (.aload_n 0, 1) := by decide +kernel
theorem dX6_isNext_1 : decode cX6_isNext 1 = .ok (.getfield 110, 3) := by decide +kernel
theorem dX6_isNext_4 : decode cX6_isNext 4 = .ok (.ifCond .ne 35, 3) := by decide +kernel
theorem dX6_isNext_7 : decode cX6_isNext 7 = .ok (.aload_n 0, 1) := by decide +kernel
theorem dX6_isNext_8 : decode cX6_isNext 8 = .ok (.getfield 107, 3) := by decide +kernel
theorem dX6_isNext_11 : decode cX6_isNext 11 = .ok (.aload_n 0, 1) := by decide +kernel
theorem dX6_isNext_12 : decode cX6_isNext 12 = .ok (.getfield 104, 3) := by decide +kernel
theorem dX6_isNext_15 : decode cX6_isNext 15 = .ok (.if_icmp .ge 24, 3) := by decide +kernel
theorem dX6_isNext_18 : decode cX6_isNext 18 = .ok (.aload_n 0, 1) := by decide +kernel
theorem dX6_isNext_19 : decode cX6_isNext 19 = .ok (.getfield 22, 3) := by decide +kernel
theorem dX6_isNext_22 : decode cX6_isNext 22 = .ok (.aload_n 0, 1) := by decide +kernel
theorem dX6_isNext_23 : decode cX6_isNext 23 = .ok (.getfield 107, 3) := by decide +kernel
theorem dX6_isNext_26 : decode cX6_isNext 26 = .ok (.iaload, 1) := by decide +kernel
theorem dX6_isNext_27 : decode cX6_isNext 27 = .ok (.iload_n 1, 1) := by decide +kernel
theorem dX6_isNext_28 : decode cX6_isNext 28 = .ok (.iload_n 2, 1) := by decide +kernel
theorem dX6_isNext_29 : decode cX6_isNext 29 = .ok (.invokestatic 29, 3) := by decide +kernel
theorem dX6_isNext_32 : decode cX6_isNext 32 = .ok (.ifCond .eq 7, 3) := by decide +kernel
theorem dX6_isNext_35 : decode cX6_isNext 35 = .ok (.iconst 1, 1) := by decide +kernel
theorem dX6_isNext_36 : decode cX6_isNext 36 = .ok (.goto 4, 3) := by decide +kernel
theorem dX6_isNext_39 : decode cX6_isNext 39 = .ok (.iconst 0, 1) := by decide +kernel
theorem dX6_isNext_40 : decode cX6_isNext 40 = .ok (.ireturn, 1) := by decide +kernel
theorem dX6_isFelt_0 : decode cX6_isFelt 0 = .ok (.aload_n 0, 1) := by decide +kernel
theorem dX6_isFelt_1 : decode cX6_isFelt 1 = .ok (.bipush 48, 2) := by decide +kernel
theorem dX6_isFelt_3 : decode cX6_isFelt 3 = .ok (.bipush 51, 2) := by decide +kernel
theorem dX6_isFelt_5 : decode cX6_isFelt 5 = .ok (.invokevirtual 114, 3) := by decide +kernel
theorem dX6_isFelt_8 : decode cX6_isFelt 8 = .ok (.bipush 48, 2) := by decide +kernel
theorem dX6_isFelt_10 : decode cX6_isFelt 10 = .ok (.isub, 1) := by decide +kernel
theorem dX6_isFelt_11 : decode cX6_isFelt 11 = .ok (.istore_n 3, 1) := by decide +kernel
theorem dX6_isFelt_12 : decode cX6_isFelt 12 = .ok (.aload_n 0, 1) := by decide +kernel
theorem dX6_isFelt_13 : decode cX6_isFelt 13 = .ok (.getfield 110, 3) := by decide +kernel
theorem dX6_isFelt_16 : decode cX6_isFelt 16 = .ok (.ifCond .ne 7, 3) := by decide +kernel
theorem dX6_isFelt_19 : decode cX6_isFelt 19 = .ok (.iload_n 2, 1) := by decide +kernel
theorem dX6_isFelt_20 : decode cX6_isFelt 20 = .ok (.ifCond .ne 5, 3) := by decide +kernel
theorem dX6_isFelt_23 : decode cX6_isFelt 23 = .ok (.iconst 1, 1) := by decide +kernel
theorem dX6_isFelt_24 : decode cX6_isFelt 24 = .ok (.ireturn, 1) := by decide +kernel
theorem dX6_isFelt_25 : decode cX6_isFelt 25 = .ok (.aload_n 0, 1) := by decide +kernel
theorem dX6_isFelt_26 : decode cX6_isFelt 26 = .ok (.iload_n 1, 1) := by decide +kernel
theorem dX6_isFelt_27 : decode cX6_isFelt 27 = .ok (.iload_n 3, 1) := by decide +kernel
theorem dX6_isFelt_28 : decode cX6_isFelt 28 = .ok (.iconst 1, 1) := by decide +kernel
theorem dX6_isFelt_29 : decode cX6_isFelt 29 = .ok (.invokevirtual 82, 3) := by decide +kernel
theorem dX6_isFelt_32 : decode cX6_isFelt 32 = .ok (.istore 4, 2) := by decide +kernel
theorem dX6_isFelt_34 : decode cX6_isFelt 34 = .ok (.iload 4, 2) := by decide +kernel
theorem dX6_isFelt_36 : decode cX6_isFelt 36 = .ok (.ifCond .eq 13, 3) := by decide +kernel
theorem dX6_isFelt_39 : decode cX6_isFelt 39 = .ok (.aload_n 0, 1) := by decide +kernel
theorem dX6_isFelt_40 : decode cX6_isFelt 40 = .ok (.iload_n 1, 1) := by decide +kernel
theorem dX6_isFelt_41 : decode cX6_isFelt 41 = .ok (.iload_n 3, 1) := by decide +kernel
theorem dX6_isFelt_42 : decode cX6_isFelt 42 = .ok (.iconst 1, 1) := by decide +kernel
theorem dX6_isFelt_43 : decode cX6_isFelt 43 = .ok (.invokevirtual 88, 3) := by decide +kernel
theorem dX6_isFelt_46 : decode cX6_isFelt 46 = .ok (.goto 4, 3) := by decide +kernel
theorem dX6_isFelt_49 : decode cX6_isFelt 49 = .ok (.iconst 0, 1) := by decide +kernel
theorem dX6_isFelt_50 : decode cX6_isFelt 50 = .ok (.istore 5, 2) := by decide +kernel
theorem dX6_isFelt_52 : decode cX6_isFelt 52 = .ok (.iload 4, 2) := by decide +kernel
theorem dX6_isFelt_54 : decode cX6_isFelt 54 = .ok (.ireturn, 1) := by decide +kernel
theorem dX6_isOrdered_0 : decode cX6_isOrdered 0 = .ok (.aload_n 0, 1) := by decide +kernel
theorem dX6_isOrdered_1 : decode cX6_isOrdered 1 = .ok (.bipush 48, 2) := by decide +kernel
theorem dX6_isOrdered_3 : decode cX6_isOrdered 3 = .ok (.bipush 51, 2) := by decide +kernel
theorem dX6_isOrdered_5 : decode cX6_isOrdered 5 = .ok (.invokevirtual 114, 3) := by decide +kernel
theorem dX6_isOrdered_8 : decode cX6_isOrdered 8 = .ok (.bipush 48, 2) := by decide +kernel
theorem dX6_isOrdered_10 : decode cX6_isOrdered 10 = .ok (.isub, 1) := by decide +kernel
theorem dX6_isOrdered_11 : decode cX6_isOrdered 11 = .ok (.istore_n 2, 1) := by decide +kernel
theorem dX6_isOrdered_12 : decode cX6_isOrdered 12 = .ok (.aload_n 0, 1) := by decide +kernel
theorem dX6_isOrdered_13 : decode cX6_isOrdered 13 = .ok (.bipush 58, 2) := by decide +kernel
theorem dX6_isOrdered_15 : decode cX6_isOrdered 15 = .ok (.bipush 58, 2) := by decide +kernel
theorem dX6_isOrdered_17 : decode cX6_isOrdered 17 = .ok (.invokevirtual 117, 3) := by decide +kernel
theorem dX6_isOrdered_20 : decode cX6_isOrdered 20 = .ok (.ifCond .eq 47, 3) := by decide +kernel
theorem dX6_isOrdered_23 : decode cX6_isOrdered 23 = .ok (.aload_n 0, 1) := by decide +kernel
theorem dX6_isOrdered_24 : decode cX6_isOrdered 24 = .ok (.dup, 1) := by decide +kernel
theorem dX6_isOrdered_25 : decode cX6_isOrdered 25 = .ok (.getfield 107, 3) := by decide +kernel
theorem dX6_isOrdered_28 : decode cX6_isOrdered 28 = .ok (.iconst 1, 1) := by decide +kernel
theorem dX6_isOrdered_29 : decode cX6_isOrdered 29 = .ok (.iadd, 1) := by decide +kernel
theorem dX6_isOrdered_30 : decode cX6_isOrdered 30 = .ok (.putfield 107, 3) := by decide +kernel
theorem dX6_isOrdered_33 : decode cX6_isOrdered 33 = .ok (.aload_n 0, 1) := by decide +kernel
theorem dX6_isOrdered_34 : decode cX6_isOrdered 34 = .ok (.iload_n 2, 1) := by decide +kernel
theorem dX6_isOrdered_35 : decode cX6_isOrdered 35 = .ok (.iload_n 1, 1) := by decide +kernel
theorem dX6_isOrdered_36 : decode cX6_isOrdered 36 = .ok (.invokevirtual 120, 3) := by decide +kernel
theorem dX6_isOrdered_39 : decode cX6_isOrdered 39 = .ok (.istore_n 3, 1) := by decide +kernel
theorem dX6_isOrdered_40 : decode cX6_isOrdered 40 = .ok (.iload_n 3, 1) := by decide +kernel
theorem dX6_isOrdered_41 : decode cX6_isOrdered 41 = .ok (.ifCond .eq 24, 3) := by decide +kernel
theorem dX6_isOrdered_44 : decode cX6_isOrdered 44 = .ok (.aload_n 0, 1) := by decide +kernel
theorem dX6_isOrdered_45 : decode cX6_isOrdered 45 = .ok (.bipush 48, 2) := by decide +kernel
theorem dX6_isOrdered_47 : decode cX6_isOrdered 47 = .ok (.bipush 51, 2) := by decide +kernel
theorem dX6_isOrdered_49 : decode cX6_isOrdered 49 = .ok (.invokevirtual 117, 3) := by decide +kernel
theorem dX6_isOrdered_52 : decode cX6_isOrdered 52 = .ok (.ifCond .eq 13, 3) := by decide +kernel
theorem dX6_isOrdered_55 : decode cX6_isOrdered 55 = .ok (.aload_n 0, 1) := by decide +kernel
theorem dX6_isOrdered_56 : decode cX6_isOrdered 56 = .ok (.iload_n 2, 1) := by decide +kernel
theorem dX6_isOrdered_57 : decode cX6_isOrdered 57 = .ok (.iload_n 1, 1) := by decide +kernel
theorem dX6_isOrdered_58 : decode cX6_isOrdered 58 = .ok (.invokevirtual 120, 3) := by decide +kernel
theorem dX6_isOrdered_61 : decode cX6_isOrdered 61 = .ok (.istore_n 3, 1) := by decide +kernel
theorem dX6_isOrdered_62 : decode cX6_isOrdered 62 = .ok (.goto (-22), 3) := by decide +kernel
theorem dX6_isOrdered_65 : decode cX6_isOrdered 65 = .ok (.iload_n 3, 1) := by decide +kernel
theorem dX6_isOrdered_66 : decode cX6_isOrdered 66 = .ok (.ireturn, 1) := by decide +kernel
theorem dX6_isOrdered_67 : decode cX6_isOrdered 67 = .ok (.aload_n 0, 1) := by decide +kernel
theorem dX6_isOrdered_68 : decode cX6_isOrdered 68 = .ok (.bipush 109, 2) := by decide +kernel
theorem dX6_isOrdered_70 : decode cX6_isOrdered 70 = .ok (.bipush 109, 2) := by decide +kernel
theorem dX6_isOrdered_72 : decode cX6_isOrdered 72 = .ok (.invokevirtual 117, 3) := by decide +kernel
theorem dX6_isOrdered_75 : decode cX6_isOrdered 75 = .ok (.ifCond .eq 29, 3) := by decide +kernel
theorem dX6_isOrdered_78 : decode cX6_isOrdered 78 = .ok (.aload_n 0, 1) := by decide +kernel
theorem dX6_isOrdered_79 : decode cX6_isOrdered 79 = .ok (.dup, 1) := by decide +kernel
theorem dX6_isOrdered_80 : decode cX6_isOrdered 80 = .ok (.getfield 107, 3) := by decide +kernel
theorem dX6_isOrdered_83 : decode cX6_isOrdered 83 = .ok (.iconst 1, 1) := by decide +kernel
theorem dX6_isOrdered_84 : decode cX6_isOrdered 84 = .ok (.iadd, 1) := by decide +kernel
theorem dX6_isOrdered_85 : decode cX6_isOrdered 85 = .ok (.putfield 107, 3) := by decide +kernel
theorem dX6_isOrdered_88 : decode cX6_isOrdered 88 = .ok (.iload_n 1, 1) := by decide +kernel
theorem dX6_isOrdered_89 : decode cX6_isOrdered 89 = .ok (.ifCond .eq 11, 3) := by decide +kernel
theorem dX6_isOrdered_92 : decode cX6_isOrdered 92 = .ok (.aload_n 0, 1) := by decide +kernel
theorem dX6_isOrdered_93 : decode cX6_isOrdered 93 = .ok (.iload_n 2, 1) := by decide +kernel
theorem dX6_isOrdered_94 : decode cX6_isOrdered 94 = .ok (.invokevirtual 95, 3) := by decide +kernel
theorem dX6_isOrdered_97 : decode cX6_isOrdered 97 = .ok (.goto 4, 3) := by decide +kernel
theorem dX6_isOrdered_100 : decode cX6_isOrdered 100 = .ok (.iconst 0, 1) := by decide +kernel
theorem dX6_isOrdered_101 : decode cX6_isOrdered 101 = .ok (.istore_n 3, 1) := by decide +kernel
theorem dX6_isOrdered_102 : decode cX6_isOrdered 102 = .ok (.iconst 1, 1) := by decide +kernel
theorem dX6_isOrdered_103 : decode cX6_isOrdered 103 = .ok (.ireturn, 1) := by decide +kernel
theorem dX6_isOrdered_104 : decode cX6_isOrdered 104 = .ok (.aload_n 0, 1) := by decide +kernel
theorem dX6_isOrdered_105 : decode cX6_isOrdered 105 = .ok (.bipush 98, 2) := by decide +kernel
theorem dX6_isOrdered_107 : decode cX6_isOrdered 107 = .ok (.bipush 98, 2) := by decide +kernel
theorem dX6_isOrdered_109 : decode cX6_isOrdered 109 = .ok (.invokevirtual 114, 3) := by decide +kernel
theorem dX6_isOrdered_112 : decode cX6_isOrdered 112 = .ok (.istore_n 3, 1) := by decide +kernel
theorem dX6_isOrdered_113 : decode cX6_isOrdered 113 = .ok (.aload_n 0, 1) := by decide +kernel
theorem dX6_isOrdered_114 : decode cX6_isOrdered 114 = .ok (.bipush 49, 2) := by decide +kernel
theorem dX6_isOrdered_116 : decode cX6_isOrdered 116 = .ok (.bipush 57, 2) := by decide +kernel
theorem dX6_isOrdered_118 : decode cX6_isOrdered 118 = .ok (.invokevirtual 114, 3) := by decide +kernel
theorem dX6_isOrdered_121 : decode cX6_isOrdered 121 = .ok (.bipush 48, 2) := by decide +kernel
theorem dX6_isOrdered_123 : decode cX6_isOrdered 123 = .ok (.isub, 1) := by decide +kernel
theorem dX6_isOrdered_124 : decode cX6_isOrdered 124 = .ok (.istore 4, 2) := by decide +kernel
theorem dX6_isOrdered_126 : decode cX6_isOrdered 126 = .ok (.iload 4, 2) := by decide +kernel
theorem dX6_isOrdered_128 : decode cX6_isOrdered 128 = .ok (.iconst 1, 1) := by decide +kernel
theorem dX6_isOrdered_129 : decode cX6_isOrdered 129 = .ok (.if_icmp .ne 31, 3) := by decide +kernel
theorem dX6_isOrdered_132 : decode cX6_isOrdered 132 = .ok (.aload_n 0, 1) := by decide +kernel
theorem dX6_isOrdered_133 : decode cX6_isOrdered 133 = .ok (.bipush 48, 2) := by decide +kernel
theorem dX6_isOrdered_135 : decode cX6_isOrdered 135 = .ok (.bipush 54, 2) := by decide +kernel
theorem dX6_isOrdered_137 : decode cX6_isOrdered 137 = .ok (.invokevirtual 117, 3) := by decide +kernel
theorem dX6_isOrdered_140 : decode cX6_isOrdered 140 = .ok (.ifCond .eq 20, 3) := by decide +kernel
theorem dX6_isOrdered_143 : decode cX6_isOrdered 143 = .ok (.bipush 10, 2) := by decide +kernel
theorem dX6_isOrdered_145 : decode cX6_isOrdered 145 = .ok (.aload_n 0, 1) := by decide +kernel
theorem dX6_isOrdered_146 : decode cX6_isOrdered 146 = .ok (.bipush 48, 2) := by decide +kernel
theorem dX6_isOrdered_148 : decode cX6_isOrdered 148 = .ok (.bipush 54, 2) := by decide +kernel
theorem dX6_isOrdered_150 : decode cX6_isOrdered 150 = .ok (.invokevirtual 114, 3) := by decide +kernel
theorem dX6_isOrdered_153 : decode cX6_isOrdered 153 = .ok (.iadd, 1) := by decide +kernel
theorem dX6_isOrdered_154 : decode cX6_isOrdered 154 = .ok (.bipush 48, 2) := by decide +kernel
theorem dX6_isOrdered_156 : decode cX6_isOrdered 156 = .ok (.isub, 1) := by decide +kernel
theorem dX6_isOrdered_157 : decode cX6_isOrdered 157 = .ok (.goto 5, 3) := by decide +kernel
theorem dX6_isOrdered_160 : decode cX6_isOrdered 160 = .ok (.iload 4, 2) := by decide +kernel
theorem dX6_isOrdered_162 : decode cX6_isOrdered 162 = .ok (.istore 4, 2) := by decide +kernel
theorem dX6_isOrdered_164 : decode cX6_isOrdered 164 = .ok (.iload_n 1, 1) := by decide +kernel
theorem dX6_isOrdered_165 : decode cX6_isOrdered 165 = .ok (.ifCond .eq 33, 3) := by decide +kernel
theorem dX6_isOrdered_168 : decode cX6_isOrdered 168 = .ok (.aload_n 0, 1) := by decide +kernel
theorem dX6_isOrdered_169 : decode cX6_isOrdered 169 = .ok (.iload_n 2, 1) := by decide +kernel
theorem dX6_isOrdered_170 : decode cX6_isOrdered 170 = .ok (.iload 4, 2) := by decide +kernel
theorem dX6_isOrdered_172 : decode cX6_isOrdered 172 = .ok (.invokevirtual 98, 3) := by decide +kernel
theorem dX6_isOrdered_175 : decode cX6_isOrdered 175 = .ok (.istore 5, 2) := by decide +kernel
theorem dX6_isOrdered_177 : decode cX6_isOrdered 177 = .ok (.iload 5, 2) := by decide +kernel
theorem dX6_isOrdered_179 : decode cX6_isOrdered 179 = .ok (.ifCond .eq 13, 3) := by decide +kernel
theorem dX6_isOrdered_182 : decode cX6_isOrdered 182 = .ok (.aload_n 0, 1) := by decide +kernel
theorem dX6_isOrdered_183 : decode cX6_isOrdered 183 = .ok (.iload_n 2, 1) := by decide +kernel
theorem dX6_isOrdered_184 : decode cX6_isOrdered 184 = .ok (.iload 4, 2) := by decide +kernel
theorem dX6_isOrdered_186 : decode cX6_isOrdered 186 = .ok (.invokevirtual 101, 3) := by decide +kernel
theorem dX6_isOrdered_189 : decode cX6_isOrdered 189 = .ok (.goto 4, 3) := by decide +kernel
theorem dX6_isOrdered_192 : decode cX6_isOrdered 192 = .ok (.iconst 0, 1) := by decide +kernel
theorem dX6_isOrdered_193 : decode cX6_isOrdered 193 = .ok (.istore 6, 2) := by decide +kernel
theorem dX6_isOrdered_195 : decode cX6_isOrdered 195 = .ok (.iload 5, 2) := by decide +kernel
theorem dX6_isOrdered_197 : decode cX6_isOrdered 197 = .ok (.ireturn, 1) := by decide +kernel
theorem dX6_isOrdered_198 : decode cX6_isOrdered 198 = .ok (.iconst 1, 1) := by decide +kernel
theorem dX6_isOrdered_199 : decode cX6_isOrdered 199 = .ok (.ireturn, 1) := by decide +kernel
theorem dX6_go_0 : decode cX6_go 0 = .ok (.aload_n 0, 1) := by decide +kernel
theorem dX6_go_1 : decode cX6_go 1 = .ok (.iconst 0, 1) := by decide +kernel
theorem dX6_go_2 : decode cX6_go 2 = .ok (.putfield 107, 3) := by decide +kernel
theorem dX6_go_5 : decode cX6_go 5 = .ok (.aload_n 0, 1) := by decide +kernel
theorem dX6_go_6 : decode cX6_go 6 = .ok (.iconst 0, 1) := by decide +kernel
theorem dX6_go_7 : decode cX6_go 7 = .ok (.putfield 110, 3) := by decide +kernel
theorem dX6_go_10 : decode cX6_go 10 = .ok (.aload_n 0, 1) := by decide +kernel
theorem dX6_go_11 : decode cX6_go 11 = .ok (.iconst 0, 1) := by decide +kernel
theorem dX6_go_12 : decode cX6_go 12 = .ok (.putfield 124, 3) := by decide +kernel
theorem dX6_go_15 : decode cX6_go 15 = .ok (.iconst 1, 1) := by decide +kernel
theorem dX6_go_16 : decode cX6_go 16 = .ok (.istore_n 2, 1) := by decide +kernel
theorem dX6_go_17 : decode cX6_go 17 = .ok (.iload_n 2, 1) := by decide +kernel
theorem dX6_go_18 : decode cX6_go 18 = .ok (.ifCond .eq 76, 3) := by decide +kernel
theorem dX6_go_21 : decode cX6_go 21 = .ok (.aload_n 0, 1) := by decide +kernel
theorem dX6_go_22 : decode cX6_go 22 = .ok (.iload_n 1, 1) := by decide +kernel
theorem dX6_go_23 : decode cX6_go 23 = .ok (.invokevirtual 127, 3) := by decide +kernel
theorem dX6_go_26 : decode cX6_go 26 = .ok (.ifCond .ne 5, 3) := by decide +kernel
theorem dX6_go_29 : decode cX6_go 29 = .ok (.iconst 0, 1) := by decide +kernel
theorem dX6_go_30 : decode cX6_go 30 = .ok (.ireturn, 1) := by decide +kernel
theorem dX6_go_31 : decode cX6_go 31 = .ok (.aload_n 0, 1) := by decide +kernel
theorem dX6_go_32 : decode cX6_go 32 = .ok (.dup, 1) := by decide +kernel
theorem dX6_go_33 : decode cX6_go 33 = .ok (.getfield 124, 3) := by decide +kernel
theorem dX6_go_36 : decode cX6_go 36 = .ok (.iconst 1, 1) := by decide +kernel
theorem dX6_go_37 : decode cX6_go 37 = .ok (.iadd, 1) := by decide +kernel
theorem dX6_go_38 : decode cX6_go 38 = .ok (.putfield 124, 3) := by decide +kernel
theorem dX6_go_41 : decode cX6_go 41 = .ok (.aload_n 0, 1) := by decide +kernel
theorem dX6_go_42 : decode cX6_go 42 = .ok (.getfield 110, 3) := by decide +kernel
theorem dX6_go_45 : decode cX6_go 45 = .ok (.ifCond .ne 18, 3) := by decide +kernel
theorem dX6_go_48 : decode cX6_go 48 = .ok (.aload_n 0, 1) := by decide +kernel
theorem dX6_go_49 : decode cX6_go 49 = .ok (.getfield 107, 3) := by decide +kernel
theorem dX6_go_52 : decode cX6_go 52 = .ok (.aload_n 0, 1) := by decide +kernel
theorem dX6_go_53 : decode cX6_go 53 = .ok (.getfield 104, 3) := by decide +kernel
theorem dX6_go_56 : decode cX6_go 56 = .ok (.if_icmp .ge 7, 3) := by decide +kernel
theorem dX6_go_59 : decode cX6_go 59 = .ok (.iconst 1, 1) := by decide +kernel
theorem dX6_go_60 : decode cX6_go 60 = .ok (.goto 4, 3) := by decide +kernel
theorem dX6_go_63 : decode cX6_go 63 = .ok (.iconst 0, 1) := by decide +kernel
theorem dX6_go_64 : decode cX6_go 64 = .ok (.istore_n 2, 1) := by decide +kernel
theorem dX6_go_65 : decode cX6_go 65 = .ok (.iload_n 2, 1) := by decide +kernel
theorem dX6_go_66 : decode cX6_go 66 = .ok (.ifCond .eq (-49), 3) := by decide +kernel
theorem dX6_go_69 : decode cX6_go 69 = .ok (.aload_n 0, 1) := by decide +kernel
theorem dX6_go_70 : decode cX6_go 70 = .ok (.bipush 59, 2) := by decide +kernel
theorem dX6_go_72 : decode cX6_go 72 = .ok (.bipush 59, 2) := by decide +kernel
theorem dX6_go_74 : decode cX6_go 74 = .ok (.invokevirtual 114, 3) := by decide +kernel
theorem dX6_go_77 : decode cX6_go 77 = .ok (.istore_n 3, 1) := by decide +kernel
theorem dX6_go_78 : decode cX6_go 78 = .ok (.aload_n 0, 1) := by decide +kernel
theorem dX6_go_79 : decode cX6_go 79 = .ok (.getfield 110, 3) := by decide +kernel
theorem dX6_go_82 : decode cX6_go 82 = .ok (.ifCond .ne 7, 3) := by decide +kernel
theorem dX6_go_85 : decode cX6_go 85 = .ok (.iconst 1, 1) := by decide +kernel
theorem dX6_go_86 : decode cX6_go 86 = .ok (.goto 4, 3) := by decide +kernel
theorem dX6_go_89 : decode cX6_go 89 = .ok (.iconst 0, 1) := by decide +kernel
theorem dX6_go_90 : decode cX6_go 90 = .ok (.istore_n 2, 1) := by decide +kernel
theorem dX6_go_91 : decode cX6_go 91 = .ok (.goto (-74), 3) := by decide +kernel
theorem dX6_go_94 : decode cX6_go 94 = .ok (.iconst 1, 1) := by decide +kernel
theorem dX6_go_95 : decode cX6_go 95 = .ok (.ireturn, 1) := by decide +kernel
theorem dX6_textError_0 : decode cX6_textError 0 = .ok (.aload_n 0, 1) := by decide +kernel
theorem dX6_textError_1 : decode cX6_textError 1 = .ok (.iconst 0, 1) := by decide +kernel
theorem dX6_textError_2 : decode cX6_textError 2 = .ok (.putfield 25, 3) := by decide +kernel
theorem dX6_textError_5 : decode cX6_textError 5 = .ok (.aload_n 0, 1) := by decide +kernel
theorem dX6_textError_6 : decode cX6_textError 6 = .ok (.iconst 0, 1) := by decide +kernel
theorem dX6_textError_7 : decode cX6_textError 7 = .ok (.invokevirtual 131, 3) := by decide +kernel
theorem dX6_textError_10 : decode cX6_textError 10 = .ok (.istore_n 1, 1) := by decide +kernel
theorem dX6_textError_11 : decode cX6_textError 11 = .ok (.aload_n 0, 1) := by decide +kernel
theorem dX6_textError_12 : decode cX6_textError 12 = .ok (.getfield 110, 3) := by decide +kernel
theorem dX6_textError_15 : decode cX6_textError 15 = .ok (.ifCond .eq 10, 3) := by decide +kernel
theorem dX6_textError_18 : decode cX6_textError 18 = .ok (.aload_n 0, 1) := by decide +kernel
theorem dX6_textError_19 : decode cX6_textError 19 = .ok (.getfield 107, 3) := by decide +kernel
theorem dX6_textError_22 : decode cX6_textError 22 = .ok (.goto 4, 3) := by decide +kernel
theorem dX6_textError_25 : decode cX6_textError 25 = .ok (.iconst (-1), 1) := by decide +kernel
theorem dX6_textError_26 : decode cX6_textError 26 = .ok (.ireturn, 1) := by decide +kernel
theorem dX6_isPossible_0 : decode cX6_isPossible 0 = .ok (.iconst 0, 1) := by decide +kernel
theorem dX6_isPossible_1 : decode cX6_isPossible 1 = .ok (.istore_n 1, 1) := by decide +kernel
theorem dX6_isPossible_2 : decode cX6_isPossible 2 = .ok (.iload_n 1, 1) := by decide +kernel
theorem dX6_isPossible_3 : decode cX6_isPossible 3 = .ok (.sipush 230, 3) := by decide +kernel
theorem dX6_isPossible_6 : decode cX6_isPossible 6 = .ok (.if_icmp .ge 21, 3) := by decide +kernel
theorem dX6_isPossible_9 : decode cX6_isPossible 9 = .ok (.aload_n 0, 1) := by decide +kernel
theorem dX6_isPossible_10 : decode cX6_isPossible 10 = .ok (.getfield 19, 3) := by decide +kernel
theorem dX6_isPossible_13 : decode cX6_isPossible 13 = .ok (.iload_n 1, 1) := by decide +kernel
theorem dX6_isPossible_14 : decode cX6_isPossible 14 = .ok (.aload_n 0, 1) := by decide +kernel
theorem dX6_isPossible_15 : decode cX6_isPossible 15 = .ok (.getfield 7, 3) := by decide +kernel
theorem dX6_isPossible_18 : decode cX6_isPossible 18 = .ok (.iload_n 1, 1) := by decide +kernel
theorem dX6_isPossible_19 : decode cX6_isPossible 19 = .ok (.iaload, 1) := by decide +kernel
theorem dX6_isPossible_20 : decode cX6_isPossible 20 = .ok (.iastore, 1) := by decide +kernel
theorem dX6_isPossible_21 : decode cX6_isPossible 21 = .ok (.iinc 1 1, 3) := by decide +kernel
theorem dX6_isPossible_24 : decode cX6_isPossible 24 = .ok (.goto (-22), 3) := by decide +kernel
theorem dX6_isPossible_27 : decode cX6_isPossible 27 = .ok (.aload_n 0, 1) := by decide +kernel
theorem dX6_isPossible_28 : decode cX6_isPossible 28 = .ok (.iconst 1, 1) := by decide +kernel
theorem dX6_isPossible_29 : decode cX6_isPossible 29 = .ok (.invokevirtual 131, 3) := by decide +kernel
theorem dX6_isPossible_32 : decode cX6_isPossible 32 = .ok (.istore_n 1, 1) := by decide +kernel
theorem dX6_isPossible_33 : decode cX6_isPossible 33 = .ok (.iconst 0, 1) := by decide +kernel
theorem dX6_isPossible_34 : decode cX6_isPossible 34 = .ok (.istore_n 2, 1) := by decide +kernel
theorem dX6_isPossible_35 : decode cX6_isPossible 35 = .ok (.iload_n 2, 1) := by decide +kernel
theorem dX6_isPossible_36 : decode cX6_isPossible 36 = .ok (.sipush 230, 3) := by decide +kernel
theorem dX6_isPossible_39 : decode cX6_isPossible 39 = .ok (.if_icmp .ge 21, 3) := by decide +kernel
theorem dX6_isPossible_42 : decode cX6_isPossible 42 = .ok (.aload_n 0, 1) := by decide +kernel
theorem dX6_isPossible_43 : decode cX6_isPossible 43 = .ok (.getfield 7, 3) := by decide +kernel
theorem dX6_isPossible_46 : decode cX6_isPossible 46 = .ok (.iload_n 2, 1) := by decide +kernel
theorem dX6_isPossible_47 : decode cX6_isPossible 47 = .ok (.aload_n 0, 1) := by decide +kernel
theorem dX6_isPossible_48 : decode cX6_isPossible 48 = .ok (.getfield 19, 3) := by decide +kernel
theorem dX6_isPossible_51 : decode cX6_isPossible 51 = .ok (.iload_n 2, 1) := by decide +kernel
theorem dX6_isPossible_52 : decode cX6_isPossible 52 = .ok (.iaload, 1) := by decide +kernel
theorem dX6_isPossible_53 : decode cX6_isPossible 53 = .ok (.iastore, 1) := by decide +kernel
theorem dX6_isPossible_54 : decode cX6_isPossible 54 = .ok (.iinc 2 1, 3) := by decide +kernel
theorem dX6_isPossible_57 : decode cX6_isPossible 57 = .ok (.goto (-22), 3) := by decide +kernel
theorem dX6_isPossible_60 : decode cX6_isPossible 60 = .ok (.iload_n 1, 1) := by decide +kernel
theorem dX6_isPossible_61 : decode cX6_isPossible 61 = .ok (.ireturn, 1) := by decide +kernel
theorem dX6_impossibleOrder_0 : decode cX6_impossibleOrder 0 = .ok (.aload_n 0, 1) := by decide +kernel
theorem dX6_impossibleOrder_1 : decode cX6_impossibleOrder 1 = .ok (.iconst 0, 1) := by decide +kernel
theorem dX6_impossibleOrder_2 : decode cX6_impossibleOrder 2 = .ok (.putfield 25, 3) := by decide +kernel
theorem dX6_impossibleOrder_5 : decode cX6_impossibleOrder 5 = .ok (.aload_n 0, 1) := by decide +kernel
theorem dX6_impossibleOrder_6 : decode cX6_impossibleOrder 6 = .ok (.iconst 0, 1) := by decide +kernel
theorem dX6_impossibleOrder_7 : decode cX6_impossibleOrder 7 = .ok (.invokevirtual 131, 3) := by decide +kernel
theorem dX6_impossibleOrder_10 : decode cX6_impossibleOrder 10 = .ok (.istore_n 1, 1) := by decide +kernel
theorem dX6_impossibleOrder_11 : decode cX6_impossibleOrder 11 = .ok (.aload_n 0, 1) := by decide +kernel
theorem dX6_impossibleOrder_12 : decode cX6_impossibleOrder 12 = .ok (.getfield 110, 3) := by decide +kernel
theorem dX6_impossibleOrder_15 : decode cX6_impossibleOrder 15 = .ok (.ifCond .eq 9, 3) := by decide +kernel
theorem dX6_impossibleOrder_18 : decode cX6_impossibleOrder 18 = .ok (.aload_n 0, 1) := by decide +kernel
theorem dX6_impossibleOrder_19 : decode cX6_impossibleOrder 19 = .ok (.iconst 1, 1) := by decide +kernel
theorem dX6_impossibleOrder_20 : decode cX6_impossibleOrder 20 = .ok (.invokevirtual 79, 3) := by decide +kernel
theorem dX6_impossibleOrder_23 : decode cX6_impossibleOrder 23 = .ok (.ireturn, 1) := by decide +kernel
theorem dX6_impossibleOrder_24 : decode cX6_impossibleOrder 24 = .ok (.aload_n 0, 1) := by decide +kernel
theorem dX6_impossibleOrder_25 : decode cX6_impossibleOrder 25 = .ok (.invokevirtual 134, 3) := by decide +kernel
theorem dX6_impossibleOrder_28 : decode cX6_impossibleOrder 28 = .ok (.ifCond .eq 7, 3) := by decide +kernel
theorem dX6_impossibleOrder_31 : decode cX6_impossibleOrder 31 = .ok (.iconst (-1), 1) := by decide +kernel
theorem dX6_impossibleOrder_32 : decode cX6_impossibleOrder 32 = .ok (.goto 7, 3) := by decide +kernel
theorem dX6_impossibleOrder_35 : decode cX6_impossibleOrder 35 = .ok (.aload_n 0, 1) := by decide +kernel
theorem dX6_impossibleOrder_36 : decode cX6_impossibleOrder 36 = .ok (.getfield 124, 3) := by decide +kernel
theorem dX6_impossibleOrder_39 : decode cX6_impossibleOrder 39 = .ok (.ireturn, 1) := by decide +kernel
theorem dX6_carryOut_0 : decode cX6_carryOut 0 = .ok (.aload_n 0, 1) := by decide +kernel
theorem dX6_carryOut_1 : decode cX6_carryOut 1 = .ok (.iconst 0, 1) := by decide +kernel
theorem dX6_carryOut_2 : decode cX6_carryOut 2 = .ok (.putfield 25, 3) := by decide +kernel
theorem dX6_carryOut_5 : decode cX6_carryOut 5 = .ok (.aload_n 0, 1) := by decide +kernel
theorem dX6_carryOut_6 : decode cX6_carryOut 6 = .ok (.iconst 0, 1) := by decide +kernel
theorem dX6_carryOut_7 : decode cX6_carryOut 7 = .ok (.invokevirtual 131, 3) := by decide +kernel
theorem dX6_carryOut_10 : decode cX6_carryOut 10 = .ok (.istore_n 1, 1) := by decide +kernel
theorem dX6_carryOut_11 : decode cX6_carryOut 11 = .ok (.aload_n 0, 1) := by decide +kernel
theorem dX6_carryOut_12 : decode cX6_carryOut 12 = .ok (.getfield 110, 3) := by decide +kernel
theorem dX6_carryOut_15 : decode cX6_carryOut 15 = .ok (.ifCond .ne 10, 3) := by decide +kernel
theorem dX6_carryOut_18 : decode cX6_carryOut 18 = .ok (.aload_n 0, 1) := by decide +kernel
theorem dX6_carryOut_19 : decode cX6_carryOut 19 = .ok (.invokevirtual 134, 3) := by decide +kernel
theorem dX6_carryOut_22 : decode cX6_carryOut 22 = .ok (.ifCond .ne 9, 3) := by decide +kernel
theorem dX6_carryOut_25 : decode cX6_carryOut 25 = .ok (.aload_n 0, 1) := by decide +kernel
theorem dX6_carryOut_26 : decode cX6_carryOut 26 = .ok (.iconst 1, 1) := by decide +kernel
theorem dX6_carryOut_27 : decode cX6_carryOut 27 = .ok (.invokevirtual 79, 3) := by decide +kernel
theorem dX6_carryOut_30 : decode cX6_carryOut 30 = .ok (.ireturn, 1) := by decide +kernel
theorem dX6_carryOut_31 : decode cX6_carryOut 31 = .ok (.aload_n 0, 1) := by decide +kernel
theorem dX6_carryOut_32 : decode cX6_carryOut 32 = .ok (.invokevirtual 85, 3) := by decide +kernel
theorem dX6_carryOut_35 : decode cX6_carryOut 35 = .ok (.aload_n 0, 1) := by decide +kernel
theorem dX6_carryOut_36 : decode cX6_carryOut 36 = .ok (.iconst 1, 1) := by decide +kernel
theorem dX6_carryOut_37 : decode cX6_carryOut 37 = .ok (.invokevirtual 131, 3) := by decide +kernel
theorem dX6_carryOut_40 : decode cX6_carryOut 40 = .ok (.istore_n 1, 1) := by decide +kernel
theorem dX6_carryOut_41 : decode cX6_carryOut 41 = .ok (.aload_n 0, 1) := by decide +kernel
theorem dX6_carryOut_42 : decode cX6_carryOut 42 = .ok (.getfield 124, 3) := by decide +kernel
theorem dX6_carryOut_45 : decode cX6_carryOut 45 = .ok (.ireturn, 1) := by decide +kernel
theorem dX6_undo_0 : decode cX6_undo 0 = .ok (.aload_n 0, 1) := by decide +kernel
theorem dX6_undo_1 : decode cX6_undo 1 = .ok (.iconst 0, 1) := by decide +kernel
theorem dX6_undo_2 : decode cX6_undo 2 = .ok (.putfield 25, 3) := by decide +kernel
theorem dX6_undo_5 : decode cX6_undo 5 = .ok (.aload_n 0, 1) := by decide +kernel
theorem dX6_undo_6 : decode cX6_undo 6 = .ok (.getfield 33, 3) := by decide +kernel
theorem dX6_undo_9 : decode cX6_undo 9 = .ok (.ifCond .ne 9, 3) := by decide +kernel
theorem dX6_undo_12 : decode cX6_undo 12 = .ok (.aload_n 0, 1) := by decide +kernel
theorem dX6_undo_13 : decode cX6_undo 13 = .ok (.iconst 1, 1) := by decide +kernel
theorem dX6_undo_14 : decode cX6_undo 14 = .ok (.invokevirtual 79, 3) := by decide +kernel
theorem dX6_undo_17 : decode cX6_undo 17 = .ok (.ireturn, 1) := by decide +kernel
theorem dX6_undo_18 : decode cX6_undo 18 = .ok (.aload_n 0, 1) := by decide +kernel
theorem dX6_undo_19 : decode cX6_undo 19 = .ok (.dup, 1) := by decide +kernel
theorem dX6_undo_20 : decode cX6_undo 20 = .ok (.getfield 33, 3) := by decide +kernel
theorem dX6_undo_23 : decode cX6_undo 23 = .ok (.iconst 1, 1) := by decide +kernel
theorem dX6_undo_24 : decode cX6_undo 24 = .ok (.isub, 1) := by decide +kernel
theorem dX6_undo_25 : decode cX6_undo 25 = .ok (.putfield 33, 3) := by decide +kernel
theorem dX6_undo_28 : decode cX6_undo 28 = .ok (.iconst 0, 1) := by decide +kernel
theorem dX6_undo_29 : decode cX6_undo 29 = .ok (.istore_n 1, 1) := by decide +kernel
theorem dX6_undo_30 : decode cX6_undo 30 = .ok (.iload_n 1, 1) := by decide +kernel
theorem dX6_undo_31 : decode cX6_undo 31 = .ok (.sipush 230, 3) := by decide +kernel
theorem dX6_undo_34 : decode cX6_undo 34 = .ok (.if_icmp .ge 30, 3) := by decide +kernel
theorem dX6_undo_37 : decode cX6_undo 37 = .ok (.aload_n 0, 1) := by decide +kernel
theorem dX6_undo_38 : decode cX6_undo 38 = .ok (.getfield 7, 3) := by decide +kernel
theorem dX6_undo_41 : decode cX6_undo 41 = .ok (.iload_n 1, 1) := by decide +kernel
theorem dX6_undo_42 : decode cX6_undo 42 = .ok (.aload_n 0, 1) := by decide +kernel
theorem dX6_undo_43 : decode cX6_undo 43 = .ok (.getfield 13, 3) := by decide +kernel
theorem dX6_undo_46 : decode cX6_undo 46 = .ok (.sipush 230, 3) := by decide +kernel
theorem dX6_undo_49 : decode cX6_undo 49 = .ok (.aload_n 0, 1) := by decide +kernel
theorem dX6_undo_50 : decode cX6_undo 50 = .ok (.getfield 33, 3) := by decide +kernel
theorem dX6_undo_53 : decode cX6_undo 53 = .ok (.imul, 1) := by decide +kernel
theorem dX6_undo_54 : decode cX6_undo 54 = .ok (.iload_n 1, 1) := by decide +kernel
theorem dX6_undo_55 : decode cX6_undo 55 = .ok (.iadd, 1) := by decide +kernel
theorem dX6_undo_56 : decode cX6_undo 56 = .ok (.iaload, 1) := by decide +kernel
theorem dX6_undo_57 : decode cX6_undo 57 = .ok (.iastore, 1) := by decide +kernel
theorem dX6_undo_58 : decode cX6_undo 58 = .ok (.iinc 1 1, 3) := by decide +kernel
theorem dX6_undo_61 : decode cX6_undo 61 = .ok (.goto (-31), 3) := by decide +kernel
theorem dX6_undo_64 : decode cX6_undo 64 = .ok (.aload_n 0, 1) := by decide +kernel
theorem dX6_undo_65 : decode cX6_undo 65 = .ok (.getfield 33, 3) := by decide +kernel
theorem dX6_undo_68 : decode cX6_undo 68 = .ok (.ireturn, 1) := by decide +kernel
theorem dX6_sum_0 : decode cX6_sum 0 = .ok (.aload_n 0, 1) := by decide +kernel
theorem dX6_sum_1 : decode cX6_sum 1 = .ok (.iconst 0, 1) := by decide +kernel
theorem dX6_sum_2 : decode cX6_sum 2 = .ok (.iconst 1, 1) := by decide +kernel
theorem dX6_sum_3 : decode cX6_sum 3 = .ok (.invokevirtual 40, 3) := by decide +kernel
theorem dX6_sum_6 : decode cX6_sum 6 = .ok (.aload_n 0, 1) := by decide +kernel
theorem dX6_sum_7 : decode cX6_sum 7 = .ok (.iconst 1, 1) := by decide +kernel
theorem dX6_sum_8 : decode cX6_sum 8 = .ok (.iconst 1, 1) := by decide +kernel
theorem dX6_sum_9 : decode cX6_sum 9 = .ok (.invokevirtual 40, 3) := by decide +kernel
theorem dX6_sum_12 : decode cX6_sum 12 = .ok (.iadd, 1) := by decide +kernel
theorem dX6_sum_13 : decode cX6_sum 13 = .ok (.aload_n 0, 1) := by decide +kernel
theorem dX6_sum_14 : decode cX6_sum 14 = .ok (.iconst 2, 1) := by decide +kernel
theorem dX6_sum_15 : decode cX6_sum 15 = .ok (.iconst 1, 1) := by decide +kernel
theorem dX6_sum_16 : decode cX6_sum 16 = .ok (.invokevirtual 40, 3) := by decide +kernel
theorem dX6_sum_19 : decode cX6_sum 19 = .ok (.iadd, 1) := by decide +kernel
theorem dX6_sum_20 : decode cX6_sum 20 = .ok (.aload_n 0, 1) := by decide +kernel
theorem dX6_sum_21 : decode cX6_sum 21 = .ok (.iconst 3, 1) := by decide +kernel
theorem dX6_sum_22 : decode cX6_sum 22 = .ok (.iconst 1, 1) := by decide +kernel
theorem dX6_sum_23 : decode cX6_sum 23 = .ok (.invokevirtual 40, 3) := by decide +kernel
theorem dX6_sum_26 : decode cX6_sum 26 = .ok (.iadd, 1) := by decide +kernel
theorem dX6_sum_27 : decode cX6_sum 27 = .ok (.ireturn, 1) := by decide +kernel
theorem dX6_takeSnapshot_0 : decode cX6_takeSnapshot 0 = .ok (.aload_n 0, 1) := by decide +kernel
theorem dX6_takeSnapshot_1 : decode cX6_takeSnapshot 1 = .ok (.iconst 0, 1) := by decide +kernel
theorem dX6_takeSnapshot_2 : decode cX6_takeSnapshot 2 = .ok (.putfield 25, 3) := by decide +kernel
theorem dX6_takeSnapshot_5 : decode cX6_takeSnapshot 5 = .ok (.iconst 0, 1) := by decide +kernel
theorem dX6_takeSnapshot_6 : decode cX6_takeSnapshot 6 = .ok (.istore_n 1, 1) := by decide +kernel
theorem dX6_takeSnapshot_7 : decode cX6_takeSnapshot 7 = .ok (.iload_n 1, 1) := by decide +kernel
theorem dX6_takeSnapshot_8 : decode cX6_takeSnapshot 8 = .ok (.sipush 230, 3) := by decide +kernel
theorem dX6_takeSnapshot_11 : decode cX6_takeSnapshot 11 = .ok (.if_icmp .ge 21, 3) := by decide +kernel
theorem dX6_takeSnapshot_14 : decode cX6_takeSnapshot 14 = .ok (.aload_n 0, 1) := by decide +kernel
theorem dX6_takeSnapshot_15 : decode cX6_takeSnapshot 15 = .ok (.getfield 16, 3) := by decide +kernel
theorem dX6_takeSnapshot_18 : decode cX6_takeSnapshot 18 = .ok (.iload_n 1, 1) := by decide +kernel
theorem dX6_takeSnapshot_19 : decode cX6_takeSnapshot 19 = .ok (.aload_n 0, 1) := by decide +kernel
theorem dX6_takeSnapshot_20 : decode cX6_takeSnapshot 20 = .ok (.getfield 7, 3) := by decide +kernel
theorem dX6_takeSnapshot_23 : decode cX6_takeSnapshot 23 = .ok (.iload_n 1, 1) := by decide +kernel
theorem dX6_takeSnapshot_24 : decode cX6_takeSnapshot 24 = .ok (.iaload, 1) := by decide +kernel
theorem dX6_takeSnapshot_25 : decode cX6_takeSnapshot 25 = .ok (.iastore, 1) := by decide +kernel
theorem dX6_takeSnapshot_26 : decode cX6_takeSnapshot 26 = .ok (.iinc 1 1, 3) := by decide +kernel
theorem dX6_takeSnapshot_29 : decode cX6_takeSnapshot 29 = .ok (.goto (-22), 3) := by decide +kernel
theorem dX6_takeSnapshot_32 : decode cX6_takeSnapshot 32 = .ok (.aload_n 0, 1) := by decide +kernel
theorem dX6_takeSnapshot_33 : decode cX6_takeSnapshot 33 = .ok (.iconst 1, 1) := by decide +kernel
theorem dX6_takeSnapshot_34 : decode cX6_takeSnapshot 34 = .ok (.putfield 138, 3) := by decide +kernel
theorem dX6_takeSnapshot_37 : decode cX6_takeSnapshot 37 = .ok (.aload_n 0, 1) := by decide +kernel
theorem dX6_takeSnapshot_38 : decode cX6_takeSnapshot 38 = .ok (.invokevirtual 141, 3) := by decide +kernel
theorem dX6_takeSnapshot_41 : decode cX6_takeSnapshot 41 = .ok (.ireturn, 1) := by decide +kernel
theorem dX6_restoreSnapshot_0 : decode cX6_restoreSnapshot 0 = .ok (.aload_n 0, 1) := by decide +kernel
theorem dX6_restoreSnapshot_1 : decode cX6_restoreSnapshot 1 = .ok (.iconst 0, 1) := by decide +kernel
theorem dX6_restoreSnapshot_2 : decode cX6_restoreSnapshot 2 = .ok (.putfield 25, 3) := by decide +kernel
theorem dX6_restoreSnapshot_5 : decode cX6_restoreSnapshot 5 = .ok (.aload_n 0, 1) := by decide +kernel
theorem dX6_restoreSnapshot_6 : decode cX6_restoreSnapshot 6 = .ok (.getfield 138, 3) := by decide +kernel
theorem dX6_restoreSnapshot_9 : decode cX6_restoreSnapshot 9 = .ok (.ifCond .ne 9, 3) := by decide +kernel
theorem dX6_restoreSnapshot_12 : decode cX6_restoreSnapshot 12 = .ok (.aload_n 0, 1) := by decide +kernel
theorem dX6_restoreSnapshot_13 : decode cX6_restoreSnapshot 13 = .ok (.iconst 1, 1) := by decide +kernel
theorem dX6_restoreSnapshot_14 : decode cX6_restoreSnapshot 14 = .ok (.invokevirtual 79, 3) := by decide +kernel
theorem dX6_restoreSnapshot_17 : decode cX6_restoreSnapshot 17 = .ok (.ireturn, 1) := by decide +kernel
theorem dX6_restoreSnapshot_18 : decode cX6_restoreSnapshot 18 = .ok (.aload_n 0, 1) := by decide +kernel
theorem dX6_restoreSnapshot_19 : decode cX6_restoreSnapshot 19 = .ok (.invokevirtual 85, 3) := by decide +kernel
theorem dX6_restoreSnapshot_22 : decode cX6_restoreSnapshot 22 = .ok (.iconst 0, 1) := by decide +kernel
theorem dX6_restoreSnapshot_23 : decode cX6_restoreSnapshot 23 = .ok (.istore_n 1, 1) := by decide +kernel
theorem dX6_restoreSnapshot_24 : decode cX6_restoreSnapshot 24 = .ok (.iload_n 1, 1) := by decide +kernel
theorem dX6_restoreSnapshot_25 : decode cX6_restoreSnapshot 25 = .ok (.sipush 230, 3) := by decide +kernel
theorem dX6_restoreSnapshot_28 : decode cX6_restoreSnapshot 28 = .ok (.if_icmp .ge 21, 3) := by decide +kernel
theorem dX6_restoreSnapshot_31 : decode cX6_restoreSnapshot 31 = .ok (.aload_n 0, 1) := by decide +kernel
theorem dX6_restoreSnapshot_32 : decode cX6_restoreSnapshot 32 = .ok (.getfield 7, 3) := by decide +kernel
theorem dX6_restoreSnapshot_35 : decode cX6_restoreSnapshot 35 = .ok (.iload_n 1, 1) := by decide +kernel
theorem dX6_restoreSnapshot_36 : decode cX6_restoreSnapshot 36 = .ok (.aload_n 0, 1) := by decide +kernel
theorem dX6_restoreSnapshot_37 : decode cX6_restoreSnapshot 37 = .ok (.getfield 16, 3) := by decide +kernel
theorem dX6_restoreSnapshot_40 : decode cX6_restoreSnapshot 40 = .ok (.iload_n 1, 1) := by decide +kernel
theorem dX6_restoreSnapshot_41 : decode cX6_restoreSnapshot 41 = .ok (.iaload, 1) := by decide +kernel
theorem dX6_restoreSnapshot_42 : decode cX6_restoreSnapshot 42 = .ok (.iastore, 1) := by decide +kernel
theorem dX6_restoreSnapshot_43 : decode cX6_restoreSnapshot 43 = .ok (.iinc 1 1, 3) := by decide +kernel
theorem dX6_restoreSnapshot_46 : decode cX6_restoreSnapshot 46 = .ok (.goto (-22), 3) := by decide +kernel
theorem dX6_restoreSnapshot_49 : decode cX6_restoreSnapshot 49 = .ok (.aload_n 0, 1) := by decide +kernel
theorem dX6_restoreSnapshot_50 : decode cX6_restoreSnapshot 50 = .ok (.invokevirtual 141, 3) := by decide +kernel
theorem dX6_restoreSnapshot_53 : decode cX6_restoreSnapshot 53 = .ok (.ireturn, 1) := by decide +kernel
theorem dX6_told_0 : decode cX6_told 0 = .ok (.aload_n 0, 1) := by decide +kernel
theorem dX6_told_1 : decode cX6_told 1 = .ok (.iload_n 1, 1) := by decide +kernel
theorem dX6_told_2 : decode cX6_told 2 = .ok (.invokevirtual 75, 3) := by decide +kernel
theorem dX6_told_5 : decode cX6_told 5 = .ok (.ifCond .eq 12, 3) := by decide +kernel
theorem dX6_told_8 : decode cX6_told 8 = .ok (.aload_n 0, 1) := by decide +kernel
theorem dX6_told_9 : decode cX6_told 9 = .ok (.iload_n 1, 1) := by decide +kernel
theorem dX6_told_10 : decode cX6_told 10 = .ok (.iload_n 2, 1) := by decide +kernel
theorem dX6_told_11 : decode cX6_told 11 = .ok (.invokevirtual 40, 3) := by decide +kernel
theorem dX6_told_14 : decode cX6_told 14 = .ok (.goto 4, 3) := by decide +kernel
theorem dX6_told_17 : decode cX6_told 17 = .ok (.iconst 0, 1) := by decide +kernel
theorem dX6_told_18 : decode cX6_told 18 = .ok (.ireturn, 1) := by decide +kernel
theorem dX6_stateOf_0 : decode cX6_stateOf 0 = .ok (.aload_n 0, 1) := by decide +kernel
theorem dX6_stateOf_1 : decode cX6_stateOf 1 = .ok (.iload_n 1, 1) := by decide +kernel
theorem dX6_stateOf_2 : decode cX6_stateOf 2 = .ok (.iconst 0, 1) := by decide +kernel
theorem dX6_stateOf_3 : decode cX6_stateOf 3 = .ok (.invokevirtual 145, 3) := by decide +kernel
theorem dX6_stateOf_6 : decode cX6_stateOf 6 = .ok (.ireturn, 1) := by decide +kernel
theorem dX6_positionOf_0 : decode cX6_positionOf 0 = .ok (.aload_n 0, 1) := by decide +kernel
theorem dX6_positionOf_1 : decode cX6_positionOf 1 = .ok (.iload_n 1, 1) := by decide +kernel
theorem dX6_positionOf_2 : decode cX6_positionOf 2 = .ok (.iconst 1, 1) := by decide +kernel
theorem dX6_positionOf_3 : decode cX6_positionOf 3 = .ok (.invokevirtual 145, 3) := by decide +kernel
theorem dX6_positionOf_6 : decode cX6_positionOf 6 = .ok (.ireturn, 1) := by decide +kernel
theorem dX6_positionByTracks_0 : decode cX6_positionByTracks 0 = .ok (.aload_n 0, 1) := by decide +kernel
theorem dX6_positionByTracks_1 : decode cX6_positionByTracks 1 = .ok (.iload_n 1, 1) := by decide +kernel
theorem dX6_positionByTracks_2 : decode cX6_positionByTracks 2 = .ok (.iconst 1, 1) := by decide +kernel
theorem dX6_positionByTracks_3 : decode cX6_positionByTracks 3 = .ok (.invokevirtual 145, 3) := by decide +kernel
theorem dX6_positionByTracks_6 : decode cX6_positionByTracks 6 = .ok (.ireturn, 1) := by decide +kernel
theorem dX6_turnsOf_0 : decode cX6_turnsOf 0 = .ok (.aload_n 0, 1) := by decide +kernel
theorem dX6_turnsOf_1 : decode cX6_turnsOf 1 = .ok (.iload_n 1, 1) := by decide +kernel
theorem dX6_turnsOf_2 : decode cX6_turnsOf 2 = .ok (.invokevirtual 75, 3) := by decide +kernel
theorem dX6_turnsOf_5 : decode cX6_turnsOf 5 = .ok (.ifCond .eq 27, 3) := by decide +kernel
theorem dX6_turnsOf_8 : decode cX6_turnsOf 8 = .ok (.aload_n 0, 1) := by decide +kernel
theorem dX6_turnsOf_9 : decode cX6_turnsOf 9 = .ok (.iload_n 1, 1) := by decide +kernel
theorem dX6_turnsOf_10 : decode cX6_turnsOf 10 = .ok (.iconst 1, 1) := by decide +kernel
theorem dX6_turnsOf_11 : decode cX6_turnsOf 11 = .ok (.invokevirtual 40, 3) := by decide +kernel
theorem dX6_turnsOf_14 : decode cX6_turnsOf 14 = .ok (.aload_n 0, 1) := by decide +kernel
theorem dX6_turnsOf_15 : decode cX6_turnsOf 15 = .ok (.iload_n 1, 1) := by decide +kernel
theorem dX6_turnsOf_16 : decode cX6_turnsOf 16 = .ok (.invokevirtual 72, 3) := by decide +kernel
theorem dX6_turnsOf_19 : decode cX6_turnsOf 19 = .ok (.isub, 1) := by decide +kernel
theorem dX6_turnsOf_20 : decode cX6_turnsOf 20 = .ok (.aload_n 0, 1) := by decide +kernel
theorem dX6_turnsOf_21 : decode cX6_turnsOf 21 = .ok (.getfield 7, 3) := by decide +kernel
theorem dX6_turnsOf_24 : decode cX6_turnsOf 24 = .ok (.sipush 229, 3) := by decide +kernel
theorem dX6_turnsOf_27 : decode cX6_turnsOf 27 = .ok (.iaload, 1) := by decide +kernel
theorem dX6_turnsOf_28 : decode cX6_turnsOf 28 = .ok (.idiv, 1) := by decide +kernel
theorem dX6_turnsOf_29 : decode cX6_turnsOf 29 = .ok (.goto 4, 3) := by decide +kernel
theorem dX6_turnsOf_32 : decode cX6_turnsOf 32 = .ok (.iconst 0, 1) := by decide +kernel
theorem dX6_turnsOf_33 : decode cX6_turnsOf 33 = .ok (.ireturn, 1) := by decide +kernel
theorem dX6_placeOf_0 : decode cX6_placeOf 0 = .ok (.aload_n 0, 1) := by decide +kernel
theorem dX6_placeOf_1 : decode cX6_placeOf 1 = .ok (.iload_n 1, 1) := by decide +kernel
theorem dX6_placeOf_2 : decode cX6_placeOf 2 = .ok (.invokevirtual 75, 3) := by decide +kernel
theorem dX6_placeOf_5 : decode cX6_placeOf 5 = .ok (.ifCond .eq 11, 3) := by decide +kernel
theorem dX6_placeOf_8 : decode cX6_placeOf 8 = .ok (.aload_n 0, 1) := by decide +kernel
theorem dX6_placeOf_9 : decode cX6_placeOf 9 = .ok (.iload_n 1, 1) := by decide +kernel
theorem dX6_placeOf_10 : decode cX6_placeOf 10 = .ok (.invokevirtual 72, 3) := by decide +kernel
theorem dX6_placeOf_13 : decode cX6_placeOf 13 = .ok (.goto 4, 3) := by decide +kernel
theorem dX6_placeOf_16 : decode cX6_placeOf 16 = .ok (.iconst 0, 1) := by decide +kernel
theorem dX6_placeOf_17 : decode cX6_placeOf 17 = .ok (.ireturn, 1) := by decide +kernel
theorem dX6_directionOf_0 : decode cX6_directionOf 0 = .ok (.aload_n 0, 1) := by decide +kernel
theorem dX6_directionOf_1 : decode cX6_directionOf 1 = .ok (.iload_n 1, 1) := by decide +kernel
theorem dX6_directionOf_2 : decode cX6_directionOf 2 = .ok (.iconst 2, 1) := by decide +kernel
theorem dX6_directionOf_3 : decode cX6_directionOf 3 = .ok (.invokevirtual 145, 3) := by decide +kernel
theorem dX6_directionOf_6 : decode cX6_directionOf 6 = .ok (.ireturn, 1) := by decide +kernel
theorem dX6_countOfA_0 : decode cX6_countOfA 0 = .ok (.aload_n 0, 1) := by decide +kernel
theorem dX6_countOfA_1 : decode cX6_countOfA 1 = .ok (.iload_n 1, 1) := by decide +kernel
theorem dX6_countOfA_2 : decode cX6_countOfA 2 = .ok (.bipush 7, 2) := by decide +kernel
theorem dX6_countOfA_4 : decode cX6_countOfA 4 = .ok (.invokevirtual 145, 3) := by decide +kernel
theorem dX6_countOfA_7 : decode cX6_countOfA 7 = .ok (.ireturn, 1) := by decide +kernel
theorem dX6_leader_0 : decode cX6_leader 0 = .ok (.aload_n 0, 1) := by decide +kernel
theorem dX6_leader_1 : decode cX6_leader 1 = .ok (.iconst 0, 1) := by decide +kernel
theorem dX6_leader_2 : decode cX6_leader 2 = .ok (.putfield 25, 3) := by decide +kernel
theorem dX6_leader_5 : decode cX6_leader 5 = .ok (.iconst 0, 1) := by decide +kernel
theorem dX6_leader_6 : decode cX6_leader 6 = .ok (.istore_n 1, 1) := by decide +kernel
theorem dX6_leader_7 : decode cX6_leader 7 = .ok (.iconst 1, 1) := by decide +kernel
theorem dX6_leader_8 : decode cX6_leader 8 = .ok (.istore_n 2, 1) := by decide +kernel
theorem dX6_leader_9 : decode cX6_leader 9 = .ok (.iload_n 2, 1) := by decide +kernel
theorem dX6_leader_10 : decode cX6_leader 10 = .ok (.iconst 4, 1) := by decide +kernel
theorem dX6_leader_11 : decode cX6_leader 11 = .ok (.if_icmp .ge 30, 3) := by decide +kernel
theorem dX6_leader_14 : decode cX6_leader 14 = .ok (.aload_n 0, 1) := by decide +kernel
theorem dX6_leader_15 : decode cX6_leader 15 = .ok (.iload_n 2, 1) := by decide +kernel
theorem dX6_leader_16 : decode cX6_leader 16 = .ok (.iconst 1, 1) := by decide +kernel
theorem dX6_leader_17 : decode cX6_leader 17 = .ok (.invokevirtual 40, 3) := by decide +kernel
theorem dX6_leader_20 : decode cX6_leader 20 = .ok (.aload_n 0, 1) := by decide +kernel
theorem dX6_leader_21 : decode cX6_leader 21 = .ok (.iload_n 1, 1) := by decide +kernel
theorem dX6_leader_22 : decode cX6_leader 22 = .ok (.iconst 1, 1) := by decide +kernel
theorem dX6_leader_23 : decode cX6_leader 23 = .ok (.invokevirtual 40, 3) := by decide +kernel
theorem dX6_leader_26 : decode cX6_leader 26 = .ok (.if_icmp .le 7, 3) := by decide +kernel
theorem dX6_leader_29 : decode cX6_leader 29 = .ok (.iload_n 2, 1) := by decide +kernel
theorem dX6_leader_30 : decode cX6_leader 30 = .ok (.goto 4, 3) := by decide +kernel
theorem dX6_leader_33 : decode cX6_leader 33 = .ok (.iload_n 1, 1) := by decide +kernel
theorem dX6_leader_34 : decode cX6_leader 34 = .ok (.istore_n 1, 1) := by decide +kernel
theorem dX6_leader_35 : decode cX6_leader 35 = .ok (.iinc 2 1, 3) := by decide +kernel
theorem dX6_leader_38 : decode cX6_leader 38 = .ok (.goto (-29), 3) := by decide +kernel
theorem dX6_leader_41 : decode cX6_leader 41 = .ok (.iload_n 1, 1) := by decide +kernel
theorem dX6_leader_42 : decode cX6_leader 42 = .ok (.ireturn, 1) := by decide +kernel
theorem dX6_stepTo_0 : decode cX6_stepTo 0 = .ok (.aload_n 0, 1) := by decide +kernel
theorem dX6_stepTo_1 : decode cX6_stepTo 1 = .ok (.iload_n 1, 1) := by decide +kernel
theorem dX6_stepTo_2 : decode cX6_stepTo 2 = .ok (.invokevirtual 75, 3) := by decide +kernel
theorem dX6_stepTo_5 : decode cX6_stepTo 5 = .ok (.ifCond .ne 5, 3) := by decide +kernel
theorem dX6_stepTo_8 : decode cX6_stepTo 8 = .ok (.iconst 0, 1) := by decide +kernel
theorem dX6_stepTo_9 : decode cX6_stepTo 9 = .ok (.ireturn, 1) := by decide +kernel
theorem dX6_stepTo_10 : decode cX6_stepTo 10 = .ok (.iload_n 2, 1) := by decide +kernel
theorem dX6_stepTo_11 : decode cX6_stepTo 11 = .ok (.iconst 0, 1) := by decide +kernel
theorem dX6_stepTo_12 : decode cX6_stepTo 12 = .ok (.iconst 3, 1) := by decide +kernel
theorem dX6_stepTo_13 : decode cX6_stepTo 13 = .ok (.invokestatic 29, 3) := by decide +kernel
theorem dX6_stepTo_16 : decode cX6_stepTo 16 = .ok (.ifCond .eq 12, 3) := by decide +kernel
theorem dX6_stepTo_19 : decode cX6_stepTo 19 = .ok (.aload_n 0, 1) := by decide +kernel
theorem dX6_stepTo_20 : decode cX6_stepTo 20 = .ok (.iload_n 1, 1) := by decide +kernel
theorem dX6_stepTo_21 : decode cX6_stepTo 21 = .ok (.iload_n 2, 1) := by decide +kernel
theorem dX6_stepTo_22 : decode cX6_stepTo 22 = .ok (.invokevirtual 48, 3) := by decide +kernel
theorem dX6_stepTo_25 : decode cX6_stepTo 25 = .ok (.goto 8, 3) := by decide +kernel
theorem dX6_stepTo_28 : decode cX6_stepTo 28 = .ok (.aload_n 0, 1) := by decide +kernel
theorem dX6_stepTo_29 : decode cX6_stepTo 29 = .ok (.iconst 2, 1) := by decide +kernel
theorem dX6_stepTo_30 : decode cX6_stepTo 30 = .ok (.invokevirtual 79, 3) := by decide +kernel
theorem dX6_stepTo_33 : decode cX6_stepTo 33 = .ok (.ireturn, 1) := by decide +kernel
theorem dX6_logLength_0 : decode cX6_logLength 0 = .ok (.aload_n 0, 1) := by decide +kernel
theorem dX6_logLength_1 : decode cX6_logLength 1 = .ok (.iload_n 1, 1) := by decide +kernel
theorem dX6_logLength_2 : decode cX6_logLength 2 = .ok (.bipush 8, 2) := by decide +kernel
theorem dX6_logLength_4 : decode cX6_logLength 4 = .ok (.invokevirtual 145, 3) := by decide +kernel
theorem dX6_logLength_7 : decode cX6_logLength 7 = .ok (.ireturn, 1) := by decide +kernel
theorem dX6_loggedStep_0 : decode cX6_loggedStep 0 = .ok (.aload_n 0, 1) := by decide +kernel
theorem dX6_loggedStep_1 : decode cX6_loggedStep 1 = .ok (.iload_n 1, 1) := by decide +kernel
theorem dX6_loggedStep_2 : decode cX6_loggedStep 2 = .ok (.invokevirtual 75, 3) := by decide +kernel
theorem dX6_loggedStep_5 : decode cX6_loggedStep 5 = .ok (.ifCond .ne 5, 3) := by decide +kernel
theorem dX6_loggedStep_8 : decode cX6_loggedStep 8 = .ok (.iconst 0, 1) := by decide +kernel
theorem dX6_loggedStep_9 : decode cX6_loggedStep 9 = .ok (.ireturn, 1) := by decide +kernel
theorem dX6_loggedStep_10 : decode cX6_loggedStep 10 = .ok (.iload_n 2, 1) := by decide +kernel
theorem dX6_loggedStep_11 : decode cX6_loggedStep 11 = .ok (.iconst 0, 1) := by decide +kernel
theorem dX6_loggedStep_12 : decode cX6_loggedStep 12 = .ok (.aload_n 0, 1) := by decide +kernel
theorem dX6_loggedStep_13 : decode cX6_loggedStep 13 = .ok (.iload_n 1, 1) := by decide +kernel
theorem dX6_loggedStep_14 : decode cX6_loggedStep 14 = .ok (.bipush 8, 2) := by decide +kernel
theorem dX6_loggedStep_16 : decode cX6_loggedStep 16 = .ok (.invokevirtual 40, 3) := by decide +kernel
theorem dX6_loggedStep_19 : decode cX6_loggedStep 19 = .ok (.iconst 1, 1) := by decide +kernel
theorem dX6_loggedStep_20 : decode cX6_loggedStep 20 = .ok (.isub, 1) := by decide +kernel
theorem dX6_loggedStep_21 : decode cX6_loggedStep 21 = .ok (.invokestatic 29, 3) := by decide +kernel
theorem dX6_loggedStep_24 : decode cX6_loggedStep 24 = .ok (.ifCond .eq 17, 3) := by decide +kernel
theorem dX6_loggedStep_27 : decode cX6_loggedStep 27 = .ok (.aload_n 0, 1) := by decide +kernel
theorem dX6_loggedStep_28 : decode cX6_loggedStep 28 = .ok (.iload_n 1, 1) := by decide +kernel
theorem dX6_loggedStep_29 : decode cX6_loggedStep 29 = .ok (.bipush 9, 2) := by decide +kernel
theorem dX6_loggedStep_31 : decode cX6_loggedStep 31 = .ok (.iconst 3, 1) := by decide +kernel
theorem dX6_loggedStep_32 : decode cX6_loggedStep 32 = .ok (.iload_n 2, 1) := by decide +kernel
theorem dX6_loggedStep_33 : decode cX6_loggedStep 33 = .ok (.imul, 1) := by decide +kernel
theorem dX6_loggedStep_34 : decode cX6_loggedStep 34 = .ok (.iadd, 1) := by decide +kernel
theorem dX6_loggedStep_35 : decode cX6_loggedStep 35 = .ok (.invokevirtual 40, 3) := by decide +kernel
theorem dX6_loggedStep_38 : decode cX6_loggedStep 38 = .ok (.goto 8, 3) := by decide +kernel
theorem dX6_loggedStep_41 : decode cX6_loggedStep 41 = .ok (.aload_n 0, 1) := by decide +kernel
theorem dX6_loggedStep_42 : decode cX6_loggedStep 42 = .ok (.iconst 1, 1) := by decide +kernel
theorem dX6_loggedStep_43 : decode cX6_loggedStep 43 = .ok (.invokevirtual 79, 3) := by decide +kernel
theorem dX6_loggedStep_46 : decode cX6_loggedStep 46 = .ok (.ireturn, 1) := by decide +kernel
theorem dX6_speedOf_0 : decode cX6_speedOf 0 = .ok (.aload_n 0, 1) := by decide +kernel
theorem dX6_speedOf_1 : decode cX6_speedOf 1 = .ok (.iload_n 1, 1) := by decide +kernel
theorem dX6_speedOf_2 : decode cX6_speedOf 2 = .ok (.invokevirtual 75, 3) := by decide +kernel
theorem dX6_speedOf_5 : decode cX6_speedOf 5 = .ok (.ifCond .eq 13, 3) := by decide +kernel
theorem dX6_speedOf_8 : decode cX6_speedOf 8 = .ok (.aload_n 0, 1) := by decide +kernel
theorem dX6_speedOf_9 : decode cX6_speedOf 9 = .ok (.iload_n 1, 1) := by decide +kernel
theorem dX6_speedOf_10 : decode cX6_speedOf 10 = .ok (.bipush 8, 2) := by decide +kernel
theorem dX6_speedOf_12 : decode cX6_speedOf 12 = .ok (.invokevirtual 40, 3) := by decide +kernel
theorem dX6_speedOf_15 : decode cX6_speedOf 15 = .ok (.ifCond .ne 5, 3) := by decide +kernel
theorem dX6_speedOf_18 : decode cX6_speedOf 18 = .ok (.dconst 0, 1) := by decide +kernel
theorem dX6_speedOf_19 : decode cX6_speedOf 19 = .ok (.dreturn, 1) := by decide +kernel
theorem dX6_speedOf_20 : decode cX6_speedOf 20 = .ok (.iconst 0, 1) := by decide +kernel
theorem dX6_speedOf_21 : decode cX6_speedOf 21 = .ok (.istore_n 2, 1) := by decide +kernel
theorem dX6_speedOf_22 : decode cX6_speedOf 22 = .ok (.iconst 0, 1) := by decide +kernel
theorem dX6_speedOf_23 : decode cX6_speedOf 23 = .ok (.istore_n 3, 1) := by decide +kernel
theorem dX6_speedOf_24 : decode cX6_speedOf 24 = .ok (.iconst 0, 1) := by decide +kernel
theorem dX6_speedOf_25 : decode cX6_speedOf 25 = .ok (.istore 4, 2) := by decide +kernel
theorem dX6_speedOf_27 : decode cX6_speedOf 27 = .ok (.iload 4, 2) := by decide +kernel
theorem dX6_speedOf_29 : decode cX6_speedOf 29 = .ok (.aload_n 0, 1) := by decide +kernel
theorem dX6_speedOf_30 : decode cX6_speedOf 30 = .ok (.iload_n 1, 1) := by decide +kernel
theorem dX6_speedOf_31 : decode cX6_speedOf 31 = .ok (.bipush 8, 2) := by decide +kernel
theorem dX6_speedOf_33 : decode cX6_speedOf 33 = .ok (.invokevirtual 40, 3) := by decide +kernel
theorem dX6_speedOf_36 : decode cX6_speedOf 36 = .ok (.if_icmp .ge 41, 3) := by decide +kernel
theorem dX6_speedOf_39 : decode cX6_speedOf 39 = .ok (.iload_n 2, 1) := by decide +kernel
theorem dX6_speedOf_40 : decode cX6_speedOf 40 = .ok (.aload_n 0, 1) := by decide +kernel
theorem dX6_speedOf_41 : decode cX6_speedOf 41 = .ok (.iload_n 1, 1) := by decide +kernel
theorem dX6_speedOf_42 : decode cX6_speedOf 42 = .ok (.bipush 9, 2) := by decide +kernel
theorem dX6_speedOf_44 : decode cX6_speedOf 44 = .ok (.iconst 3, 1) := by decide +kernel
theorem dX6_speedOf_45 : decode cX6_speedOf 45 = .ok (.iload 4, 2) := by decide +kernel
theorem dX6_speedOf_47 : decode cX6_speedOf 47 = .ok (.imul, 1) := by decide +kernel
theorem dX6_speedOf_48 : decode cX6_speedOf 48 = .ok (.iadd, 1) := by decide +kernel
theorem dX6_speedOf_49 : decode cX6_speedOf 49 = .ok (.invokevirtual 40, 3) := by decide +kernel
theorem dX6_speedOf_52 : decode cX6_speedOf 52 = .ok (.iadd, 1) := by decide +kernel
theorem dX6_speedOf_53 : decode cX6_speedOf 53 = .ok (.istore_n 2, 1) := by decide +kernel
theorem dX6_speedOf_54 : decode cX6_speedOf 54 = .ok (.iload_n 3, 1) := by decide +kernel
theorem dX6_speedOf_55 : decode cX6_speedOf 55 = .ok (.aload_n 0, 1) := by decide +kernel
theorem dX6_speedOf_56 : decode cX6_speedOf 56 = .ok (.iload_n 1, 1) := by decide +kernel
theorem dX6_speedOf_57 : decode cX6_speedOf 57 = .ok (.bipush 9, 2) := by decide +kernel
theorem dX6_speedOf_59 : decode cX6_speedOf 59 = .ok (.iconst 3, 1) := by decide +kernel
theorem dX6_speedOf_60 : decode cX6_speedOf 60 = .ok (.iload 4, 2) := by decide +kernel
theorem dX6_speedOf_62 : decode cX6_speedOf 62 = .ok (.imul, 1) := by decide +kernel
theorem dX6_speedOf_63 : decode cX6_speedOf 63 = .ok (.iadd, 1) := by decide +kernel
theorem dX6_speedOf_64 : decode cX6_speedOf 64 = .ok (.iconst 1, 1) := by decide +kernel
theorem dX6_speedOf_65 : decode cX6_speedOf 65 = .ok (.iadd, 1) := by decide +kernel
theorem dX6_speedOf_66 : decode cX6_speedOf 66 = .ok (.invokevirtual 40, 3) := by decide +kernel
theorem dX6_speedOf_69 : decode cX6_speedOf 69 = .ok (.iadd, 1) := by decide +kernel
theorem dX6_speedOf_70 : decode cX6_speedOf 70 = .ok (.istore_n 3, 1) := by decide +kernel
theorem dX6_speedOf_71 : decode cX6_speedOf 71 = .ok (.iinc 4 1, 3) := by decide +kernel
theorem dX6_speedOf_74 : decode cX6_speedOf 74 = .ok (.goto (-47), 3) := by decide +kernel
theorem dX6_speedOf_77 : decode cX6_speedOf 77 = .ok (.sipush 1000, 3) := by decide +kernel
theorem dX6_speedOf_80 : decode cX6_speedOf 80 = .ok (.iload_n 2, 1) := by decide +kernel
theorem dX6_speedOf_81 : decode cX6_speedOf 81 = .ok (.imul, 1) := by decide +kernel
theorem dX6_speedOf_82 : decode cX6_speedOf 82 = .ok (.i2d, 1) := by decide +kernel
theorem dX6_speedOf_83 : decode cX6_speedOf 83 = .ok (.iload_n 3, 1) := by decide +kernel
theorem dX6_speedOf_84 : decode cX6_speedOf 84 = .ok (.i2d, 1) := by decide +kernel
theorem dX6_speedOf_85 : decode cX6_speedOf 85 = .ok (.ddiv, 1) := by decide +kernel
theorem dX6_speedOf_86 : decode cX6_speedOf 86 = .ok (.dreturn, 1) := by decide +kernel
theorem dX6_errorsOf_0 : decode cX6_errorsOf 0 = .ok (.aload_n 0, 1) := by decide +kernel
theorem dX6_errorsOf_1 : decode cX6_errorsOf 1 = .ok (.iload_n 1, 1) := by decide +kernel
theorem dX6_errorsOf_2 : decode cX6_errorsOf 2 = .ok (.iconst 3, 1) := by decide +kernel
theorem dX6_errorsOf_3 : decode cX6_errorsOf 3 = .ok (.invokevirtual 145, 3) := by decide +kernel
theorem dX6_errorsOf_6 : decode cX6_errorsOf 6 = .ok (.ireturn, 1) := by decide +kernel
theorem dX6_slipsOf_0 : decode cX6_slipsOf 0 = .ok (.aload_n 0, 1) := by decide +kernel
theorem dX6_slipsOf_1 : decode cX6_slipsOf 1 = .ok (.iload_n 1, 1) := by decide +kernel
theorem dX6_slipsOf_2 : decode cX6_slipsOf 2 = .ok (.iconst 4, 1) := by decide +kernel
theorem dX6_slipsOf_3 : decode cX6_slipsOf 3 = .ok (.invokevirtual 145, 3) := by decide +kernel
theorem dX6_slipsOf_6 : decode cX6_slipsOf 6 = .ok (.ireturn, 1) := by decide +kernel
theorem dX6_distanceOf_0 : decode cX6_distanceOf 0 = .ok (.aload_n 0, 1) := by decide +kernel
theorem dX6_distanceOf_1 : decode cX6_distanceOf 1 = .ok (.iload_n 1, 1) := by decide +kernel
theorem dX6_distanceOf_2 : decode cX6_distanceOf 2 = .ok (.iconst 5, 1) := by decide +kernel
theorem dX6_distanceOf_3 : decode cX6_distanceOf 3 = .ok (.invokevirtual 145, 3) := by decide +kernel
theorem dX6_distanceOf_6 : decode cX6_distanceOf 6 = .ok (.ireturn, 1) := by decide +kernel
theorem dX6_ticksOf_0 : decode cX6_ticksOf 0 = .ok (.aload_n 0, 1) := by decide +kernel
theorem dX6_ticksOf_1 : decode cX6_ticksOf 1 = .ok (.iload_n 1, 1) := by decide +kernel
theorem dX6_ticksOf_2 : decode cX6_ticksOf 2 = .ok (.bipush 6, 2) := by decide +kernel
theorem dX6_ticksOf_4 : decode cX6_ticksOf 4 = .ok (.invokevirtual 145, 3) := by decide +kernel
theorem dX6_ticksOf_7 : decode cX6_ticksOf 7 = .ok (.ireturn, 1) := by decide +kernel
theorem dX6_counts_0 : decode cX6_counts 0 = .ok (.aload_n 0, 1) := by decide +kernel
theorem dX6_counts_1 : decode cX6_counts 1 = .ok (.iconst 0, 1) := by decide +kernel
theorem dX6_counts_2 : decode cX6_counts 2 = .ok (.putfield 25, 3) := by decide +kernel
theorem dX6_counts_5 : decode cX6_counts 5 = .ok (.aload_n 0, 1) := by decide +kernel
theorem dX6_counts_6 : decode cX6_counts 6 = .ok (.getfield 7, 3) := by decide +kernel
theorem dX6_counts_9 : decode cX6_counts 9 = .ok (.sipush 229, 3) := by decide +kernel
theorem dX6_counts_12 : decode cX6_counts 12 = .ok (.iaload, 1) := by decide +kernel
theorem dX6_counts_13 : decode cX6_counts 13 = .ok (.ireturn, 1) := by decide +kernel
theorem dX6_rule_0 : decode cX6_rule 0 = .ok (.aload_n 0, 1) := by decide +kernel
theorem dX6_rule_1 : decode cX6_rule 1 = .ok (.iconst 0, 1) := by decide +kernel
theorem dX6_rule_2 : decode cX6_rule 2 = .ok (.putfield 25, 3) := by decide +kernel
theorem dX6_rule_5 : decode cX6_rule 5 = .ok (.aload_n 0, 1) := by decide +kernel
theorem dX6_rule_6 : decode cX6_rule 6 = .ok (.getfield 7, 3) := by decide +kernel
theorem dX6_rule_9 : decode cX6_rule 9 = .ok (.sipush 228, 3) := by decide +kernel
theorem dX6_rule_12 : decode cX6_rule 12 = .ok (.iaload, 1) := by decide +kernel
theorem dX6_rule_13 : decode cX6_rule 13 = .ok (.ireturn, 1) := by decide +kernel
theorem dX6_recordedStates_0 : decode cX6_recordedStates 0 = .ok (.aload_n 0, 1) := by decide +kernel
theorem dX6_recordedStates_1 : decode cX6_recordedStates 1 = .ok (.iconst 0, 1) := by decide +kernel
theorem dX6_recordedStates_2 : decode cX6_recordedStates 2 = .ok (.putfield 25, 3) := by decide +kernel
theorem dX6_recordedStates_5 : decode cX6_recordedStates 5 = .ok (.aload_n 0, 1) := by decide +kernel
theorem dX6_recordedStates_6 : decode cX6_recordedStates 6 = .ok (.getfield 33, 3) := by decide +kernel
theorem dX6_recordedStates_9 : decode cX6_recordedStates 9 = .ok (.ireturn, 1) := by decide +kernel
