theorem dX4_passMark_17 : decode cX4_passMark 17 = .ok (.iload_n 2, 1) := by decide +kernel
theorem dX4_passMark_18 : decode cX4_passMark 18 = .ok (.iload_n 1, 1) := by decide +kernel
theorem dX4_passMark_19 : decode cX4_passMark 19 = .ok (.isub, 1) := by decide +kernel
theorem dX4_passMark_20 : decode cX4_passMark 20 = .ok (.istore_n 3, 1) := by decide +kernel
theorem dX4_passMark_21 : decode cX4_passMark 21 = .ok (.aload_n 0, 1) := by decide +kernel
theorem dX4_passMark_22 : decode cX4_passMark 22 = .ok (.dup, 1) := by decide +kernel
theorem dX4_passMark_23 : decode cX4_passMark 23 = .ok (.getfield 77, 3) := by decide +kernel
theorem dX4_passMark_26 : decode cX4_passMark 26 = .ok (.iload_n 3, 1) := by decide +kernel
theorem dX4_passMark_27 : decode cX4_passMark 27 = .ok (.isub, 1) := by decide +kernel
theorem dX4_passMark_28 : decode cX4_passMark 28 = .ok (.putfield 77, 3) := by decide +kernel
theorem dX4_passMark_31 : decode cX4_passMark 31 = .ok (.aload_n 0, 1) := by decide +kernel
theorem dX4_passMark_32 : decode cX4_passMark 32 = .ok (.dup, 1) := by decide +kernel
theorem dX4_passMark_33 : decode cX4_passMark 33 = .ok (.getfield 99, 3) := by decide +kernel
theorem dX4_passMark_36 : decode cX4_passMark 36 = .ok (.iload_n 3, 1) := by decide +kernel
theorem dX4_passMark_37 : decode cX4_passMark 37 = .ok (.iadd, 1) := by decide +kernel
theorem dX4_passMark_38 : decode cX4_passMark 38 = .ok (.putfield 99, 3) := by decide +kernel
theorem dX4_passMark_41 : decode cX4_passMark 41 = .ok (.aload_n 0, 1) := by decide +kernel
theorem dX4_passMark_42 : decode cX4_passMark 42 = .ok (.dup, 1) := by decide +kernel
theorem dX4_passMark_43 : decode cX4_passMark 43 = .ok (.getfield 102, 3) := by decide +kernel
theorem dX4_passMark_46 : decode cX4_passMark 46 = .ok (.iload_n 3, 1) := by decide +kernel
theorem dX4_passMark_47 : decode cX4_passMark 47 = .ok (.invokestatic 58, 3) := by decide +kernel
theorem dX4_passMark_50 : decode cX4_passMark 50 = .ok (.iadd, 1) := by decide +kernel
theorem dX4_passMark_51 : decode cX4_passMark 51 = .ok (.putfield 102, 3) := by decide +kernel
theorem dX4_passMark_54 : decode cX4_passMark 54 = .ok (.iload_n 3, 1) := by decide +kernel
theorem dX4_passMark_55 : decode cX4_passMark 55 = .ok (.ireturn, 1) := by decide +kernel
theorem dX4_copyFrom_0 : decode cX4_copyFrom 0 = .ok (.aload_n 0, 1) := by decide +kernel
theorem dX4_copyFrom_1 : decode cX4_copyFrom 1 = .ok (.getfield 12, 3) := by decide +kernel
theorem dX4_copyFrom_4 : decode cX4_copyFrom 4 = .ok (.aload_n 1, 1) := by decide +kernel
theorem dX4_copyFrom_5 : decode cX4_copyFrom 5 = .ok (.getfield 12, 3) := by decide +kernel
theorem dX4_copyFrom_8 : decode cX4_copyFrom 8 = .ok (.invokevirtual 105, 3) := by decide +kernel
theorem dX4_copyFrom_11 : decode cX4_copyFrom 11 = .ok (.aload_n 0, 1) := by decide +kernel
theorem dX4_copyFrom_12 : decode cX4_copyFrom 12 = .ok (.aload_n 1, 1) := by decide +kernel
theorem dX4_copyFrom_13 : decode cX4_copyFrom 13 = .ok (.getfield 18, 3) := by decide +kernel
theorem dX4_copyFrom_16 : decode cX4_copyFrom 16 = .ok (.putfield 18, 3) := by decide +kernel
theorem dX4_copyFrom_19 : decode cX4_copyFrom 19 = .ok (.aload_n 0, 1) := by decide +kernel
theorem dX4_copyFrom_20 : decode cX4_copyFrom 20 = .ok (.aload_n 1, 1) := by decide +kernel
theorem dX4_copyFrom_21 : decode cX4_copyFrom 21 = .ok (.getfield 77, 3) := by decide +kernel
theorem dX4_copyFrom_24 : decode cX4_copyFrom 24 = .ok (.putfield 77, 3) := by decide +kernel
theorem dX4_copyFrom_27 : decode cX4_copyFrom 27 = .ok (.aload_n 0, 1) := by decide +kernel
theorem dX4_copyFrom_28 : decode cX4_copyFrom 28 = .ok (.aload_n 1, 1) := by decide +kernel
theorem dX4_copyFrom_29 : decode cX4_copyFrom 29 = .ok (.getfield 26, 3) := by decide +kernel
theorem dX4_copyFrom_32 : decode cX4_copyFrom 32 = .ok (.putfield 26, 3) := by decide +kernel
theorem dX4_copyFrom_35 : decode cX4_copyFrom 35 = .ok (.aload_n 0, 1) := by decide +kernel
theorem dX4_copyFrom_36 : decode cX4_copyFrom 36 = .ok (.aload_n 1, 1) := by decide +kernel
theorem dX4_copyFrom_37 : decode cX4_copyFrom 37 = .ok (.getfield 80, 3) := by decide +kernel
theorem dX4_copyFrom_40 : decode cX4_copyFrom 40 = .ok (.putfield 80, 3) := by decide +kernel
theorem dX4_copyFrom_43 : decode cX4_copyFrom 43 = .ok (.aload_n 0, 1) := by decide +kernel
theorem dX4_copyFrom_44 : decode cX4_copyFrom 44 = .ok (.aload_n 1, 1) := by decide +kernel
theorem dX4_copyFrom_45 : decode cX4_copyFrom 45 = .ok (.getfield 83, 3) := by decide +kernel
theorem dX4_copyFrom_48 : decode cX4_copyFrom 48 = .ok (.putfield 83, 3) := by decide +kernel
theorem dX4_copyFrom_51 : decode cX4_copyFrom 51 = .ok (.aload_n 0, 1) := by decide +kernel
theorem dX4_copyFrom_52 : decode cX4_copyFrom 52 = .ok (.aload_n 1, 1) := by decide +kernel
theorem dX4_copyFrom_53 : decode cX4_copyFrom 53 = .ok (.getfield 86, 3) := by decide +kernel
theorem dX4_copyFrom_56 : decode cX4_copyFrom 56 = .ok (.putfield 86, 3) := by decide +kernel
theorem dX4_copyFrom_59 : decode cX4_copyFrom 59 = .ok (.aload_n 0, 1) := by decide +kernel
theorem dX4_copyFrom_60 : decode cX4_copyFrom 60 = .ok (.aload_n 1, 1) := by decide +kernel
theorem dX4_copyFrom_61 : decode cX4_copyFrom 61 = .ok (.getfield 99, 3) := by decide +kernel
theorem dX4_copyFrom_64 : decode cX4_copyFrom 64 = .ok (.putfield 99, 3) := by decide +kernel
theorem dX4_copyFrom_67 : decode cX4_copyFrom 67 = .ok (.aload_n 0, 1) := by decide +kernel
theorem dX4_copyFrom_68 : decode cX4_copyFrom 68 = .ok (.aload_n 1, 1) := by decide +kernel
theorem dX4_copyFrom_69 : decode cX4_copyFrom 69 = .ok (.getfield 39, 3) := by decide +kernel
theorem dX4_copyFrom_72 : decode cX4_copyFrom 72 = .ok (.putfield 39, 3) := by decide +kernel
theorem dX4_copyFrom_75 : decode cX4_copyFrom 75 = .ok (.aload_n 0, 1) := by decide +kernel
theorem dX4_copyFrom_76 : decode cX4_copyFrom 76 = .ok (.aload_n 1, 1) := by decide +kernel
theorem dX4_copyFrom_77 : decode cX4_copyFrom 77 = .ok (.getfield 102, 3) := by decide +kernel
theorem dX4_copyFrom_80 : decode cX4_copyFrom 80 = .ok (.putfield 102, 3) := by decide +kernel
theorem dX4_copyFrom_83 : decode cX4_copyFrom 83 = .ok (.aload_n 0, 1) := by decide +kernel
theorem dX4_copyFrom_84 : decode cX4_copyFrom 84 = .ok (.aload_n 1, 1) := by decide +kernel
theorem dX4_copyFrom_85 : decode cX4_copyFrom 85 = .ok (.getfield 36, 3) := by decide +kernel
theorem dX4_copyFrom_88 : decode cX4_copyFrom 88 = .ok (.putfield 36, 3) := by decide +kernel
theorem dX4_copyFrom_91 : decode cX4_copyFrom 91 = .ok (.aload_n 0, 1) := by decide +kernel
theorem dX4_copyFrom_92 : decode cX4_copyFrom 92 = .ok (.aload_n 1, 1) := by decide +kernel
theorem dX4_copyFrom_93 : decode cX4_copyFrom 93 = .ok (.getfield 32, 3) := by decide +kernel
theorem dX4_copyFrom_96 : decode cX4_copyFrom 96 = .ok (.putfield 32, 3) := by decide +kernel
theorem dX4_copyFrom_99 : decode cX4_copyFrom 99 = .ok (.return_, 1) := by decide +kernel
theorem dX5_init_0 : decode cX5_init 0 = .ok (.aload_n 0, 1) := by decide +kernel
theorem dX5_init_1 : decode cX5_init 1 = .ok (.invokespecial 1, 3) := by decide +kernel
theorem dX5_init_4 : decode cX5_init 4 = .ok (.aload_n 0, 1) := by decide +kernel
theorem dX5_init_5 : decode cX5_init 5 = .ok (.new 7, 3) := by decide +kernel
theorem dX5_init_8 : decode cX5_init 8 = .ok (.dup, 1) := by decide +kernel
theorem dX5_init_9 : decode cX5_init 9 = .ok (.invokespecial 9, 3) := by decide +kernel
theorem dX5_init_12 : decode cX5_init 12 = .ok (.putfield 10, 3) := by decide +kernel
theorem dX5_init_15 : decode cX5_init 15 = .ok (.aload_n 0, 1) := by decide +kernel
theorem dX5_init_16 : decode cX5_init 16 = .ok (.new 7, 3) := by decide +kernel
theorem dX5_init_19 : decode cX5_init 19 = .ok (.dup, 1) := by decide +kernel
theorem dX5_init_20 : decode cX5_init 20 = .ok (.invokespecial 9, 3) := by decide +kernel
theorem dX5_init_23 : decode cX5_init 23 = .ok (.putfield 16, 3) := by decide +kernel
theorem dX5_init_26 : decode cX5_init 26 = .ok (.aload_n 0, 1) := by decide +kernel
theorem dX5_init_27 : decode cX5_init 27 = .ok (.new 7, 3) := by decide +kernel
theorem dX5_init_30 : decode cX5_init 30 = .ok (.dup, 1) := by decide +kernel
theorem dX5_init_31 : decode cX5_init 31 = .ok (.invokespecial 9, 3) := by decide +kernel
theorem dX5_init_34 : decode cX5_init 34 = .ok (.putfield 19, 3) := by decide +kernel
theorem dX5_init_37 : decode cX5_init 37 = .ok (.aload_n 0, 1) := by decide +kernel
theorem dX5_init_38 : decode cX5_init 38 = .ok (.new 22, 3) := by decide +kernel
theorem dX5_init_41 : decode cX5_init 41 = .ok (.dup, 1) := by decide +kernel
theorem dX5_init_42 : decode cX5_init 42 = .ok (.invokespecial 24, 3) := by decide +kernel
theorem dX5_init_45 : decode cX5_init 45 = .ok (.putfield 25, 3) := by decide +kernel
theorem dX5_init_48 : decode cX5_init 48 = .ok (.aload_n 0, 1) := by decide +kernel
theorem dX5_init_49 : decode cX5_init 49 = .ok (.new 29, 3) := by decide +kernel
theorem dX5_init_52 : decode cX5_init 52 = .ok (.dup, 1) := by decide +kernel
theorem dX5_init_53 : decode cX5_init 53 = .ok (.invokespecial 31, 3) := by decide +kernel
theorem dX5_init_56 : decode cX5_init 56 = .ok (.putfield 32, 3) := by decide +kernel
theorem dX5_init_59 : decode cX5_init 59 = .ok (.return_, 1) := by decide +kernel
theorem dX5_feel_0 : decode cX5_feel 0 = .ok (.aload_n 0, 1) := by decide +kernel
theorem dX5_feel_1 : decode cX5_feel 1 = .ok (.iload_n 1, 1) := by decide +kernel
theorem dX5_feel_2 : decode cX5_feel 2 = .ok (.invokevirtual 36, 3) := by decide +kernel
theorem dX5_feel_5 : decode cX5_feel 5 = .ok (.astore 4, 2) := by decide +kernel
theorem dX5_feel_7 : decode cX5_feel 7 = .ok (.iload_n 2, 1) := by decide +kernel
theorem dX5_feel_8 : decode cX5_feel 8 = .ok (.invokestatic 40, 3) := by decide +kernel
theorem dX5_feel_11 : decode cX5_feel 11 = .ok (.iload_n 3, 1) := by decide +kernel
theorem dX5_feel_12 : decode cX5_feel 12 = .ok (.iconst 1, 1) := by decide +kernel
theorem dX5_feel_13 : decode cX5_feel 13 = .ok (.if_icmp .lt 10, 3) := by decide +kernel
theorem dX5_feel_16 : decode cX5_feel 16 = .ok (.iload_n 3, 1) := by decide +kernel
theorem dX5_feel_17 : decode cX5_feel 17 = .ok (.sipush 1000, 3) := by decide +kernel
theorem dX5_feel_20 : decode cX5_feel 20 = .ok (.if_icmp .le 13, 3) := by decide +kernel
theorem dX5_feel_23 : decode cX5_feel 23 = .ok (.new 44, 3) := by decide +kernel
theorem dX5_feel_26 : decode cX5_feel 26 = .ok (.dup, 1) := by decide +kernel
theorem dX5_feel_27 : decode cX5_feel 27 = .ok (.ldc 46, 2) := by decide +kernel
theorem dX5_feel_29 : decode cX5_feel 29 = .ok (.invokespecial 48, 3) := by decide +kernel
theorem dX5_feel_32 : decode cX5_feel 32 = .ok (.athrow, 1) := by decide +kernel
theorem dX5_feel_33 : decode cX5_feel 33 = .ok (.aload 4, 2) := by decide +kernel
theorem dX5_feel_35 : decode cX5_feel 35 = .ok (.aload_n 0, 1) := by decide +kernel
theorem dX5_feel_36 : decode cX5_feel 36 = .ok (.getfield 10, 3) := by decide +kernel
theorem dX5_feel_39 : decode cX5_feel 39 = .ok (.getfield 51, 3) := by decide +kernel
theorem dX5_feel_42 : decode cX5_feel 42 = .ok (.iload_n 2, 1) := by decide +kernel
theorem dX5_feel_43 : decode cX5_feel 43 = .ok (.invokevirtual 55, 3) := by decide +kernel
theorem dX5_feel_46 : decode cX5_feel 46 = .ok (.istore 5, 2) := by decide +kernel
theorem dX5_feel_48 : decode cX5_feel 48 = .ok (.aload 4, 2) := by decide +kernel
theorem dX5_feel_50 : decode cX5_feel 50 = .ok (.iload_n 3, 1) := by decide +kernel
theorem dX5_feel_51 : decode cX5_feel 51 = .ok (.iload 5, 2) := by decide +kernel
theorem dX5_feel_53 : decode cX5_feel 53 = .ok (.invokestatic 61, 3) := by decide +kernel
theorem dX5_feel_56 : decode cX5_feel 56 = .ok (.invokestatic 67, 3) := by decide +kernel
theorem dX5_feel_59 : decode cX5_feel 59 = .ok (.aload_n 0, 1) := by decide +kernel
theorem dX5_feel_60 : decode cX5_feel 60 = .ok (.getfield 25, 3) := by decide +kernel
theorem dX5_feel_63 : decode cX5_feel 63 = .ok (.aload_n 0, 1) := by decide +kernel
theorem dX5_feel_64 : decode cX5_feel 64 = .ok (.getfield 10, 3) := by decide +kernel
theorem dX5_feel_67 : decode cX5_feel 67 = .ok (.invokevirtual 71, 3) := by decide +kernel
theorem dX5_feel_70 : decode cX5_feel 70 = .ok (.aload 4, 2) := by decide +kernel
theorem dX5_feel_72 : decode cX5_feel 72 = .ok (.iload_n 2, 1) := by decide +kernel
theorem dX5_feel_73 : decode cX5_feel 73 = .ok (.iload 5, 2) := by decide +kernel
theorem dX5_feel_75 : decode cX5_feel 75 = .ok (.iload_n 3, 1) := by decide +kernel
theorem dX5_feel_76 : decode cX5_feel 76 = .ok (.invokevirtual 75, 3) := by decide +kernel
theorem dX5_feel_79 : decode cX5_feel 79 = .ok (.iload 5, 2) := by decide +kernel
theorem dX5_feel_81 : decode cX5_feel 81 = .ok (.ireturn, 1) := by decide +kernel
theorem dX5_crawl_0 : decode cX5_crawl 0 = .ok (.aload_n 0, 1) := by decide +kernel
theorem dX5_crawl_1 : decode cX5_crawl 1 = .ok (.iload_n 1, 1) := by decide +kernel
theorem dX5_crawl_2 : decode cX5_crawl 2 = .ok (.invokevirtual 36, 3) := by decide +kernel
theorem dX5_crawl_5 : decode cX5_crawl 5 = .ok (.astore_n 3, 1) := by decide +kernel
theorem dX5_crawl_6 : decode cX5_crawl 6 = .ok (.iload_n 2, 1) := by decide +kernel
theorem dX5_crawl_7 : decode cX5_crawl 7 = .ok (.bipush (-100), 2) := by decide +kernel
theorem dX5_crawl_9 : decode cX5_crawl 9 = .ok (.if_icmp .lt 9, 3) := by decide +kernel
theorem dX5_crawl_12 : decode cX5_crawl 12 = .ok (.iload_n 2, 1) := by decide +kernel
theorem dX5_crawl_13 : decode cX5_crawl 13 = .ok (.bipush 100, 2) := by decide +kernel
theorem dX5_crawl_15 : decode cX5_crawl 15 = .ok (.if_icmp .le 13, 3) := by decide +kernel
theorem dX5_crawl_18 : decode cX5_crawl 18 = .ok (.new 44, 3) := by decide +kernel
theorem dX5_crawl_21 : decode cX5_crawl 21 = .ok (.dup, 1) := by decide +kernel
theorem dX5_crawl_22 : decode cX5_crawl 22 = .ok (.ldc 79, 2) := by decide +kernel
theorem dX5_crawl_24 : decode cX5_crawl 24 = .ok (.invokespecial 48, 3) := by decide +kernel
theorem dX5_crawl_27 : decode cX5_crawl 27 = .ok (.athrow, 1) := by decide +kernel
theorem dX5_crawl_28 : decode cX5_crawl 28 = .ok (.iload_n 2, 1) := by decide +kernel
theorem dX5_crawl_29 : decode cX5_crawl 29 = .ok (.invokestatic 61, 3) := by decide +kernel
theorem dX5_crawl_32 : decode cX5_crawl 32 = .ok (.istore 4, 2) := by decide +kernel
theorem dX5_crawl_34 : decode cX5_crawl 34 = .ok (.aload_n 3, 1) := by decide +kernel
theorem dX5_crawl_35 : decode cX5_crawl 35 = .ok (.iload 4, 2) := by decide +kernel
theorem dX5_crawl_37 : decode cX5_crawl 37 = .ok (.iload 4, 2) := by decide +kernel
theorem dX5_crawl_39 : decode cX5_crawl 39 = .ok (.invokestatic 67, 3) := by decide +kernel
theorem dX5_crawl_42 : decode cX5_crawl 42 = .ok (.aload_n 0, 1) := by decide +kernel
theorem dX5_crawl_43 : decode cX5_crawl 43 = .ok (.getfield 25, 3) := by decide +kernel
theorem dX5_crawl_46 : decode cX5_crawl 46 = .ok (.aload_n 0, 1) := by decide +kernel
theorem dX5_crawl_47 : decode cX5_crawl 47 = .ok (.getfield 10, 3) := by decide +kernel
theorem dX5_crawl_50 : decode cX5_crawl 50 = .ok (.invokevirtual 71, 3) := by decide +kernel
theorem dX5_crawl_53 : decode cX5_crawl 53 = .ok (.iload_n 2, 1) := by decide +kernel
theorem dX5_crawl_54 : decode cX5_crawl 54 = .ok (.ifCond .ge 7, 3) := by decide +kernel
theorem dX5_crawl_57 : decode cX5_crawl 57 = .ok (.iconst (-1), 1) := by decide +kernel
theorem dX5_crawl_58 : decode cX5_crawl 58 = .ok (.goto 4, 3) := by decide +kernel
theorem dX5_crawl_61 : decode cX5_crawl 61 = .ok (.iconst 1, 1) := by decide +kernel
theorem dX5_crawl_62 : decode cX5_crawl 62 = .ok (.istore 5, 2) := by decide +kernel
theorem dX5_crawl_64 : decode cX5_crawl 64 = .ok (.iconst 0, 1) := by decide +kernel
theorem dX5_crawl_65 : decode cX5_crawl 65 = .ok (.istore 6, 2) := by decide +kernel
theorem dX5_crawl_67 : decode cX5_crawl 67 = .ok (.iload 6, 2) := by decide +kernel
theorem dX5_crawl_69 : decode cX5_crawl 69 = .ok (.iload 4, 2) := by decide +kernel
theorem dX5_crawl_71 : decode cX5_crawl 71 = .ok (.if_icmp .ge 22, 3) := by decide +kernel
theorem dX5_crawl_74 : decode cX5_crawl 74 = .ok (.aload_n 3, 1) := by decide +kernel
theorem dX5_crawl_75 : decode cX5_crawl 75 = .ok (.aload_n 3, 1) := by decide +kernel
theorem dX5_crawl_76 : decode cX5_crawl 76 = .ok (.iload 5, 2) := by decide +kernel
theorem dX5_crawl_78 : decode cX5_crawl 78 = .ok (.invokevirtual 81, 3) := by decide +kernel
theorem dX5_crawl_81 : decode cX5_crawl 81 = .ok (.iload 5, 2) := by decide +kernel
theorem dX5_crawl_83 : decode cX5_crawl 83 = .ok (.iconst 1, 1) := by decide +kernel
theorem dX5_crawl_84 : decode cX5_crawl 84 = .ok (.invokevirtual 75, 3) := by decide +kernel
theorem dX5_crawl_87 : decode cX5_crawl 87 = .ok (.iinc 6 1, 3) := by decide +kernel
theorem dX5_crawl_90 : decode cX5_crawl 90 = .ok (.goto (-23), 3) := by decide +kernel
theorem dX5_crawl_93 : decode cX5_crawl 93 = .ok (.aload_n 3, 1) := by decide +kernel
theorem dX5_crawl_94 : decode cX5_crawl 94 = .ok (.getfield 84, 3) := by decide +kernel
theorem dX5_crawl_97 : decode cX5_crawl 97 = .ok (.ireturn, 1) := by decide +kernel
theorem dX5_meetMark_0 : decode cX5_meetMark 0 = .ok (.aload_n 0, 1) := by decide +kernel
theorem dX5_meetMark_1 : decode cX5_meetMark 1 = .ok (.iload_n 1, 1) := by decide +kernel
theorem dX5_meetMark_2 : decode cX5_meetMark 2 = .ok (.invokevirtual 36, 3) := by decide +kernel
theorem dX5_meetMark_5 : decode cX5_meetMark 5 = .ok (.astore_n 2, 1) := by decide +kernel
theorem dX5_meetMark_6 : decode cX5_meetMark 6 = .ok (.aload_n 0, 1) := by decide +kernel
theorem dX5_meetMark_7 : decode cX5_meetMark 7 = .ok (.getfield 25, 3) := by decide +kernel
theorem dX5_meetMark_10 : decode cX5_meetMark 10 = .ok (.aload_n 0, 1) := by decide +kernel
theorem dX5_meetMark_11 : decode cX5_meetMark 11 = .ok (.getfield 10, 3) := by decide +kernel
theorem dX5_meetMark_14 : decode cX5_meetMark 14 = .ok (.invokevirtual 71, 3) := by decide +kernel
theorem dX5_meetMark_17 : decode cX5_meetMark 17 = .ok (.aload_n 2, 1) := by decide +kernel
theorem dX5_meetMark_18 : decode cX5_meetMark 18 = .ok (.aload_n 0, 1) := by decide +kernel
theorem dX5_meetMark_19 : decode cX5_meetMark 19 = .ok (.getfield 10, 3) := by decide +kernel
theorem dX5_meetMark_22 : decode cX5_meetMark 22 = .ok (.getfield 87, 3) := by decide +kernel
theorem dX5_meetMark_25 : decode cX5_meetMark 25 = .ok (.invokevirtual 90, 3) := by decide +kernel
theorem dX5_meetMark_28 : decode cX5_meetMark 28 = .ok (.ireturn, 1) := by decide +kernel
theorem dX5_goBack_0 : decode cX5_goBack 0 = .ok (.aload_n 0, 1) := by decide +kernel
theorem dX5_goBack_1 : decode cX5_goBack 1 = .ok (.iload_n 1, 1) := by decide +kernel
theorem dX5_goBack_2 : decode cX5_goBack 2 = .ok (.invokevirtual 36, 3) := by decide +kernel
theorem dX5_goBack_5 : decode cX5_goBack 5 = .ok (.astore_n 3, 1) := by decide +kernel
theorem dX5_goBack_6 : decode cX5_goBack 6 = .ok (.iload_n 2, 1) := by decide +kernel
theorem dX5_goBack_7 : decode cX5_goBack 7 = .ok (.iconst 1, 1) := by decide +kernel
theorem dX5_goBack_8 : decode cX5_goBack 8 = .ok (.if_icmp .lt 9, 3) := by decide +kernel
theorem dX5_goBack_11 : decode cX5_goBack 11 = .ok (.iload_n 2, 1) := by decide +kernel
theorem dX5_goBack_12 : decode cX5_goBack 12 = .ok (.bipush 16, 2) := by decide +kernel
theorem dX5_goBack_14 : decode cX5_goBack 14 = .ok (.if_icmp .le 13, 3) := by decide +kernel
theorem dX5_goBack_17 : decode cX5_goBack 17 = .ok (.new 44, 3) := by decide +kernel
theorem dX5_goBack_20 : decode cX5_goBack 20 = .ok (.dup, 1) := by decide +kernel
theorem dX5_goBack_21 : decode cX5_goBack 21 = .ok (.ldc 93, 2) := by decide +kernel
theorem dX5_goBack_23 : decode cX5_goBack 23 = .ok (.invokespecial 48, 3) := by decide +kernel
theorem dX5_goBack_26 : decode cX5_goBack 26 = .ok (.athrow, 1) := by decide +kernel
theorem dX5_goBack_27 : decode cX5_goBack 27 = .ok (.aload_n 3, 1) := by decide +kernel
theorem dX5_goBack_28 : decode cX5_goBack 28 = .ok (.iload_n 2, 1) := by decide +kernel
theorem dX5_goBack_29 : decode cX5_goBack 29 = .ok (.invokevirtual 95, 3) := by decide +kernel
theorem dX5_goBack_32 : decode cX5_goBack 32 = .ok (.ifCond .ne 13, 3) := by decide +kernel
theorem dX5_goBack_35 : decode cX5_goBack 35 = .ok (.new 99, 3) := by decide +kernel
theorem dX5_goBack_38 : decode cX5_goBack 38 = .ok (.dup, 1) := by decide +kernel
theorem dX5_goBack_39 : decode cX5_goBack 39 = .ok (.ldc 101, 2) := by decide +kernel
theorem dX5_goBack_41 : decode cX5_goBack 41 = .ok (.invokespecial 103, 3) := by decide +kernel
theorem dX5_goBack_44 : decode cX5_goBack 44 = .ok (.athrow, 1) := by decide +kernel
theorem dX5_goBack_45 : decode cX5_goBack 45 = .ok (.aload_n 0, 1) := by decide +kernel
theorem dX5_goBack_46 : decode cX5_goBack 46 = .ok (.getfield 25, 3) := by decide +kernel
theorem dX5_goBack_49 : decode cX5_goBack 49 = .ok (.aload_n 0, 1) := by decide +kernel
theorem dX5_goBack_50 : decode cX5_goBack 50 = .ok (.getfield 10, 3) := by decide +kernel
theorem dX5_goBack_53 : decode cX5_goBack 53 = .ok (.invokevirtual 71, 3) := by decide +kernel
theorem dX5_goBack_56 : decode cX5_goBack 56 = .ok (.aload_n 3, 1) := by decide +kernel
theorem dX5_goBack_57 : decode cX5_goBack 57 = .ok (.iload_n 2, 1) := by decide +kernel
theorem dX5_goBack_58 : decode cX5_goBack 58 = .ok (.invokevirtual 104, 3) := by decide +kernel
theorem dX5_goBack_61 : decode cX5_goBack 61 = .ok (.aload_n 3, 1) := by decide +kernel
theorem dX5_goBack_62 : decode cX5_goBack 62 = .ok (.getfield 84, 3) := by decide +kernel
theorem dX5_goBack_65 : decode cX5_goBack 65 = .ok (.ireturn, 1) := by decide +kernel
theorem dX5_setRule_0 : decode cX5_setRule 0 = .ok (.iload_n 1, 1) := by decide +kernel
theorem dX5_setRule_1 : decode cX5_setRule 1 = .ok (.ifCond .eq 18, 3) := by decide +kernel
theorem dX5_setRule_4 : decode cX5_setRule 4 = .ok (.iload_n 1, 1) := by decide +kernel
theorem dX5_setRule_5 : decode cX5_setRule 5 = .ok (.iconst 1, 1) := by decide +kernel
theorem dX5_setRule_6 : decode cX5_setRule 6 = .ok (.if_icmp .eq 13, 3) := by decide +kernel
theorem dX5_setRule_9 : decode cX5_setRule 9 = .ok (.new 44, 3) := by decide +kernel
theorem dX5_setRule_12 : decode cX5_setRule 12 = .ok (.dup, 1) := by decide +kernel
theorem dX5_setRule_13 : decode cX5_setRule 13 = .ok (.ldc 107, 2) := by decide +kernel
theorem dX5_setRule_15 : decode cX5_setRule 15 = .ok (.invokespecial 48, 3) := by decide +kernel
theorem dX5_setRule_18 : decode cX5_setRule 18 = .ok (.athrow, 1) := by decide +kernel
theorem dX5_setRule_19 : decode cX5_setRule 19 = .ok (.aload_n 0, 1) := by decide +kernel
theorem dX5_setRule_20 : decode cX5_setRule 20 = .ok (.getfield 25, 3) := by decide +kernel
theorem dX5_setRule_23 : decode cX5_setRule 23 = .ok (.aload_n 0, 1) := by decide +kernel
theorem dX5_setRule_24 : decode cX5_setRule 24 = .ok (.getfield 10, 3) := by decide +kernel
theorem dX5_setRule_27 : decode cX5_setRule 27 = .ok (.invokevirtual 71, 3) := by decide +kernel
theorem dX5_setRule_30 : decode cX5_setRule 30 = .ok (.aload_n 0, 1) := by decide +kernel
theorem dX5_setRule_31 : decode cX5_setRule 31 = .ok (.getfield 10, 3) := by decide +kernel
theorem dX5_setRule_34 : decode cX5_setRule 34 = .ok (.getfield 51, 3) := by decide +kernel
theorem dX5_setRule_37 : decode cX5_setRule 37 = .ok (.istore_n 2, 1) := by decide +kernel
theorem dX5_setRule_38 : decode cX5_setRule 38 = .ok (.aload_n 0, 1) := by decide +kernel
theorem dX5_setRule_39 : decode cX5_setRule 39 = .ok (.getfield 10, 3) := by decide +kernel
theorem dX5_setRule_42 : decode cX5_setRule 42 = .ok (.iload_n 1, 1) := by decide +kernel
theorem dX5_setRule_43 : decode cX5_setRule 43 = .ok (.putfield 51, 3) := by decide +kernel
theorem dX5_setRule_46 : decode cX5_setRule 46 = .ok (.iload_n 2, 1) := by decide +kernel
theorem dX5_setRule_47 : decode cX5_setRule 47 = .ok (.ireturn, 1) := by decide +kernel
theorem dX5_setCounts_0 : decode cX5_setCounts 0 = .ok (.iload_n 1, 1) := by decide +kernel
theorem dX5_setCounts_1 : decode cX5_setCounts 1 = .ok (.iconst 4, 1) := by decide +kernel
theorem dX5_setCounts_2 : decode cX5_setCounts 2 = .ok (.if_icmp .lt 16, 3) := by decide +kernel
theorem dX5_setCounts_5 : decode cX5_setCounts 5 = .ok (.iload_n 1, 1) := by decide +kernel
theorem dX5_setCounts_6 : decode cX5_setCounts 6 = .ok (.sipush 400, 3) := by decide +kernel
theorem dX5_setCounts_9 : decode cX5_setCounts 9 = .ok (.if_icmp .gt 9, 3) := by decide +kernel
theorem dX5_setCounts_12 : decode cX5_setCounts 12 = .ok (.iload_n 1, 1) := by decide +kernel
theorem dX5_setCounts_13 : decode cX5_setCounts 13 = .ok (.iconst 4, 1) := by decide +kernel
theorem dX5_setCounts_14 : decode cX5_setCounts 14 = .ok (.irem, 1) := by decide +kernel
theorem dX5_setCounts_15 : decode cX5_setCounts 15 = .ok (.ifCond .eq 13, 3) := by decide +kernel
theorem dX5_setCounts_18 : decode cX5_setCounts 18 = .ok (.new 44, 3) := by decide +kernel
theorem dX5_setCounts_21 : decode cX5_setCounts 21 = .ok (.dup, 1) := by decide +kernel
theorem dX5_setCounts_22 : decode cX5_setCounts 22 = .ok (.ldc 109, 2) := by decide +kernel
theorem dX5_setCounts_24 : decode cX5_setCounts 24 = .ok (.invokespecial 48, 3) := by decide +kernel
theorem dX5_setCounts_27 : decode cX5_setCounts 27 = .ok (.athrow, 1) := by decide +kernel
theorem dX5_setCounts_28 : decode cX5_setCounts 28 = .ok (.aload_n 0, 1) := by decide +kernel
theorem dX5_setCounts_29 : decode cX5_setCounts 29 = .ok (.getfield 25, 3) := by decide +kernel
theorem dX5_setCounts_32 : decode cX5_setCounts 32 = .ok (.aload_n 0, 1) := by decide +kernel
theorem dX5_setCounts_33 : decode cX5_setCounts 33 = .ok (.getfield 10, 3) := by decide +kernel
theorem dX5_setCounts_36 : decode cX5_setCounts 36 = .ok (.invokevirtual 71, 3) := by decide +kernel
theorem dX5_setCounts_39 : decode cX5_setCounts 39 = .ok (.aload_n 0, 1) := by decide +kernel
theorem dX5_setCounts_40 : decode cX5_setCounts 40 = .ok (.getfield 10, 3) := by decide +kernel
theorem dX5_setCounts_43 : decode cX5_setCounts 43 = .ok (.getfield 87, 3) := by decide +kernel
theorem dX5_setCounts_46 : decode cX5_setCounts 46 = .ok (.istore_n 2, 1) := by decide +kernel
theorem dX5_setCounts_47 : decode cX5_setCounts 47 = .ok (.aload_n 0, 1) := by decide +kernel
theorem dX5_setCounts_48 : decode cX5_setCounts 48 = .ok (.getfield 10, 3) := by decide +kernel
theorem dX5_setCounts_51 : decode cX5_setCounts 51 = .ok (.iload_n 1, 1) := by decide +kernel
theorem dX5_setCounts_52 : decode cX5_setCounts 52 = .ok (.putfield 87, 3) := by decide +kernel
theorem dX5_setCounts_55 : decode cX5_setCounts 55 = .ok (.iload_n 2, 1) := by decide +kernel
theorem dX5_setCounts_56 : decode cX5_setCounts 56 = .ok (.ireturn, 1) := by decide +kernel
theorem dX5_stateOf_0 : decode cX5_stateOf 0 = .ok (.aload_n 0, 1) := by decide +kernel
theorem dX5_stateOf_1 : decode cX5_stateOf 1 = .ok (.iload_n 1, 1) := by decide +kernel
theorem dX5_stateOf_2 : decode cX5_stateOf 2 = .ok (.invokevirtual 36, 3) := by decide +kernel
theorem dX5_stateOf_5 : decode cX5_stateOf 5 = .ok (.getfield 154, 3) := by decide +kernel
theorem dX5_stateOf_8 : decode cX5_stateOf 8 = .ok (.ireturn, 1) := by decide +kernel
theorem dX5_positionOf_0 : decode cX5_positionOf 0 = .ok (.aload_n 0, 1) := by decide +kernel
theorem dX5_positionOf_1 : decode cX5_positionOf 1 = .ok (.iload_n 1, 1) := by decide +kernel
theorem dX5_positionOf_2 : decode cX5_positionOf 2 = .ok (.invokevirtual 36, 3) := by decide +kernel
theorem dX5_positionOf_5 : decode cX5_positionOf 5 = .ok (.getfield 84, 3) := by decide +kernel
theorem dX5_positionOf_8 : decode cX5_positionOf 8 = .ok (.ireturn, 1) := by decide +kernel
theorem dX5_positionByTracks_0 : decode cX5_positionByTracks 0 = .ok (.aload_n 0, 1) := by decide +kernel
theorem dX5_positionByTracks_1 : decode cX5_positionByTracks 1 = .ok (.iload_n 1, 1) := by decide +kernel
theorem dX5_positionByTracks_2 : decode cX5_positionByTracks 2 = .ok (.invokevirtual 36, 3) := by decide +kernel
theorem dX5_positionByTracks_5 : decode cX5_positionByTracks 5 = .ok (.astore_n 2, 1) := by decide +kernel
theorem dX5_positionByTracks_6 : decode cX5_positionByTracks 6 = .ok (.aload_n 2, 1) := by decide +kernel
theorem dX5_positionByTracks_7 : decode cX5_positionByTracks 7 = .ok (.getfield 157, 3) := by decide +kernel
theorem dX5_positionByTracks_10 : decode cX5_positionByTracks 10 = .ok (.aload_n 2, 1) := by decide +kernel
theorem dX5_positionByTracks_11 : decode cX5_positionByTracks 11 = .ok (.getfield 160, 3) := by decide +kernel
theorem dX5_positionByTracks_14 : decode cX5_positionByTracks 14 = .ok (.iadd, 1) := by decide +kernel
theorem dX5_positionByTracks_15 : decode cX5_positionByTracks 15 = .ok (.aload_n 2, 1) := by decide +kernel
theorem dX5_positionByTracks_16 : decode cX5_positionByTracks 16 = .ok (.getfield 163, 3) := by decide +kernel
theorem dX5_positionByTracks_19 : decode cX5_positionByTracks 19 = .ok (.iadd, 1) := by decide +kernel
theorem dX5_positionByTracks_20 : decode cX5_positionByTracks 20 = .ok (.aload_n 2, 1) := by decide +kernel
theorem dX5_positionByTracks_21 : decode cX5_positionByTracks 21 = .ok (.getfield 166, 3) := by decide +kernel
theorem dX5_positionByTracks_24 : decode cX5_positionByTracks 24 = .ok (.isub, 1) := by decide +kernel
theorem dX5_positionByTracks_25 : decode cX5_positionByTracks 25 = .ok (.ireturn, 1) := by decide +kernel
theorem dX5_turnsOf_0 : decode cX5_turnsOf 0 = .ok (.aload_n 0, 1) := by decide +kernel
theorem dX5_turnsOf_1 : decode cX5_turnsOf 1 = .ok (.iload_n 1, 1) := by decide +kernel
theorem dX5_turnsOf_2 : decode cX5_turnsOf 2 = .ok (.invokevirtual 36, 3) := by decide +kernel
theorem dX5_turnsOf_5 : decode cX5_turnsOf 5 = .ok (.aload_n 0, 1) := by decide +kernel
theorem dX5_turnsOf_6 : decode cX5_turnsOf 6 = .ok (.getfield 10, 3) := by decide +kernel
theorem dX5_turnsOf_9 : decode cX5_turnsOf 9 = .ok (.getfield 87, 3) := by decide +kernel
theorem dX5_turnsOf_12 : decode cX5_turnsOf 12 = .ok (.invokevirtual 169, 3) := by decide +kernel
theorem dX5_turnsOf_15 : decode cX5_turnsOf 15 = .ok (.ireturn, 1) := by decide +kernel
theorem dX5_placeOf_0 : decode cX5_placeOf 0 = .ok (.aload_n 0, 1) := by decide +kernel
theorem dX5_placeOf_1 : decode cX5_placeOf 1 = .ok (.iload_n 1, 1) := by decide +kernel
theorem dX5_placeOf_2 : decode cX5_placeOf 2 = .ok (.invokevirtual 36, 3) := by decide +kernel
theorem dX5_placeOf_5 : decode cX5_placeOf 5 = .ok (.aload_n 0, 1) := by decide +kernel
theorem dX5_placeOf_6 : decode cX5_placeOf 6 = .ok (.getfield 10, 3) := by decide +kernel
theorem dX5_placeOf_9 : decode cX5_placeOf 9 = .ok (.getfield 87, 3) := by decide +kernel
theorem dX5_placeOf_12 : decode cX5_placeOf 12 = .ok (.invokevirtual 172, 3) := by decide +kernel
theorem dX5_placeOf_15 : decode cX5_placeOf 15 = .ok (.ireturn, 1) := by decide +kernel
theorem dX5_directionOf_0 : decode cX5_directionOf 0 = .ok (.aload_n 0, 1) := by decide +kernel
theorem dX5_directionOf_1 : decode cX5_directionOf 1 = .ok (.iload_n 1, 1) := by decide +kernel
theorem dX5_directionOf_2 : decode cX5_directionOf 2 = .ok (.invokevirtual 36, 3) := by decide +kernel
theorem dX5_directionOf_5 : decode cX5_directionOf 5 = .ok (.getfield 175, 3) := by decide +kernel
theorem dX5_directionOf_8 : decode cX5_directionOf 8 = .ok (.ireturn, 1) := by decide +kernel
theorem dX5_countOfA_0 : decode cX5_countOfA 0 = .ok (.aload_n 0, 1) := by decide +kernel
theorem dX5_countOfA_1 : decode cX5_countOfA 1 = .ok (.iload_n 1, 1) := by decide +kernel
theorem dX5_countOfA_2 : decode cX5_countOfA 2 = .ok (.invokevirtual 36, 3) := by decide +kernel
theorem dX5_countOfA_5 : decode cX5_countOfA 5 = .ok (.getfield 157, 3) := by decide +kernel
theorem dX5_countOfA_8 : decode cX5_countOfA 8 = .ok (.ireturn, 1) := by decide +kernel
theorem dX5_leader_0 : decode cX5_leader 0 = .ok (.iconst 0, 1) := by decide +kernel
theorem dX5_leader_1 : decode cX5_leader 1 = .ok (.istore_n 1, 1) := by decide +kernel
theorem dX5_leader_2 : decode cX5_leader 2 = .ok (.iconst 1, 1) := by decide +kernel
theorem dX5_leader_3 : decode cX5_leader 3 = .ok (.istore_n 2, 1) := by decide +kernel
theorem dX5_leader_4 : decode cX5_leader 4 = .ok (.iload_n 2, 1) := by decide +kernel
theorem dX5_leader_5 : decode cX5_leader 5 = .ok (.iconst 4, 1) := by decide +kernel
theorem dX5_leader_6 : decode cX5_leader 6 = .ok (.if_icmp .ge 36, 3) := by decide +kernel
theorem dX5_leader_9 : decode cX5_leader 9 = .ok (.aload_n 0, 1) := by decide +kernel
theorem dX5_leader_10 : decode cX5_leader 10 = .ok (.getfield 10, 3) := by decide +kernel
theorem dX5_leader_13 : decode cX5_leader 13 = .ok (.iload_n 2, 1) := by decide +kernel
theorem dX5_leader_14 : decode cX5_leader 14 = .ok (.invokevirtual 178, 3) := by decide +kernel
theorem dX5_leader_17 : decode cX5_leader 17 = .ok (.getfield 84, 3) := by decide +kernel
theorem dX5_leader_20 : decode cX5_leader 20 = .ok (.aload_n 0, 1) := by decide +kernel
theorem dX5_leader_21 : decode cX5_leader 21 = .ok (.getfield 10, 3) := by decide +kernel
theorem dX5_leader_24 : decode cX5_leader 24 = .ok (.iload_n 1, 1) := by decide +kernel
theorem dX5_leader_25 : decode cX5_leader 25 = .ok (.invokevirtual 178, 3) := by decide +kernel
theorem dX5_leader_28 : decode cX5_leader 28 = .ok (.getfield 84, 3) := by decide +kernel
theorem dX5_leader_31 : decode cX5_leader 31 = .ok (.if_icmp .le 5, 3) := by decide +kernel
theorem dX5_leader_34 : decode cX5_leader 34 = .ok (.iload_n 2, 1) := by decide +kernel
theorem dX5_leader_35 : decode cX5_leader 35 = .ok (.istore_n 1, 1) := by decide +kernel
theorem dX5_leader_36 : decode cX5_leader 36 = .ok (.iinc 2 1, 3) := by decide +kernel
theorem dX5_leader_39 : decode cX5_leader 39 = .ok (.goto (-35), 3) := by decide +kernel
theorem dX5_leader_42 : decode cX5_leader 42 = .ok (.iload_n 1, 1) := by decide +kernel
theorem dX5_leader_43 : decode cX5_leader 43 = .ok (.ireturn, 1) := by decide +kernel
theorem dX5_stepTo_0 : decode cX5_stepTo 0 = .ok (.aload_n 0, 1) := by decide +kernel
theorem dX5_stepTo_1 : decode cX5_stepTo 1 = .ok (.iload_n 1, 1) := by decide +kernel
theorem dX5_stepTo_2 : decode cX5_stepTo 2 = .ok (.invokevirtual 36, 3) := by decide +kernel
theorem dX5_stepTo_5 : decode cX5_stepTo 5 = .ok (.astore_n 3, 1) := by decide +kernel
theorem dX5_stepTo_6 : decode cX5_stepTo 6 = .ok (.iload_n 2, 1) := by decide +kernel
theorem dX5_stepTo_7 : decode cX5_stepTo 7 = .ok (.invokestatic 40, 3) := by decide +kernel
theorem dX5_stepTo_10 : decode cX5_stepTo 10 = .ok (.aload_n 3, 1) := by decide +kernel
theorem dX5_stepTo_11 : decode cX5_stepTo 11 = .ok (.aload_n 0, 1) := by decide +kernel
theorem dX5_stepTo_12 : decode cX5_stepTo 12 = .ok (.getfield 10, 3) := by decide +kernel
theorem dX5_stepTo_15 : decode cX5_stepTo 15 = .ok (.getfield 51, 3) := by decide +kernel
theorem dX5_stepTo_18 : decode cX5_stepTo 18 = .ok (.iload_n 2, 1) := by decide +kernel
theorem dX5_stepTo_19 : decode cX5_stepTo 19 = .ok (.invokevirtual 55, 3) := by decide +kernel
theorem dX5_stepTo_22 : decode cX5_stepTo 22 = .ok (.ireturn, 1) := by decide +kernel
theorem dX5_logLength_0 : decode cX5_logLength 0 = .ok (.aload_n 0, 1) := by decide +kernel
theorem dX5_logLength_1 : decode cX5_logLength 1 = .ok (.iload_n 1, 1) := by decide +kernel
theorem dX5_logLength_2 : decode cX5_logLength 2 = .ok (.invokevirtual 36, 3) := by decide +kernel
theorem dX5_logLength_5 : decode cX5_logLength 5 = .ok (.getfield 181, 3) := by decide +kernel
theorem dX5_logLength_8 : decode cX5_logLength 8 = .ok (.getfield 185, 3) := by decide +kernel
theorem dX5_logLength_11 : decode cX5_logLength 11 = .ok (.ireturn, 1) := by decide +kernel
theorem dX5_loggedStep_0 : decode cX5_loggedStep 0 = .ok (.aload_n 0, 1) := by decide +kernel
theorem dX5_loggedStep_1 : decode cX5_loggedStep 1 = .ok (.iload_n 1, 1) := by decide +kernel
theorem dX5_loggedStep_2 : decode cX5_loggedStep 2 = .ok (.invokevirtual 36, 3) := by decide +kernel
theorem dX5_loggedStep_5 : decode cX5_loggedStep 5 = .ok (.astore_n 3, 1) := by decide +kernel
theorem dX5_loggedStep_6 : decode cX5_loggedStep 6 = .ok (.iload_n 2, 1) := by decide +kernel
theorem dX5_loggedStep_7 : decode cX5_loggedStep 7 = .ok (.ifCond .lt 14, 3) := by decide +kernel
theorem dX5_loggedStep_10 : decode cX5_loggedStep 10 = .ok (.iload_n 2, 1) := by decide +kernel
theorem dX5_loggedStep_11 : decode cX5_loggedStep 11 = .ok (.aload_n 3, 1) := by decide +kernel
theorem dX5_loggedStep_12 : decode cX5_loggedStep 12 = .ok (.getfield 181, 3) := by decide +kernel
theorem dX5_loggedStep_15 : decode cX5_loggedStep 15 = .ok (.getfield 185, 3) := by decide +kernel
theorem dX5_loggedStep_18 : decode cX5_loggedStep 18 = .ok (.if_icmp .lt 13, 3) := by decide +kernel
theorem dX5_loggedStep_21 : decode cX5_loggedStep 21 = .ok (.new 188, 3) := by decide +kernel
theorem dX5_loggedStep_24 : decode cX5_loggedStep 24 = .ok (.dup, 1) := by decide +kernel
theorem dX5_loggedStep_25 : decode cX5_loggedStep 25 = .ok (.ldc 190, 2) := by decide +kernel
theorem dX5_loggedStep_27 : decode cX5_loggedStep 27 = .ok (.invokespecial 192, 3) := by decide +kernel
theorem dX5_loggedStep_30 : decode cX5_loggedStep 30 = .ok (.athrow, 1) := by decide +kernel
theorem dX5_loggedStep_31 : decode cX5_loggedStep 31 = .ok (.aload_n 3, 1) := by decide +kernel
theorem dX5_loggedStep_32 : decode cX5_loggedStep 32 = .ok (.getfield 181, 3) := by decide +kernel
theorem dX5_loggedStep_35 : decode cX5_loggedStep 35 = .ok (.iload_n 2, 1) := by decide +kernel
theorem dX5_loggedStep_36 : decode cX5_loggedStep 36 = .ok (.invokevirtual 193, 3) := by decide +kernel
theorem dX5_loggedStep_39 : decode cX5_loggedStep 39 = .ok (.ireturn, 1) := by decide +kernel
theorem dX5_speedOf_0 : decode cX5_speedOf 0 = .ok (.aload_n 0, 1) := by decide +kernel
theorem dX5_speedOf_1 : decode cX5_speedOf 1 = .ok (.iload_n 1, 1) := by decide +kernel
theorem dX5_speedOf_2 : decode cX5_speedOf 2 = .ok (.invokevirtual 36, 3) := by decide +kernel
theorem dX5_speedOf_5 : decode cX5_speedOf 5 = .ok (.getfield 181, 3) := by decide +kernel
theorem dX5_speedOf_8 : decode cX5_speedOf 8 = .ok (.invokevirtual 196, 3) := by decide +kernel
theorem dX5_speedOf_11 : decode cX5_speedOf 11 = .ok (.dreturn, 1) := by decide +kernel
theorem dX5_errorsOf_0 : decode cX5_errorsOf 0 = .ok (.aload_n 0, 1) := by decide +kernel
theorem dX5_errorsOf_1 : decode cX5_errorsOf 1 = .ok (.iload_n 1, 1) := by decide +kernel
theorem dX5_errorsOf_2 : decode cX5_errorsOf 2 = .ok (.invokevirtual 36, 3) := by decide +kernel
theorem dX5_errorsOf_5 : decode cX5_errorsOf 5 = .ok (.getfield 200, 3) := by decide +kernel
theorem dX5_errorsOf_8 : decode cX5_errorsOf 8 = .ok (.ireturn, 1) := by decide +kernel
theorem dX5_slipsOf_0 : decode cX5_slipsOf 0 = .ok (.aload_n 0, 1) := by decide +kernel
theorem dX5_slipsOf_1 : decode cX5_slipsOf 1 = .ok (.iload_n 1, 1) := by decide +kernel
theorem dX5_slipsOf_2 : decode cX5_slipsOf 2 = .ok (.invokevirtual 36, 3) := by decide +kernel
theorem dX5_slipsOf_5 : decode cX5_slipsOf 5 = .ok (.getfield 203, 3) := by decide +kernel
theorem dX5_slipsOf_8 : decode cX5_slipsOf 8 = .ok (.ireturn, 1) := by decide +kernel
theorem dX5_distanceOf_0 : decode cX5_distanceOf 0 = .ok (.aload_n 0, 1) := by decide +kernel
theorem dX5_distanceOf_1 : decode cX5_distanceOf 1 = .ok (.iload_n 1, 1) := by decide +kernel
theorem dX5_distanceOf_2 : decode cX5_distanceOf 2 = .ok (.invokevirtual 36, 3) := by decide +kernel
theorem dX5_distanceOf_5 : decode cX5_distanceOf 5 = .ok (.getfield 206, 3) := by decide +kernel
theorem dX5_distanceOf_8 : decode cX5_distanceOf 8 = .ok (.ireturn, 1) := by decide +kernel
theorem dX5_ticksOf_0 : decode cX5_ticksOf 0 = .ok (.aload_n 0, 1) := by decide +kernel
theorem dX5_ticksOf_1 : decode cX5_ticksOf 1 = .ok (.iload_n 1, 1) := by decide +kernel
theorem dX5_ticksOf_2 : decode cX5_ticksOf 2 = .ok (.invokevirtual 36, 3) := by decide +kernel
theorem dX5_ticksOf_5 : decode cX5_ticksOf 5 = .ok (.getfield 209, 3) := by decide +kernel
theorem dX5_ticksOf_8 : decode cX5_ticksOf 8 = .ok (.ireturn, 1) := by decide +kernel
theorem dX5_counts_0 : decode cX5_counts 0 = .ok (.aload_n 0, 1) := by decide +kernel
theorem dX5_counts_1 : decode cX5_counts 1 = .ok (.getfield 10, 3) := by decide +kernel
theorem dX5_counts_4 : decode cX5_counts 4 = .ok (.getfield 87, 3) := by decide +kernel
theorem dX5_counts_7 : decode cX5_counts 7 = .ok (.ireturn, 1) := by decide +kernel
theorem dX5_rule_0 : decode cX5_rule 0 = .ok (.aload_n 0, 1) := by decide +kernel
theorem dX5_rule_1 : decode cX5_rule 1 = .ok (.getfield 10, 3) := by decide +kernel
theorem dX5_rule_4 : decode cX5_rule 4 = .ok (.getfield 51, 3) := by decide +kernel
theorem dX5_rule_7 : decode cX5_rule 7 = .ok (.ireturn, 1) := by decide +kernel
theorem dX5_snailNumbered_0 : decode cX5_snailNumbered 0 = .ok (.iload_n 1, 1) := by decide +kernel
theorem dX5_snailNumbered_1 : decode cX5_snailNumbered 1 = .ok (.ifCond .lt 8, 3) := by decide +kernel
theorem dX5_snailNumbered_4 : decode cX5_snailNumbered 4 = .ok (.iload_n 1, 1) := by decide +kernel
theorem dX5_snailNumbered_5 : decode cX5_snailNumbered 5 = .ok (.iconst 4, 1) := by decide +kernel
theorem dX5_snailNumbered_6 : decode cX5_snailNumbered 6 = .ok (.if_icmp .lt 13, 3) := by decide +kernel
theorem dX5_snailNumbered_9 : decode cX5_snailNumbered 9 = .ok (.new 188, 3) := by decide +kernel
theorem dX5_snailNumbered_12 : decode cX5_snailNumbered 12 = .ok (.dup, 1) := by decide +kernel
theorem dX5_snailNumbered_13 : decode cX5_snailNumbered 13 = .ok (.ldc 212, 2) := by decide +kernel
theorem dX5_snailNumbered_15 : decode cX5_snailNumbered 15 = .ok (.invokespecial 192, 3) := by decide +kernel
theorem dX5_snailNumbered_18 : decode cX5_snailNumbered 18 = .ok (.athrow, 1) := by decide +kernel
theorem dX5_snailNumbered_19 : decode cX5_snailNumbered 19 = .ok (.aload_n 0, 1) := by decide +kernel
theorem dX5_snailNumbered_20 : decode cX5_snailNumbered 20 = .ok (.getfield 10, 3) := by decide +kernel
theorem dX5_snailNumbered_23 : decode cX5_snailNumbered 23 = .ok (.iload_n 1, 1) := by decide +kernel
theorem dX5_snailNumbered_24 : decode cX5_snailNumbered 24 = .ok (.invokevirtual 178, 3) := by decide +kernel
theorem dX5_snailNumbered_27 : decode cX5_snailNumbered 27 = .ok (.areturn, 1) := by decide +kernel
theorem dX5_demandState_0 : decode cX5_demandState 0 = .ok (.iload_n 0, 1) := by decide +kernel
theorem dX5_demandState_1 : decode cX5_demandState 1 = .ok (.ifCond .lt 8, 3) := by decide +kernel
theorem dX5_demandState_4 : decode cX5_demandState 4 = .ok (.iload_n 0, 1) := by decide +kernel
theorem dX5_demandState_5 : decode cX5_demandState 5 = .ok (.iconst 4, 1) := by decide +kernel
theorem dX5_demandState_6 : decode cX5_demandState 6 = .ok (.if_icmp .lt 13, 3) := by decide +kernel
theorem dX5_demandState_9 : decode cX5_demandState 9 = .ok (.new 44, 3) := by decide +kernel
theorem dX5_demandState_12 : decode cX5_demandState 12 = .ok (.dup, 1) := by decide +kernel
theorem dX5_demandState_13 : decode cX5_demandState 13 = .ok (.ldc 214, 2) := by decide +kernel
theorem dX5_demandState_15 : decode cX5_demandState 15 = .ok (.invokespecial 48, 3) := by decide +kernel
theorem dX5_demandState_18 : decode cX5_demandState 18 = .ok (.athrow, 1) := by decide +kernel
theorem dX5_demandState_19 : decode cX5_demandState 19 = .ok (.return_, 1) := by decide +kernel
theorem dX5_demandRoom_0 : decode cX5_demandRoom 0 = .ok (.aload_n 0, 1) := by decide +kernel
theorem dX5_demandRoom_1 : decode cX5_demandRoom 1 = .ok (.iload_n 1, 1) := by decide +kernel
theorem dX5_demandRoom_2 : decode cX5_demandRoom 2 = .ok (.iload_n 2, 1) := by decide +kernel
theorem dX5_demandRoom_3 : decode cX5_demandRoom 3 = .ok (.invokevirtual 216, 3) := by decide +kernel
theorem dX5_demandRoom_6 : decode cX5_demandRoom 6 = .ok (.ifCond .ne 13, 3) := by decide +kernel
theorem dX5_demandRoom_9 : decode cX5_demandRoom 9 = .ok (.new 99, 3) := by decide +kernel
theorem dX5_demandRoom_12 : decode cX5_demandRoom 12 = .ok (.dup, 1) := by decide +kernel
theorem dX5_demandRoom_13 : decode cX5_demandRoom 13 = .ok (.ldc 220, 2) := by decide +kernel
theorem dX5_demandRoom_15 : decode cX5_demandRoom 15 = .ok (.invokespecial 103, 3) := by decide +kernel
theorem dX5_demandRoom_18 : decode cX5_demandRoom 18 = .ok (.athrow, 1) := by decide +kernel
theorem dX5_demandRoom_19 : decode cX5_demandRoom 19 = .ok (.return_, 1) := by decide +kernel
theorem dJ9_floorDiv_7cf53_0 : decode cJ9_floorDiv_7cf53 0 = .ok (.iload_n 0, 1) := by decide +kernel
theorem dJ9_floorDiv_7cf53_1 : decode cJ9_floorDiv_7cf53 1 = .ok (.iload_n 1, 1) := by decide +kernel
theorem dJ9_floorDiv_7cf53_2 : decode cJ9_floorDiv_7cf53 2 = .ok (.idiv, 1) := by decide +kernel
theorem dJ9_floorDiv_7cf53_3 : decode cJ9_floorDiv_7cf53 3 = .ok (.istore_n 2, 1) := by decide +kernel
theorem dJ9_floorDiv_7cf53_4 : decode cJ9_floorDiv_7cf53 4 = .ok (.iload_n 0, 1) := by decide +kernel
theorem dJ9_floorDiv_7cf53_5 : decode cJ9_floorDiv_7cf53 5 = .ok (.iload_n 1, 1) := by decide +kernel
theorem dJ9_floorDiv_7cf53_6 : decode cJ9_floorDiv_7cf53 6 = .ok (.ixor, 1) := by decide +kernel
theorem dJ9_floorDiv_7cf53_7 : decode cJ9_floorDiv_7cf53 7 = .ok (.ifCond .ge 14, 3) := by decide +kernel
theorem dJ9_floorDiv_7cf53_10 : decode cJ9_floorDiv_7cf53 10 = .ok (.iload_n 2, 1) := by decide +kernel
theorem dJ9_floorDiv_7cf53_11 : decode cJ9_floorDiv_7cf53 11 = .ok (.iload_n 1, 1) := by decide +kernel
theorem dJ9_floorDiv_7cf53_12 : decode cJ9_floorDiv_7cf53 12 = .ok (.imul, 1) := by decide +kernel
theorem dJ9_floorDiv_7cf53_13 : decode cJ9_floorDiv_7cf53 13 = .ok (.iload_n 0, 1) := by decide +kernel
theorem dJ9_floorDiv_7cf53_14 : decode cJ9_floorDiv_7cf53 14 = .ok (.if_icmp .eq 7, 3) := by decide +kernel
theorem dJ9_floorDiv_7cf53_17 : decode cJ9_floorDiv_7cf53 17 = .ok (.iload_n 2, 1) := by decide +kernel
theorem dJ9_floorDiv_7cf53_18 : decode cJ9_floorDiv_7cf53 18 = .ok (.iconst 1, 1) := by decide +kernel
theorem dJ9_floorDiv_7cf53_19 : decode cJ9_floorDiv_7cf53 19 = .ok (.isub, 1) := by decide +kernel
theorem dJ9_floorDiv_7cf53_20 : decode cJ9_floorDiv_7cf53 20 = .ok (.ireturn, 1) := by decide +kernel
theorem dJ9_floorDiv_7cf53_21 : decode cJ9_floorDiv_7cf53 21 = .ok (.iload_n 2, 1) := by decide +kernel
theorem dJ9_floorDiv_7cf53_22 : decode cJ9_floorDiv_7cf53 22 = .ok (.ireturn, 1) := by decide +kernel
theorem dJ9_floorMod_7cf53_0 : decode cJ9_floorMod_7cf53 0 = .ok (.iload_n 0, 1) := by decide +kernel
theorem dJ9_floorMod_7cf53_1 : decode cJ9_floorMod_7cf53 1 = .ok (.iload_n 1, 1) := by decide +kernel
theorem dJ9_floorMod_7cf53_2 : decode cJ9_floorMod_7cf53 2 = .ok (.irem, 1) := by decide +kernel
theorem dJ9_floorMod_7cf53_3 : decode cJ9_floorMod_7cf53 3 = .ok (.istore_n 2, 1) := by decide +kernel
theorem dJ9_floorMod_7cf53_4 : decode cJ9_floorMod_7cf53 4 = .ok (.iload_n 0, 1) := by decide +kernel
theorem dJ9_floorMod_7cf53_5 : decode cJ9_floorMod_7cf53 5 = .ok (.iload_n 1, 1) := by decide +kernel
theorem dJ9_floorMod_7cf53_6 : decode cJ9_floorMod_7cf53 6 = .ok (.ixor, 1) := by decide +kernel
theorem dJ9_floorMod_7cf53_7 : decode cJ9_floorMod_7cf53 7 = .ok (.ifCond .ge 11, 3) := by decide +kernel
theorem dJ9_floorMod_7cf53_10 : decode cJ9_floorMod_7cf53 10 = .ok (.iload_n 2, 1) := by decide +kernel
theorem dJ9_floorMod_7cf53_11 : decode cJ9_floorMod_7cf53 11 = .ok (.ifCond .eq 7, 3) := by decide +kernel
theorem dJ9_floorMod_7cf53_14 : decode cJ9_floorMod_7cf53 14 = .ok (.iload_n 2, 1) := by decide +kernel
theorem dJ9_floorMod_7cf53_15 : decode cJ9_floorMod_7cf53 15 = .ok (.iload_n 1, 1) := by decide +kernel
theorem dJ9_floorMod_7cf53_16 : decode cJ9_floorMod_7cf53 16 = .ok (.iadd, 1) := by decide +kernel
theorem dJ9_floorMod_7cf53_17 : decode cJ9_floorMod_7cf53 17 = .ok (.ireturn, 1) := by decide +kernel
theorem dJ9_floorMod_7cf53_18 : decode cJ9_floorMod_7cf53 18 = .ok (.iload_n 2, 1) := by decide +kernel
theorem dJ9_floorMod_7cf53_19 : decode cJ9_floorMod_7cf53 19 = .ok (.ireturn, 1) := by decide +kernel
theorem dJ9_abs_0f7a4_0 : decode cJ9_abs_0f7a4 0 = .ok (.iload_n 0, 1) := by decide +kernel
theorem dJ9_abs_0f7a4_1 : decode cJ9_abs_0f7a4 1 = .ok (.ifCond .ge 8, 3) := by decide +kernel
theorem dJ9_abs_0f7a4_4 : decode cJ9_abs_0f7a4 4 = .ok (.iload_n 0, 1) := by decide +kernel
theorem dJ9_abs_0f7a4_5 : decode cJ9_abs_0f7a4 5 = .ok (.ineg, 1) := by decide +kernel
theorem dJ9_abs_0f7a4_6 : decode cJ9_abs_0f7a4 6 = .ok (.goto 4, 3) := by decide +kernel
theorem dJ9_abs_0f7a4_9 : decode cJ9_abs_0f7a4 9 = .ok (.iload_n 0, 1) := by decide +kernel
theorem dJ9_abs_0f7a4_10 : decode cJ9_abs_0f7a4 10 = .ok (.ireturn, 1) := by decide +kernel
