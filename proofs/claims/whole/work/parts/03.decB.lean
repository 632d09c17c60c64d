theorem dX5_init_0 : decode cX5_init 0 = .ok (.aload_n 0, 1) := by decide +kernel
theorem dX5_init_1 : decode cX5_init 1 = .ok (.invokespecial 1, 3) := by decide +kernel
theorem dX5_init_4 : decode cX5_init 4 = .ok (.aload_n 0, 1) := by decide +kernel
theorem dX5_init_5 : decode cX5_init 5 = .ok (.new 7, 3) := by decide +kernel
theorem dX5_init_8 : decode cX5_init 8 = .ok (.dup, 1) := by decide +kernel
theorem dX5_init_9 : decode cX5_init 9 = .ok (.invokespecial 9, 3) := by decide +kernel
theorem dX5_init_12 : decode cX5_init 12 = .ok (.putfield 10, 3) := by decide +kernel
theorem dX5_init_15 : decode cX5_init 15 = .ok (.aload_n 0, 1) := by decide +kernel
theorem dX5_init_16 : decode cX5_init 16 = .ok (.new 7, 3) := by decide +kernel
theorem dX5_init_19 : decode cX5_init 19 = .ok (.dup, 1) := by decide +kernel
theorem dX5_init_20 : decode cX5_init 20 = .ok (.invokespecial 9, 3) := by decide +kernel
theorem dX5_init_23 : decode cX5_init 23 = .ok (.putfield 16, 3) := by decide +kernel
theorem dX5_init_26 : decode cX5_init 26 = .ok (.aload_n 0, 1) := by decide +kernel
theorem dX5_init_27 : decode cX5_init 27 = .ok (.new 7, 3) := by decide +kernel
theorem dX5_init_30 : decode cX5_init 30 = .ok (.dup, 1) := by decide +kernel
theorem dX5_init_31 : decode cX5_init 31 = .ok (.invokespecial 9, 3) := by decide +kernel
theorem dX5_init_34 : decode cX5_init 34 = .ok (.putfield 19, 3) := by decide +kernel
theorem dX5_init_37 : decode cX5_init 37 = .ok (.aload_n 0, 1) := by decide +kernel
theorem dX5_init_38 : decode cX5_init 38 = .ok (.new 22, 3) := by decide +kernel
theorem dX5_init_41 : decode cX5_init 41 = .ok (.dup, 1) := by decide +kernel
theorem dX5_init_42 : decode cX5_init 42 = .ok (.invokespecial 24, 3) := by decide +kernel
theorem dX5_init_45 : decode cX5_init 45 = .ok (.putfield 25, 3) := by decide +kernel
theorem dX5_init_48 : decode cX5_init 48 = .ok (.aload_n 0, 1) := by decide +kernel
theorem dX5_init_49 : decode cX5_init 49 = .ok (.new 29, 3) := by decide +kernel
theorem dX5_init_52 : decode cX5_init 52 = .ok (.dup, 1) := by decide +kernel
theorem dX5_init_53 : decode cX5_init 53 = .ok (.invokespecial 31, 3) := by decide +kernel
theorem dX5_init_56 : decode cX5_init 56 = .ok (.putfield 32, 3) := by decide +kernel
theorem dX5_init_59 : decode cX5_init 59 = .ok (.return_, 1) := by decide +kernel
theorem dX5_feel_0 : decode cX5_feel 0 = .ok (.aload_n 0, 1) := by decide +kernel
theorem dX5_feel_1 : decode cX5_feel 1 = .ok (.iload_n 1, 1) := by decide +kernel
theorem dX5_feel_2 : decode cX5_feel 2 = .ok (.invokevirtual 36, 3) := by decide +kernel
theorem dX5_feel_5 : decode cX5_feel 5 = .ok (.astore 4, 2) := by decide +kernel
theorem dX5_feel_7 : decode cX5_feel 7 = .ok (.iload_n 2, 1) := by decide +kernel
theorem dX5_feel_8 : decode cX5_feel 8 = .ok (.invokestatic 40, 3) := by decide +kernel
theorem dX5_feel_11 : decode cX5_feel 11 = .ok (.iload_n 3, 1) := by decide +kernel
theorem dX5_feel_12 : decode cX5_feel 12 = .ok (.iconst 1, 1) := by decide +kernel
theorem dX5_feel_13 : decode cX5_feel 13 = .ok (.if_icmp .lt 10, 3) := by decide +kernel
theorem dX5_feel_16 : decode cX5_feel 16 = .ok (.iload_n 3, 1) := by decide +kernel
theorem dX5_feel_17 : decode cX5_feel 17 = .ok (.sipush 1000, 3) := by decide +kernel
theorem dX5_feel_20 : decode cX5_feel 20 = .ok (.if_icmp .le 13, 3) := by decide +kernel
theorem dX5_feel_23 : decode cX5_feel 23 = .ok (.new 44, 3) := by decide +kernel
theorem dX5_feel_26 : decode cX5_feel 26 = .ok (.dup, 1) := by decide +kernel
theorem dX5_feel_27 : decode cX5_feel 27 = .ok (.ldc 46, 2) := by decide +kernel
theorem dX5_feel_29 : decode cX5_feel 29 = .ok (.invokespecial 48, 3) := by decide +kernel
theorem dX5_feel_32 : decode cX5_feel 32 = .ok (.athrow, 1) := by decide +kernel
theorem dX5_feel_33 : decode cX5_feel 33 = .ok (.aload 4, 2) := by decide +kernel
theorem dX5_feel_35 : decode cX5_feel 35 = .ok (.aload_n 0, 1) := by decide +kernel
theorem dX5_feel_36 : decode cX5_feel 36 = .ok (.getfield 10, 3) := by decide +kernel
theorem dX5_feel_39 : decode cX5_feel 39 = .ok (.getfield 51, 3) := by decide +kernel
theorem dX5_feel_42 : decode cX5_feel 42 = .ok (.iload_n 2, 1) := by decide +kernel
theorem dX5_feel_43 : decode cX5_feel 43 = .ok (.invokevirtual 55, 3) := by decide +kernel
theorem dX5_feel_46 : decode cX5_feel 46 = .ok (.istore 5, 2) := by decide +kernel
theorem dX5_feel_48 : decode cX5_feel 48 = .ok (.aload 4, 2) := by decide +kernel
theorem dX5_feel_50 : decode cX5_feel 50 = .ok (.iload_n 3, 1) := by decide +kernel
theorem dX5_feel_51 : decode cX5_feel 51 = .ok (.iload 5, 2) := by decide +kernel
theorem dX5_feel_53 : decode cX5_feel 53 = .ok (.invokestatic 61, 3) := by decide +kernel
theorem dX5_feel_56 : decode cX5_feel 56 = .ok (.invokestatic 67, 3) := by decide +kernel
theorem dX5_feel_59 : decode cX5_feel 59 = .ok (.aload_n 0, 1) := by decide +kernel
theorem dX5_feel_60 : decode cX5_feel 60 = .ok (.getfield 25, 3) := by decide +kernel
theorem dX5_feel_63 : decode cX5_feel 63 = .ok (.aload_n 0, 1) := by decide +kernel
theorem dX5_feel_64 : decode cX5_feel 64 = .ok (.getfield 10, 3) := by decide +kernel
theorem dX5_feel_67 : decode cX5_feel 67 = .ok (.invokevirtual 71, 3) := by decide +kernel
theorem dX5_feel_70 : decode cX5_feel 70 = .ok (.aload 4, 2) := by decide +kernel
theorem dX5_feel_72 : decode cX5_feel 72 = .ok (.iload_n 2, 1) := by decide +kernel
theorem dX5_feel_73 : decode cX5_feel 73 = .ok (.iload 5, 2) := by decide +kernel
theorem dX5_feel_75 : decode cX5_feel 75 = .ok (.iload_n 3, 1) := by decide +kernel
theorem dX5_feel_76 : decode cX5_feel 76 = .ok (.invokevirtual 75, 3) := by decide +kernel
theorem dX5_feel_79 : decode cX5_feel 79 = .ok (.iload 5, 2) := by decide +kernel
theorem dX5_feel_81 : decode cX5_feel 81 = .ok (.ireturn, 1) := by decide +kernel
theorem dX5_crawl_0 : decode cX5_crawl 0 = .ok (.aload_n 0, 1) := by decide +kernel
theorem dX5_crawl_1 : decode cX5_crawl 1 = .ok (.iload_n 1, 1) := by decide +kernel
theorem dX5_crawl_2 : decode cX5_crawl 2 = .ok (.invokevirtual 36, 3) := by decide +kernel
theorem dX5_crawl_5 : decode cX5_crawl 5 = .ok (.astore_n 3, 1) := by decide +kernel
theorem dX5_crawl_6 : decode cX5_crawl 6 = .ok (.iload_n 2, 1) := by decide +kernel
theorem dX5_crawl_7 : decode cX5_crawl 7 = .ok (.bipush (-100), 2) := by decide +kernel
theorem dX5_crawl_9 : decode cX5_crawl 9 = .ok (.if_icmp .lt 9, 3) := by decide +kernel
theorem dX5_crawl_12 : decode cX5_crawl 12 = .ok (.iload_n 2, 1) := by decide +kernel
theorem dX5_crawl_13 : decode cX5_crawl 13 = .ok (.bipush 100, 2) := by decide +kernel
theorem dX5_crawl_15 : decode cX5_crawl 15 = .ok (.if_icmp .le 13, 3) := by decide +kernel
theorem dX5_crawl_18 : decode cX5_crawl 18 = .ok (.new 44, 3) := by decide +kernel
theorem dX5_crawl_21 : decode cX5_crawl 21 = .ok (.dup, 1) := by decide +kernel
theorem dX5_crawl_22 : decode cX5_crawl 22 = .ok (.ldc 79, 2) := by decide +kernel
theorem dX5_crawl_24 : decode cX5_crawl 24 = .ok (.invokespecial 48, 3) := by decide +kernel
theorem dX5_crawl_27 : decode cX5_crawl 27 = .ok (.athrow, 1) := by decide +kernel
theorem dX5_crawl_28 : decode cX5_crawl 28 = .ok (.iload_n 2, 1) := by decide +kernel
theorem dX5_crawl_29 : decode cX5_crawl 29 = .ok (.invokestatic 61, 3) := by decide +kernel
theorem dX5_crawl_32 : decode cX5_crawl 32 = .ok (.istore 4, 2) := by decide +kernel
theorem dX5_crawl_34 : decode cX5_crawl 34 = .ok (.aload_n 3, 1) := by decide +kernel
theorem dX5_crawl_35 : decode cX5_crawl 35 = .ok (.iload 4, 2) := by decide +kernel
theorem dX5_crawl_37 : decode cX5_crawl 37 = .ok (.iload 4, 2) := by decide +kernel
theorem dX5_crawl_39 : decode cX5_crawl 39 = .ok (.invokestatic 67, 3) := by decide +kernel
theorem dX5_crawl_42 : decode cX5_crawl 42 = .ok (.aload_n 0, 1) := by decide +kernel
theorem dX5_crawl_43 : decode cX5_crawl 43 = .ok (.getfield 25, 3) := by decide +kernel
theorem dX5_crawl_46 : decode cX5_crawl 46 = .ok (.aload_n 0, 1) := by decide +kernel
theorem dX5_crawl_47 : decode cX5_crawl 47 = .ok (.getfield 10, 3) := by decide +kernel
theorem dX5_crawl_50 : decode cX5_crawl 50 = .ok (.invokevirtual 71, 3) := by decide +kernel
theorem dX5_crawl_53 : decode cX5_crawl 53 = .ok (.iload_n 2, 1) := by decide +kernel
theorem dX5_crawl_54 : decode cX5_crawl 54 = .ok (.ifCond .ge 7, 3) := by decide +kernel
theorem dX5_crawl_57 : decode cX5_crawl 57 = .ok (.iconst (-1), 1) := by decide +kernel
theorem dX5_crawl_58 : decode cX5_crawl 58 = .ok (.goto 4, 3) := by decide +kernel
theorem dX5_crawl_61 : decode cX5_crawl 61 = .ok (.iconst 1, 1) := by decide +kernel
theorem dX5_crawl_62 : decode cX5_crawl 62 = .ok (.istore 5, 2) := by decide +kernel
theorem dX5_crawl_64 : decode cX5_crawl 64 = .ok (.iconst 0, 1) := by decide +kernel
theorem dX5_crawl_65 : decode cX5_crawl 65 = .ok (.istore 6, 2) := by decide +kernel
theorem dX5_crawl_67 : decode cX5_crawl 67 = .ok (.iload 6, 2) := by decide +kernel
theorem dX5_crawl_69 : decode cX5_crawl 69 = .ok (.iload 4, 2) := by decide +kernel
theorem dX5_crawl_71 : decode cX5_crawl 71 = .ok (.if_icmp .ge 22, 3) := by decide +kernel
theorem dX5_crawl_74 : decode cX5_crawl 74 = .ok (.aload_n 3, 1) := by decide +kernel
theorem dX5_crawl_75 : decode cX5_crawl 75 = .ok (.aload_n 3, 1) := by decide +kernel
theorem dX5_crawl_76 : decode cX5_crawl 76 = .ok (.iload 5, 2) := by decide +kernel
theorem dX5_crawl_78 : decode cX5_crawl 78 = .ok (.invokevirtual 81, 3) := by decide +kernel
theorem dX5_crawl_81 : decode cX5_crawl 81 = .ok (.iload 5, 2) := by decide +kernel
theorem dX5_crawl_83 : decode cX5_crawl 83 = .ok (.iconst 1, 1) := by decide +kernel
theorem dX5_crawl_84 : decode cX5_crawl 84 = .ok (.invokevirtual 75, 3) := by decide +kernel
theorem dX5_crawl_87 : decode cX5_crawl 87 = .ok (.iinc 6 1, 3) := by decide +kernel
theorem dX5_crawl_90 : decode cX5_crawl 90 = .ok (.goto (-23), 3) := by decide +kernel
theorem dX5_crawl_93 : decode cX5_crawl 93 = .ok (.aload_n 3, 1) := by decide +kernel
theorem dX5_crawl_94 : decode cX5_crawl 94 = .ok (.getfield 84, 3) := by decide +kernel
theorem dX5_crawl_97 : decode cX5_crawl 97 = .ok (.ireturn, 1) := by decide +kernel
theorem dX5_meetMark_0 : decode cX5_meetMark 0 = .ok (.aload_n 0, 1) := by decide +kernel
theorem dX5_meetMark_1 : decode cX5_meetMark 1 = .ok (.iload_n 1, 1) := by decide +kernel
theorem dX5_meetMark_2 : decode cX5_meetMark 2 = .ok (.invokevirtual 36, 3) := by decide +kernel
theorem dX5_meetMark_5 : decode cX5_meetMark 5 = .ok (.astore_n 2, 1) := by decide +kernel
theorem dX5_meetMark_6 : decode cX5_meetMark 6 = .ok (.aload_n 0, 1) := by decide +kernel
theorem dX5_meetMark_7 : decode cX5_meetMark 7 = .ok (.getfield 25, 3) := by decide +kernel
theorem dX5_meetMark_10 : decode cX5_meetMark 10 = .ok (.aload_n 0, 1) := by decide +kernel
theorem dX5_meetMark_11 : decode cX5_meetMark 11 = .ok (.getfield 10, 3) := by decide +kernel
theorem dX5_meetMark_14 : decode cX5_meetMark 14 = .ok (.invokevirtual 71, 3) := by decide +kernel
theorem dX5_meetMark_17 : decode cX5_meetMark 17 = .ok (.aload_n 2, 1) := by decide +kernel
theorem dX5_meetMark_18 : decode cX5_meetMark 18 = .ok (.aload_n 0, 1) := by decide +kernel
theorem dX5_meetMark_19 : decode cX5_meetMark 19 = .ok (.getfield 10, 3) := by decide +kernel
theorem dX5_meetMark_22 : decode cX5_meetMark 22 = .ok (.getfield 87, 3) := by decide +kernel
theorem dX5_meetMark_25 : decode cX5_meetMark 25 = .ok (.invokevirtual 90, 3) := by decide +kernel
theorem dX5_meetMark_28 : decode cX5_meetMark 28 = .ok (.ireturn, 1) := by decide +kernel
theorem dX5_goBack_0 : decode cX5_goBack 0 = .ok (.aload_n 0, 1) := by decide +kernel
theorem dX5_goBack_1 : decode cX5_goBack 1 = .ok (.iload_n 1, 1) := by decide +kernel
theorem dX5_goBack_2 : decode cX5_goBack 2 = .ok (.invokevirtual 36, 3) := by decide +kernel
theorem dX5_goBack_5 : decode cX5_goBack 5 = .ok (.astore_n 3, 1) := by decide +kernel
theorem dX5_goBack_6 : decode cX5_goBack 6 = .ok (.iload_n 2, 1) := by decide +kernel
theorem dX5_goBack_7 : decode cX5_goBack 7 = .ok (.iconst 1, 1) := by decide +kernel
theorem dX5_goBack_8 : decode cX5_goBack 8 = .ok (.if_icmp .lt 9, 3) := by decide +kernel
theorem dX5_goBack_11 : decode cX5_goBack 11 = .ok (.iload_n 2, 1) := by decide +kernel
theorem dX5_goBack_12 : decode cX5_goBack 12 = .ok (.bipush 16, 2) := by decide +kernel
theorem dX5_goBack_14 : decode cX5_goBack 14 = .ok (.if_icmp .le 13, 3) := by decide +kernel
theorem dX5_goBack_17 : decode cX5_goBack 17 = .ok (.new 44, 3) := by decide +kernel
theorem dX5_goBack_20 : decode cX5_goBack 20 = .ok (.dup, 1) := by decide +kernel
theorem dX5_goBack_21 : decode cX5_goBack 21 = .ok (.ldc 93, 2) := by decide +kernel
theorem dX5_goBack_23 : decode cX5_goBack 23 = .ok (.invokespecial 48, 3) := by decide +kernel
theorem dX5_goBack_26 : decode cX5_goBack 26 = .ok (.athrow, 1) := by decide +kernel
theorem dX5_goBack_27 : decode cX5_goBack 27 = .ok (.aload_n 3, 1) := by decide +kernel
theorem dX5_goBack_28 : decode cX5_goBack 28 = .ok (.iload_n 2, 1) := by decide +kernel
theorem dX5_goBack_29 : decode cX5_goBack 29 = .ok (.invokevirtual 95, 3) := by decide +kernel
theorem dX5_goBack_32 : decode cX5_goBack 32 = .ok (.ifCond .ne 13, 3) := by decide +kernel
theorem dX5_goBack_35 : decode cX5_goBack 35 = .ok (.new 99, 3) := by decide +kernel
theorem dX5_goBack_38 : decode cX5_goBack 38 = .ok (.dup, 1) := by decide +kernel
theorem dX5_goBack_39 : decode cX5_goBack 39 = .ok (.ldc 101, 2) := by decide +kernel
theorem dX5_goBack_41 : decode cX5_goBack 41 = .ok (.invokespecial 103, 3) := by decide +kernel
theorem dX5_goBack_44 : decode cX5_goBack 44 = .ok (.athrow, 1) := by decide +kernel
theorem dX5_goBack_45 : decode cX5_goBack 45 = .ok (.aload_n 0, 1) := by decide +kernel
theorem dX5_goBack_46 : decode cX5_goBack 46 = .ok (.getfield 25, 3) := by decide +kernel
theorem dX5_goBack_49 : decode cX5_goBack 49 = .ok (.aload_n 0, 1) := by decide +kernel
theorem dX5_goBack_50 : decode cX5_goBack 50 = .ok (.getfield 10, 3) := by decide +kernel
theorem dX5_goBack_53 : decode cX5_goBack 53 = .ok (.invokevirtual 71, 3) := by decide +kernel
theorem dX5_goBack_56 : decode cX5_goBack 56 = .ok (.aload_n 3, 1) := by decide +kernel
theorem dX5_goBack_57 : decode cX5_goBack 57 = .ok (.iload_n 2, 1) := by decide +kernel
theorem dX5_goBack_58 : decode cX5_goBack 58 = .ok (.invokevirtual 104, 3) := by decide +kernel
theorem dX5_goBack_61 : decode cX5_goBack 61 = .ok (.aload_n 3, 1) := by decide +kernel
theorem dX5_goBack_62 : decode cX5_goBack 62 = .ok (.getfield 84, 3) := by decide +kernel
theorem dX5_goBack_65 : decode cX5_goBack 65 = .ok (.ireturn, 1) := by decide +kernel
theorem dX5_setRule_0 : decode cX5_setRule 0 = .ok (.iload_n 1, 1) := by decide +kernel
theorem dX5_setRule_1 : decode cX5_setRule 1 = .ok (.ifCond .eq 18, 3) := by decide +kernel
theorem dX5_setRule_4 : decode cX5_setRule 4 = .ok (.iload_n 1, 1) := by decide +kernel
theorem dX5_setRule_5 : decode cX5_setRule 5 = .ok (.iconst 1, 1) := by decide +kernel
theorem dX5_setRule_6 : decode cX5_setRule 6 = .ok (.if_icmp .eq 13, 3) := by decide +kernel
theorem dX5_setRule_9 : decode cX5_setRule 9 = .ok (.new 44, 3) := by decide +kernel
theorem dX5_setRule_12 : decode cX5_setRule 12 = .ok (.dup, 1) := by decide +kernel
theorem dX5_setRule_13 : decode cX5_setRule 13 = .ok (.ldc 107, 2) := by decide +kernel
theorem dX5_setRule_15 : decode cX5_setRule 15 = .ok (.invokespecial 48, 3) := by decide +kernel
theorem dX5_setRule_18 : decode cX5_setRule 18 = .ok (.athrow, 1) := by decide +kernel
theorem dX5_setRule_19 : decode cX5_setRule 19 = .ok (.aload_n 0, 1) := by decide +kernel
theorem dX5_setRule_20 : decode cX5_setRule 20 = .ok (.getfield 25, 3) := by decide +kernel
theorem dX5_setRule_23 : decode cX5_setRule 23 = .ok (.aload_n 0, 1) := by decide +kernel
theorem dX5_setRule_24 : decode cX5_setRule 24 = .ok (.getfield 10, 3) := by decide +kernel
theorem dX5_setRule_27 : decode cX5_setRule 27 = .ok (.invokevirtual 71, 3) := by decide +kernel
theorem dX5_setRule_30 : decode cX5_setRule 30 = .ok (.aload_n 0, 1) := by decide +kernel
theorem dX5_setRule_31 : decode cX5_setRule 31 = .ok (.getfield 10, 3) := by decide +kernel
theorem dX5_setRule_34 : decode cX5_setRule 34 = .ok (.getfield 51, 3) := by decide +kernel
theorem dX5_setRule_37 : decode cX5_setRule 37 = .ok (.istore_n 2, 1) := by decide +kernel
theorem dX5_setRule_38 : decode cX5_setRule 38 = .ok (.aload_n 0, 1) := by decide +kernel
theorem dX5_setRule_39 : decode cX5_setRule 39 = .ok (.getfield 10, 3) := by decide +kernel
theorem dX5_setRule_42 : decode cX5_setRule 42 = .ok (.iload_n 1, 1) := by decide +kernel
theorem dX5_setRule_43 : decode cX5_setRule 43 = .ok (.putfield 51, 3) := by decide +kernel
theorem dX5_setRule_46 : decode cX5_setRule 46 = .ok (.iload_n 2, 1) := by decide +kernel
theorem dX5_setRule_47 : decode cX5_setRule 47 = .ok (.ireturn, 1) := by decide +kernel
theorem dX5_setCounts_0 : decode cX5_setCounts 0 = .ok (.iload_n 1, 1) := by decide +kernel
theorem dX5_setCounts_1 : decode cX5_setCounts 1 = .ok (.iconst 4, 1) := by decide +kernel
theorem dX5_setCounts_2 : decode cX5_setCounts 2 = .ok (.if_icmp .lt 16, 3) := by decide +kernel
theorem dX5_setCounts_5 : decode cX5_setCounts 5 = .ok (.iload_n 1, 1) := by decide +kernel
theorem dX5_setCounts_6 : decode cX5_setCounts 6 = .ok (.sipush 400, 3) := by decide +kernel
theorem dX5_setCounts_9 : decode cX5_setCounts 9 = .ok (.if_icmp .gt 9, 3) := by decide +kernel
theorem dX5_setCounts_12 : decode cX5_setCounts 12 = .ok (.iload_n 1, 1) := by decide +kernel
theorem dX5_setCounts_13 : decode cX5_setCounts 13 = .ok (.iconst 4, 1) := by decide +kernel
theorem dX5_setCounts_14 : decode cX5_setCounts 14 = .ok (.irem, 1) := by decide +kernel
theorem dX5_setCounts_15 : decode cX5_setCounts 15 = .ok (.ifCond .eq 13, 3) := by decide +kernel
theorem dX5_setCounts_18 : decode cX5_setCounts 18 = .ok (.new 44, 3) := by decide +kernel
theorem dX5_setCounts_21 : decode cX5_setCounts 21 = .ok (.dup, 1) := by decide +kernel
theorem dX5_setCounts_22 : decode cX5_setCounts 22 = .ok (.ldc 109, 2) := by decide +kernel
theorem dX5_setCounts_24 : decode cX5_setCounts 24 = .ok (.invokespecial 48, 3) := by decide +kernel
theorem dX5_setCounts_27 : decode cX5_setCounts 27 = .ok (.athrow, 1) := by decide +kernel
theorem dX5_setCounts_28 : decode cX5_setCounts 28 = .ok (.aload_n 0, 1) := by decide +kernel
theorem dX5_setCounts_29 : decode cX5_setCounts 29 = .ok (.getfield 25, 3) := by decide +kernel
theorem dX5_setCounts_32 : decode cX5_setCounts 32 = .ok (.aload_n 0, 1) := by decide +kernel
theorem dX5_setCounts_33 : decode cX5_setCounts 33 = .ok (.getfield 10, 3) := by decide +kernel
theorem dX5_setCounts_36 : decode cX5_setCounts 36 = .ok (.invokevirtual 71, 3) := by decide +kernel
theorem dX5_setCounts_39 : decode cX5_setCounts 39 = .ok (.aload_n 0, 1) := by decide +kernel
theorem dX5_setCounts_40 : decode cX5_setCounts 40 = .ok (.getfield 10, 3) := by decide +kernel
theorem dX5_setCounts_43 : decode cX5_setCounts 43 = .ok (.getfield 87, 3) := by decide +kernel
theorem dX5_setCounts_46 : decode cX5_setCounts 46 = .ok (.istore_n 2, 1) := by decide +kernel
theorem dX5_setCounts_47 : decode cX5_setCounts 47 = .ok (.aload_n 0, 1) := by decide +kernel
theorem dX5_setCounts_48 : decode cX5_setCounts 48 = .ok (.getfield 10, 3) := by decide +kernel
theorem dX5_setCounts_51 : decode cX5_setCounts 51 = .ok (.iload_n 1, 1) := by decide +kernel
theorem dX5_setCounts_52 : decode cX5_setCounts 52 = .ok (.putfield 87, 3) := by decide +kernel
theorem dX5_setCounts_55 : decode cX5_setCounts 55 = .ok (.iload_n 2, 1) := by decide +kernel
theorem dX5_setCounts_56 : decode cX5_setCounts 56 = .ok (.ireturn, 1) := by decide +kernel
theorem dX5_type_0 : decode cX5_type 0 = .ok (.aload_n 0, 1) := by decide +kernel
theorem dX5_type_1 : decode cX5_type 1 = .ok (.getfield 32, 3) := by decide +kernel
theorem dX5_type_4 : decode cX5_type 4 = .ok (.getfield 111, 3) := by decide +kernel
theorem dX5_type_7 : decode cX5_type 7 = .ok (.bipush 80, 2) := by decide +kernel
theorem dX5_type_9 : decode cX5_type 9 = .ok (.if_icmp .lt 13, 3) := by decide +kernel
theorem dX5_type_12 : decode cX5_type 12 = .ok (.new 99, 3) := by decide +kernel
theorem dX5_type_15 : decode cX5_type 15 = .ok (.dup, 1) := by decide +kernel
theorem dX5_type_16 : decode cX5_type 16 = .ok (.ldc 114, 2) := by decide +kernel
theorem dX5_type_18 : decode cX5_type 18 = .ok (.invokespecial 103, 3) := by decide +kernel
theorem dX5_type_21 : decode cX5_type 21 = .ok (.athrow, 1) := by decide +kernel
theorem dX5_type_22 : decode cX5_type 22 = .ok (.aload_n 0, 1) := by decide +kernel
theorem dX5_type_23 : decode cX5_type 23 = .ok (.getfield 32, 3) := by decide +kernel
theorem dX5_type_26 : decode cX5_type 26 = .ok (.iload_n 1, 1) := by decide +kernel
theorem dX5_type_27 : decode cX5_type 27 = .ok (.invokevirtual 116, 3) := by decide +kernel
theorem dX5_type_30 : decode cX5_type 30 = .ok (.aload_n 0, 1) := by decide +kernel
theorem dX5_type_31 : decode cX5_type 31 = .ok (.getfield 32, 3) := by decide +kernel
theorem dX5_type_34 : decode cX5_type 34 = .ok (.getfield 111, 3) := by decide +kernel
theorem dX5_type_37 : decode cX5_type 37 = .ok (.ireturn, 1) := by decide +kernel
theorem dX5_clearText_0 : decode cX5_clearText 0 = .ok (.aload_n 0, 1) := by decide +kernel
theorem dX5_clearText_1 : decode cX5_clearText 1 = .ok (.getfield 32, 3) := by decide +kernel
theorem dX5_clearText_4 : decode cX5_clearText 4 = .ok (.getfield 111, 3) := by decide +kernel
theorem dX5_clearText_7 : decode cX5_clearText 7 = .ok (.istore_n 1, 1) := by decide +kernel
theorem dX5_clearText_8 : decode cX5_clearText 8 = .ok (.aload_n 0, 1) := by decide +kernel
theorem dX5_clearText_9 : decode cX5_clearText 9 = .ok (.getfield 32, 3) := by decide +kernel
theorem dX5_clearText_12 : decode cX5_clearText 12 = .ok (.iconst 0, 1) := by decide +kernel
theorem dX5_clearText_13 : decode cX5_clearText 13 = .ok (.putfield 111, 3) := by decide +kernel
theorem dX5_clearText_16 : decode cX5_clearText 16 = .ok (.iload_n 1, 1) := by decide +kernel
theorem dX5_clearText_17 : decode cX5_clearText 17 = .ok (.ireturn, 1) := by decide +kernel
theorem dX5_textError_0 : decode cX5_textError 0 = .ok (.aload_n 0, 1) := by decide +kernel
theorem dX5_textError_1 : decode cX5_textError 1 = .ok (.getfield 32, 3) := by decide +kernel
theorem dX5_textError_4 : decode cX5_textError 4 = .ok (.invokevirtual 120, 3) := by decide +kernel
theorem dX5_textError_7 : decode cX5_textError 7 = .ok (.ireturn, 1) := by decide +kernel
theorem dX5_impossibleOrder_0 : decode cX5_impossibleOrder 0 = .ok (.aload_n 0, 1) := by decide +kernel
theorem dX5_impossibleOrder_1 : decode cX5_impossibleOrder 1 = .ok (.invokevirtual 124, 3) := by decide +kernel
theorem dX5_impossibleOrder_4 : decode cX5_impossibleOrder 4 = .ok (.aload_n 0, 1) := by decide +kernel
theorem dX5_impossibleOrder_5 : decode cX5_impossibleOrder 5 = .ok (.getfield 16, 3) := by decide +kernel
theorem dX5_impossibleOrder_8 : decode cX5_impossibleOrder 8 = .ok (.aload_n 0, 1) := by decide +kernel
theorem dX5_impossibleOrder_9 : decode cX5_impossibleOrder 9 = .ok (.getfield 10, 3) := by decide +kernel
theorem dX5_impossibleOrder_12 : decode cX5_impossibleOrder 12 = .ok (.invokevirtual 127, 3) := by decide +kernel
theorem dX5_impossibleOrder_15 : decode cX5_impossibleOrder 15 = .ok (.aload_n 0, 1) := by decide +kernel
theorem dX5_impossibleOrder_16 : decode cX5_impossibleOrder 16 = .ok (.aload_n 0, 1) := by decide +kernel
theorem dX5_impossibleOrder_17 : decode cX5_impossibleOrder 17 = .ok (.getfield 16, 3) := by decide +kernel
theorem dX5_impossibleOrder_20 : decode cX5_impossibleOrder 20 = .ok (.invokevirtual 130, 3) := by decide +kernel
theorem dX5_impossibleOrder_23 : decode cX5_impossibleOrder 23 = .ok (.ireturn, 1) := by decide +kernel
theorem dX5_carryOut_0 : decode cX5_carryOut 0 = .ok (.aload_n 0, 1) := by decide +kernel
theorem dX5_carryOut_1 : decode cX5_carryOut 1 = .ok (.invokevirtual 124, 3) := by decide +kernel
theorem dX5_carryOut_4 : decode cX5_carryOut 4 = .ok (.aload_n 0, 1) := by decide +kernel
theorem dX5_carryOut_5 : decode cX5_carryOut 5 = .ok (.getfield 16, 3) := by decide +kernel
theorem dX5_carryOut_8 : decode cX5_carryOut 8 = .ok (.aload_n 0, 1) := by decide +kernel
theorem dX5_carryOut_9 : decode cX5_carryOut 9 = .ok (.getfield 10, 3) := by decide +kernel
theorem dX5_carryOut_12 : decode cX5_carryOut 12 = .ok (.invokevirtual 127, 3) := by decide +kernel
theorem dX5_carryOut_15 : decode cX5_carryOut 15 = .ok (.aload_n 0, 1) := by decide +kernel
theorem dX5_carryOut_16 : decode cX5_carryOut 16 = .ok (.aload_n 0, 1) := by decide +kernel
theorem dX5_carryOut_17 : decode cX5_carryOut 17 = .ok (.getfield 16, 3) := by decide +kernel
theorem dX5_carryOut_20 : decode cX5_carryOut 20 = .ok (.invokevirtual 130, 3) := by decide +kernel
theorem dX5_carryOut_23 : decode cX5_carryOut 23 = .ok (.iconst (-1), 1) := by decide +kernel
theorem dX5_carryOut_24 : decode cX5_carryOut 24 = .ok (.if_icmp .eq 13, 3) := by decide +kernel
theorem dX5_carryOut_27 : decode cX5_carryOut 27 = .ok (.new 99, 3) := by decide +kernel
theorem dX5_carryOut_30 : decode cX5_carryOut 30 = .ok (.dup, 1) := by decide +kernel
theorem dX5_carryOut_31 : decode cX5_carryOut 31 = .ok (.ldc 134, 2) := by decide +kernel
theorem dX5_carryOut_33 : decode cX5_carryOut 33 = .ok (.invokespecial 103, 3) := by decide +kernel
theorem dX5_carryOut_36 : decode cX5_carryOut 36 = .ok (.athrow, 1) := by decide +kernel
theorem dX5_carryOut_37 : decode cX5_carryOut 37 = .ok (.aload_n 0, 1) := by decide +kernel
theorem dX5_carryOut_38 : decode cX5_carryOut 38 = .ok (.getfield 25, 3) := by decide +kernel
theorem dX5_carryOut_41 : decode cX5_carryOut 41 = .ok (.aload_n 0, 1) := by decide +kernel
theorem dX5_carryOut_42 : decode cX5_carryOut 42 = .ok (.getfield 10, 3) := by decide +kernel
theorem dX5_carryOut_45 : decode cX5_carryOut 45 = .ok (.invokevirtual 71, 3) := by decide +kernel
theorem dX5_carryOut_48 : decode cX5_carryOut 48 = .ok (.aload_n 0, 1) := by decide +kernel
theorem dX5_carryOut_49 : decode cX5_carryOut 49 = .ok (.getfield 10, 3) := by decide +kernel
theorem dX5_carryOut_52 : decode cX5_carryOut 52 = .ok (.aload_n 0, 1) := by decide +kernel
theorem dX5_carryOut_53 : decode cX5_carryOut 53 = .ok (.getfield 16, 3) := by decide +kernel
theorem dX5_carryOut_56 : decode cX5_carryOut 56 = .ok (.invokevirtual 127, 3) := by decide +kernel
theorem dX5_carryOut_59 : decode cX5_carryOut 59 = .ok (.aload_n 0, 1) := by decide +kernel
theorem dX5_carryOut_60 : decode cX5_carryOut 60 = .ok (.getfield 32, 3) := by decide +kernel
theorem dX5_carryOut_63 : decode cX5_carryOut 63 = .ok (.invokevirtual 136, 3) := by decide +kernel
theorem dX5_carryOut_66 : decode cX5_carryOut 66 = .ok (.ireturn, 1) := by decide +kernel
theorem dX5_undo_0 : decode cX5_undo 0 = .ok (.aload_n 0, 1) := by decide +kernel
theorem dX5_undo_1 : decode cX5_undo 1 = .ok (.getfield 25, 3) := by decide +kernel
theorem dX5_undo_4 : decode cX5_undo 4 = .ok (.getfield 139, 3) := by decide +kernel
theorem dX5_undo_7 : decode cX5_undo 7 = .ok (.iconst 1, 1) := by decide +kernel
theorem dX5_undo_8 : decode cX5_undo 8 = .ok (.if_icmp .ge 13, 3) := by decide +kernel
theorem dX5_undo_11 : decode cX5_undo 11 = .ok (.new 99, 3) := by decide +kernel
theorem dX5_undo_14 : decode cX5_undo 14 = .ok (.dup, 1) := by decide +kernel
theorem dX5_undo_15 : decode cX5_undo 15 = .ok (.ldc 140, 2) := by decide +kernel
theorem dX5_undo_17 : decode cX5_undo 17 = .ok (.invokespecial 103, 3) := by decide +kernel
theorem dX5_undo_20 : decode cX5_undo 20 = .ok (.athrow, 1) := by decide +kernel
theorem dX5_undo_21 : decode cX5_undo 21 = .ok (.aload_n 0, 1) := by decide +kernel
theorem dX5_undo_22 : decode cX5_undo 22 = .ok (.getfield 25, 3) := by decide +kernel
theorem dX5_undo_25 : decode cX5_undo 25 = .ok (.aload_n 0, 1) := by decide +kernel
theorem dX5_undo_26 : decode cX5_undo 26 = .ok (.getfield 10, 3) := by decide +kernel
theorem dX5_undo_29 : decode cX5_undo 29 = .ok (.invokevirtual 142, 3) := by decide +kernel
theorem dX5_undo_32 : decode cX5_undo 32 = .ok (.aload_n 0, 1) := by decide +kernel
theorem dX5_undo_33 : decode cX5_undo 33 = .ok (.getfield 25, 3) := by decide +kernel
theorem dX5_undo_36 : decode cX5_undo 36 = .ok (.getfield 139, 3) := by decide +kernel
theorem dX5_undo_39 : decode cX5_undo 39 = .ok (.ireturn, 1) := by decide +kernel
theorem dX5_takeSnapshot_0 : decode cX5_takeSnapshot 0 = .ok (.aload_n 0, 1) := by decide +kernel
theorem dX5_takeSnapshot_1 : decode cX5_takeSnapshot 1 = .ok (.getfield 19, 3) := by decide +kernel
theorem dX5_takeSnapshot_4 : decode cX5_takeSnapshot 4 = .ok (.aload_n 0, 1) := by decide +kernel
theorem dX5_takeSnapshot_5 : decode cX5_takeSnapshot 5 = .ok (.getfield 10, 3) := by decide +kernel
theorem dX5_takeSnapshot_8 : decode cX5_takeSnapshot 8 = .ok (.invokevirtual 127, 3) := by decide +kernel
theorem dX5_takeSnapshot_11 : decode cX5_takeSnapshot 11 = .ok (.aload_n 0, 1) := by decide +kernel
theorem dX5_takeSnapshot_12 : decode cX5_takeSnapshot 12 = .ok (.iconst 1, 1) := by decide +kernel
theorem dX5_takeSnapshot_13 : decode cX5_takeSnapshot 13 = .ok (.putfield 145, 3) := by decide +kernel
theorem dX5_takeSnapshot_16 : decode cX5_takeSnapshot 16 = .ok (.aload_n 0, 1) := by decide +kernel
theorem dX5_takeSnapshot_17 : decode cX5_takeSnapshot 17 = .ok (.getfield 10, 3) := by decide +kernel
theorem dX5_takeSnapshot_20 : decode cX5_takeSnapshot 20 = .ok (.invokevirtual 149, 3) := by decide +kernel
theorem dX5_takeSnapshot_23 : decode cX5_takeSnapshot 23 = .ok (.ireturn, 1) := by decide +kernel
theorem dX5_restoreSnapshot_0 : decode cX5_restoreSnapshot 0 = .ok (.aload_n 0, 1) := by decide +kernel
theorem dX5_restoreSnapshot_1 : decode cX5_restoreSnapshot 1 = .ok (.getfield 145, 3) := by decide +kernel
theorem dX5_restoreSnapshot_4 : decode cX5_restoreSnapshot 4 = .ok (.ifCond .ne 13, 3) := by decide +kernel
theorem dX5_restoreSnapshot_7 : decode cX5_restoreSnapshot 7 = .ok (.new 99, 3) := by decide +kernel
theorem dX5_restoreSnapshot_10 : decode cX5_restoreSnapshot 10 = .ok (.dup, 1) := by decide +kernel
theorem dX5_restoreSnapshot_11 : decode cX5_restoreSnapshot 11 = .ok (.ldc 152, 2) := by decide +kernel
theorem dX5_restoreSnapshot_13 : decode cX5_restoreSnapshot 13 = .ok (.invokespecial 103, 3) := by decide +kernel
theorem dX5_restoreSnapshot_16 : decode cX5_restoreSnapshot 16 = .ok (.athrow, 1) := by decide +kernel
theorem dX5_restoreSnapshot_17 : decode cX5_restoreSnapshot 17 = .ok (.aload_n 0, 1) := by decide +kernel
theorem dX5_restoreSnapshot_18 : decode cX5_restoreSnapshot 18 = .ok (.getfield 25, 3) := by decide +kernel
theorem dX5_restoreSnapshot_21 : decode cX5_restoreSnapshot 21 = .ok (.aload_n 0, 1) := by decide +kernel
theorem dX5_restoreSnapshot_22 : decode cX5_restoreSnapshot 22 = .ok (.getfield 10, 3) := by decide +kernel
theorem dX5_restoreSnapshot_25 : decode cX5_restoreSnapshot 25 = .ok (.invokevirtual 71, 3) := by decide +kernel
theorem dX5_restoreSnapshot_28 : decode cX5_restoreSnapshot 28 = .ok (.aload_n 0, 1) := by decide +kernel
theorem dX5_restoreSnapshot_29 : decode cX5_restoreSnapshot 29 = .ok (.getfield 10, 3) := by decide +kernel
theorem dX5_restoreSnapshot_32 : decode cX5_restoreSnapshot 32 = .ok (.aload_n 0, 1) := by decide +kernel
theorem dX5_restoreSnapshot_33 : decode cX5_restoreSnapshot 33 = .ok (.getfield 19, 3) := by decide +kernel
theorem dX5_restoreSnapshot_36 : decode cX5_restoreSnapshot 36 = .ok (.invokevirtual 127, 3) := by decide +kernel
theorem dX5_restoreSnapshot_39 : decode cX5_restoreSnapshot 39 = .ok (.aload_n 0, 1) := by decide +kernel
theorem dX5_restoreSnapshot_40 : decode cX5_restoreSnapshot 40 = .ok (.getfield 10, 3) := by decide +kernel
theorem dX5_restoreSnapshot_43 : decode cX5_restoreSnapshot 43 = .ok (.invokevirtual 149, 3) := by decide +kernel
theorem dX5_restoreSnapshot_46 : decode cX5_restoreSnapshot 46 = .ok (.ireturn, 1) := by decide +kernel
theorem dX5_stateOf_0 : decode cX5_stateOf 0 = .ok (.aload_n 0, 1) := by decide +kernel
theorem dX5_stateOf_1 : decode cX5_stateOf 1 = .ok (.iload_n 1, 1) := by decide +kernel
theorem dX5_stateOf_2 : decode cX5_stateOf 2 = .ok (.invokevirtual 36, 3) := by decide +kernel
theorem dX5_stateOf_5 : decode cX5_stateOf 5 = .ok (.getfield 154, 3) := by decide +kernel
theorem dX5_stateOf_8 : decode cX5_stateOf 8 = .ok (.ireturn, 1) := by decide +kernel
theorem dX5_positionOf_0 : decode cX5_positionOf 0 = .ok (.aload_n 0, 1) := by decide +kernel
theorem dX5_positionOf_1 : decode cX5_positionOf 1 = .ok (.iload_n 1, 1) := by decide +kernel
theorem dX5_positionOf_2 : decode cX5_positionOf 2 = .ok (.invokevirtual 36, 3) := by decide +kernel
theorem dX5_positionOf_5 : decode cX5_positionOf 5 = .ok (.getfield 84, 3) := by decide +kernel
theorem dX5_positionOf_8 : decode cX5_positionOf 8 = .ok (.ireturn, 1) := by decide +kernel
theorem dX5_positionByTracks_0 : decode cX5_positionByTracks 0 = .ok (.aload_n 0, 1) := by decide +kernel
theorem dX5_positionByTracks_1 : decode cX5_positionByTracks 1 = .ok (.iload_n 1, 1) := by decide +kernel
theorem dX5_positionByTracks_2 : decode cX5_positionByTracks 2 = .ok (.invokevirtual 36, 3) := by decide +kernel
theorem dX5_positionByTracks_5 : decode cX5_positionByTracks 5 = .ok (.astore_n 2, 1) := by decide +kernel
theorem dX5_positionByTracks_6 : decode cX5_positionByTracks 6 = .ok (.aload_n 2, 1) := by decide +kernel
theorem dX5_positionByTracks_7 : decode cX5_positionByTracks 7 = .ok (.getfield 157, 3) := by decide +kernel
theorem dX5_positionByTracks_10 : decode cX5_positionByTracks 10 = .ok (.aload_n 2, 1) := by decide +kernel
theorem dX5_positionByTracks_11 : decode cX5_positionByTracks 11 = .ok (.getfield 160, 3) := by decide +kernel
theorem dX5_positionByTracks_14 : decode cX5_positionByTracks 14 = .ok (.iadd, 1) := by decide +kernel
theorem dX5_positionByTracks_15 : decode cX5_positionByTracks 15 = .ok (.aload_n 2, 1) := by decide +kernel
theorem dX5_positionByTracks_16 : decode cX5_positionByTracks 16 = .ok (.getfield 163, 3) := by decide +kernel
theorem dX5_positionByTracks_19 : decode cX5_positionByTracks 19 = .ok (.iadd, 1) := by decide +kernel
theorem dX5_positionByTracks_20 : decode cX5_positionByTracks 20 = .ok (.aload_n 2, 1) := by decide +kernel
theorem dX5_positionByTracks_21 : decode cX5_positionByTracks 21 = .ok (.getfield 166, 3) := by decide +kernel
theorem dX5_positionByTracks_24 : decode cX5_positionByTracks 24 = .ok (.isub, 1) := by decide +kernel
theorem dX5_positionByTracks_25 : decode cX5_positionByTracks 25 = .ok (.ireturn, 1) := by decide +kernel
theorem dX5_turnsOf_0 : decode cX5_turnsOf 0 = .ok (.aload_n 0, 1) := by decide +kernel
theorem dX5_turnsOf_1 : decode cX5_turnsOf 1 = .ok (.iload_n 1, 1) := by decide +kernel
theorem dX5_turnsOf_2 : decode cX5_turnsOf 2 = .ok (.invokevirtual 36, 3) := by decide +kernel
theorem dX5_turnsOf_5 : decode cX5_turnsOf 5 = .ok (.aload_n 0, 1) := by decide +kernel
theorem dX5_turnsOf_6 : decode cX5_turnsOf 6 = .ok (.getfield 10, 3) := by decide +kernel
theorem dX5_turnsOf_9 : decode cX5_turnsOf 9 = .ok (.getfield 87, 3) := by decide +kernel
theorem dX5_turnsOf_12 : decode cX5_turnsOf 12 = .ok (.invokevirtual 169, 3) := by decide +kernel
theorem dX5_turnsOf_15 : decode cX5_turnsOf 15 = .ok (.ireturn, 1) := by decide +kernel
theorem dX5_placeOf_0 : decode cX5_placeOf 0 = .ok (.aload_n 0, 1) := by decide +kernel
theorem dX5_placeOf_1 : decode cX5_placeOf 1 = .ok (.iload_n 1, 1) := by decide +kernel
theorem dX5_placeOf_2 : decode cX5_placeOf 2 = .ok (.invokevirtual 36, 3) := by decide +kernel
theorem dX5_placeOf_5 : decode cX5_placeOf 5 = .ok (.aload_n 0, 1) := by decide +kernel
theorem dX5_placeOf_6 : decode cX5_placeOf 6 = .ok (.getfield 10, 3) := by decide +kernel
theorem dX5_placeOf_9 : decode cX5_placeOf 9 = .ok (.getfield 87, 3) := by decide +kernel
theorem dX5_placeOf_12 : decode cX5_placeOf 12 = .ok (.invokevirtual 172, 3) := by decide +kernel
theorem dX5_placeOf_15 : decode cX5_placeOf 15 = .ok (.ireturn, 1) := by decide +kernel
theorem dX5_directionOf_0 : decode cX5_directionOf 0 = .ok (.aload_n 0, 1) := by decide +kernel
theorem dX5_directionOf_1 : decode cX5_directionOf 1 = .ok (.iload_n 1, 1) := by decide +kernel
theorem dX5_directionOf_2 : decode cX5_directionOf 2 = .ok (.invokevirtual 36, 3) := by decide +kernel
theorem dX5_directionOf_5 : decode cX5_directionOf 5 = .ok (.getfield 175, 3) := by decide +kernel
theorem dX5_directionOf_8 : decode cX5_directionOf 8 = .ok (.ireturn, 1) := by decide +kernel
theorem dX5_countOfA_0 : decode cX5_countOfA 0 = .ok (.aload_n 0, 1) := by decide +kernel
theorem dX5_countOfA_1 : decode cX5_countOfA 1 = .ok (.iload_n 1, 1) := by decide +kernel
theorem dX5_countOfA_2 : decode cX5_countOfA 2 = .ok (.invokevirtual 36, 3) := by decide +kernel
theorem dX5_countOfA_5 : decode cX5_countOfA 5 = .ok (.getfield 157, 3) := by decide +kernel
theorem dX5_countOfA_8 : decode cX5_countOfA 8 = .ok (.ireturn, 1) := by decide +kernel
theorem dX5_leader_0 : decode cX5_leader 0 = .ok (.iconst 0, 1) := by decide +kernel
theorem dX5_leader_1 : decode cX5_leader 1 = .ok (.istore_n 1, 1) := by decide +kernel
theorem dX5_leader_2 : decode cX5_leader 2 = .ok (.iconst 1, 1) := by decide +kernel
theorem dX5_leader_3 : decode cX5_leader 3 = .ok (.istore_n 2, 1) := by decide +kernel
theorem dX5_leader_4 : decode cX5_leader 4 = .ok (.iload_n 2, 1) := by decide +kernel
theorem dX5_leader_5 : decode cX5_leader 5 = .ok (.iconst 4, 1) := by decide +kernel
theorem dX5_leader_6 : decode cX5_leader 6 = .ok (.if_icmp .ge 36, 3) := by decide +kernel
theorem dX5_leader_9 : decode cX5_leader 9 = .ok (.aload_n 0, 1) := by decide +kernel
theorem dX5_leader_10 : decode cX5_leader 10 = .ok (.getfield 10, 3) := by decide +kernel
theorem dX5_leader_13 : decode cX5_leader 13 = .ok (.iload_n 2, 1) := by decide +kernel
theorem dX5_leader_14 : decode cX5_leader 14 = .ok (.invokevirtual 178, 3) := by decide +kernel
theorem dX5_leader_17 : decode cX5_leader 17 = .ok (.getfield 84, 3) := by decide +kernel
theorem dX5_leader_20 : decode cX5_leader 20 = .ok (.aload_n 0, 1) := by decide +kernel
theorem dX5_leader_21 : decode cX5_leader 21 = .ok (.getfield 10, 3) := by decide +kernel
theorem dX5_leader_24 : decode cX5_leader 24 = .ok (.iload_n 1, 1) := by decide +kernel
theorem dX5_leader_25 : decode cX5_leader 25 = .ok (.invokevirtual 178, 3) := by decide +kernel
theorem dX5_leader_28 : decode cX5_leader 28 = .ok (.getfield 84, 3) := by decide +kernel
theorem dX5_leader_31 : decode cX5_leader 31 = .ok (.if_icmp .le 5, 3) := by decide +kernel
theorem dX5_leader_34 : decode cX5_leader 34 = .ok (.iload_n 2, 1) := by decide +kernel
theorem dX5_leader_35 : decode cX5_leader 35 = .ok (.istore_n 1, 1) := by decide +kernel
theorem dX5_leader_36 : decode cX5_leader 36 = .ok (.iinc 2 1, 3) := by decide +kernel
theorem dX5_leader_39 : decode cX5_leader 39 = .ok (.goto (-35), 3) := by decide +kernel
theorem dX5_leader_42 : decode cX5_leader 42 = .ok (.iload_n 1, 1) := by decide +kernel
theorem dX5_leader_43 : decode cX5_leader 43 = .ok (.ireturn, 1) := by decide +kernel
theorem dX5_stepTo_0 : decode cX5_stepTo 0 = .ok (.aload_n 0, 1) := by decide +kernel
theorem dX5_stepTo_1 : decode cX5_stepTo 1 = .ok (.iload_n 1, 1) := by decide +kernel
theorem dX5_stepTo_2 : decode cX5_stepTo 2 = .ok (.invokevirtual 36, 3) := by decide +kernel
theorem dX5_stepTo_5 : decode cX5_stepTo 5 = .ok (.astore_n 3, 1) := by decide +kernel
theorem dX5_stepTo_6 : decode cX5_stepTo 6 = .ok (.iload_n 2, 1) := by decide +kernel
theorem dX5_stepTo_7 : decode cX5_stepTo 7 = .ok (.invokestatic 40, 3) := by decide +kernel
theorem dX5_stepTo_10 : decode cX5_stepTo 10 = .ok (.aload_n 3, 1) := by decide +kernel
theorem dX5_stepTo_11 : decode cX5_stepTo 11 = .ok (.aload_n 0, 1) := by decide +kernel
theorem dX5_stepTo_12 : decode cX5_stepTo 12 = .ok (.getfield 10, 3) := by decide +kernel
theorem dX5_stepTo_15 : decode cX5_stepTo 15 = .ok (.getfield 51, 3) := by decide +kernel
theorem dX5_stepTo_18 : decode cX5_stepTo 18 = .ok (.iload_n 2, 1) := by decide +kernel
theorem dX5_stepTo_19 : decode cX5_stepTo 19 = .ok (.invokevirtual 55, 3) := by decide +kernel
theorem dX5_stepTo_22 : decode cX5_stepTo 22 = .ok (.ireturn, 1) := by decide +kernel
theorem dX5_logLength_0 : decode cX5_logLength 0 = .ok (.aload_n 0, 1) := by decide +kernel
theorem dX5_logLength_1 : decode cX5_logLength 1 = .ok (.iload_n 1, 1) := by decide +kernel
theorem dX5_logLength_2 : decode cX5_logLength 2 = .ok (.invokevirtual 36, 3) := by decide +kernel
theorem dX5_logLength_5 : decode cX5_logLength 5 = .ok (.getfield 181, 3) := by decide +kernel
theorem dX5_logLength_8 : decode cX5_logLength 8 = .ok (.getfield 185, 3) := by decide +kernel
theorem dX5_logLength_11 : decode cX5_logLength 11 = .ok (.ireturn, 1) := by decide +kernel
theorem dX5_loggedStep_0 : decode cX5_loggedStep 0 = .ok (.aload_n 0, 1) := by decide +kernel
theorem dX5_loggedStep_1 : decode cX5_loggedStep 1 = .ok (.iload_n 1, 1) := by decide +kernel
theorem dX5_loggedStep_2 : decode cX5_loggedStep 2 = .ok (.invokevirtual 36, 3) := by decide +kernel
theorem dX5_loggedStep_5 : decode cX5_loggedStep 5 = .ok (.astore_n 3, 1) := by decide +kernel
theorem dX5_loggedStep_6 : decode cX5_loggedStep 6 = .ok (.iload_n 2, 1) := by decide +kernel
theorem dX5_loggedStep_7 : decode cX5_loggedStep 7 = .ok (.ifCond .lt 14, 3) := by decide +kernel
theorem dX5_loggedStep_10 : decode cX5_loggedStep 10 = .ok (.iload_n 2, 1) := by decide +kernel
theorem dX5_loggedStep_11 : decode cX5_loggedStep 11 = .ok (.aload_n 3, 1) := by decide +kernel
theorem dX5_loggedStep_12 : decode cX5_loggedStep 12 = .ok (.getfield 181, 3) := by decide +kernel
theorem dX5_loggedStep_15 : decode cX5_loggedStep 15 = .ok (.getfield 185, 3) := by decide +kernel
theorem dX5_loggedStep_18 : decode cX5_loggedStep 18 = .ok (.if_icmp .lt 13, 3) := by decide +kernel
theorem dX5_loggedStep_21 : decode cX5_loggedStep 21 = .ok (.new 188, 3) := by decide +kernel
theorem dX5_loggedStep_24 : decode cX5_loggedStep 24 = .ok (.dup, 1) := by decide +kernel
theorem dX5_loggedStep_25 : decode cX5_loggedStep 25 = .ok (.ldc 190, 2) := by decide +kernel
theorem dX5_loggedStep_27 : decode cX5_loggedStep 27 = .ok (.invokespecial 192, 3) := by decide +kernel
theorem dX5_loggedStep_30 : decode cX5_loggedStep 30 = .ok (.athrow, 1) := by decide +kernel
theorem dX5_loggedStep_31 : decode cX5_loggedStep 31 = .ok (.aload_n 3, 1) := by decide +kernel
theorem dX5_loggedStep_32 : decode cX5_loggedStep 32 = .ok (.getfield 181, 3) := by decide +kernel
theorem dX5_loggedStep_35 : decode cX5_loggedStep 35 = .ok (.iload_n 2, 1) := by decide +kernel
theorem dX5_loggedStep_36 : decode cX5_loggedStep 36 = .ok (.invokevirtual 193, 3) := by decide +kernel
theorem dX5_loggedStep_39 : decode cX5_loggedStep 39 = .ok (.ireturn, 1) := by decide +kernel
theorem dX5_speedOf_0 : decode cX5_speedOf 0 = .ok (.aload_n 0, 1) := by decide +kernel
theorem dX5_speedOf_1 : decode cX5_speedOf 1 = .ok (.iload_n 1, 1) := by decide +kernel
theorem dX5_speedOf_2 : decode cX5_speedOf 2 = .ok (.invokevirtual 36, 3) := by decide +kernel
theorem dX5_speedOf_5 : decode cX5_speedOf 5 = .ok (.getfield 181, 3) := by decide +kernel
theorem dX5_speedOf_8 : decode cX5_speedOf 8 = .ok (.invokevirtual 196, 3) := by decide +kernel
theorem dX5_speedOf_11 : decode cX5_speedOf 11 = .ok (.dreturn, 1) := by decide +kernel
theorem dX5_errorsOf_0 : decode cX5_errorsOf 0 = .ok (.aload_n 0, 1) := by decide +kernel
theorem dX5_errorsOf_1 : decode cX5_errorsOf 1 = .ok (.iload_n 1, 1) := by decide +kernel
theorem dX5_errorsOf_2 : decode cX5_errorsOf 2 = .ok (.invokevirtual 36, 3) := by decide +kernel
theorem dX5_errorsOf_5 : decode cX5_errorsOf 5 = .ok (.getfield 200, 3) := by decide +kernel
theorem dX5_errorsOf_8 : decode cX5_errorsOf 8 = .ok (.ireturn, 1) := by decide +kernel
theorem dX5_slipsOf_0 : decode cX5_slipsOf 0 = .ok (.aload_n 0, 1) := by decide +kernel
theorem dX5_slipsOf_1 : decode cX5_slipsOf 1 = .ok (.iload_n 1, 1) := by decide +kernel
theorem dX5_slipsOf_2 : decode cX5_slipsOf 2 = .ok (.invokevirtual 36, 3) := by decide +kernel
theorem dX5_slipsOf_5 : decode cX5_slipsOf 5 = .ok (.getfield 203, 3) := by decide +kernel
theorem dX5_slipsOf_8 : decode cX5_slipsOf 8 = .ok (.ireturn, 1) := by decide +kernel
theorem dX5_distanceOf_0 : decode cX5_distanceOf 0 = .ok (.aload_n 0, 1) := by decide +kernel
theorem dX5_distanceOf_1 : decode cX5_distanceOf 1 = .ok (.iload_n 1, 1) := by decide +kernel
theorem dX5_distanceOf_2 : decode cX5_distanceOf 2 = .ok (.invokevirtual 36, 3) := by decide +kernel
theorem dX5_distanceOf_5 : decode cX5_distanceOf 5 = .ok (.getfield 206, 3) := by decide +kernel
theorem dX5_distanceOf_8 : decode cX5_distanceOf 8 = .ok (.ireturn, 1) := by decide +kernel
theorem dX5_ticksOf_0 : decode cX5_ticksOf 0 = .ok (.aload_n 0, 1) := by decide +kernel
theorem dX5_ticksOf_1 : decode cX5_ticksOf 1 = .ok (.iload_n 1, 1) := by decide +kernel
theorem dX5_ticksOf_2 : decode cX5_ticksOf 2 = .ok (.invokevirtual 36, 3) := by decide +kernel
theorem dX5_ticksOf_5 : decode cX5_ticksOf 5 = .ok (.getfield 209, 3) := by decide +kernel
theorem dX5_ticksOf_8 : decode cX5_ticksOf 8 = .ok (.ireturn, 1) := by decide +kernel
theorem dX5_counts_0 : decode cX5_counts 0 = .ok (.aload_n 0, 1) := by decide +kernel
theorem dX5_counts_1 : decode cX5_counts 1 = .ok (.getfield 10, 3) := by decide +kernel
theorem dX5_counts_4 : decode cX5_counts 4 = .ok (.getfield 87, 3) := by decide +kernel
theorem dX5_counts_7 : decode cX5_counts 7 = .ok (.ireturn, 1) := by decide +kernel
theorem dX5_rule_0 : decode cX5_rule 0 = .ok (.aload_n 0, 1) := by decide +kernel
theorem dX5_rule_1 : decode cX5_rule 1 = .ok (.getfield 10, 3) := by decide +kernel
theorem dX5_rule_4 : decode cX5_rule 4 = .ok (.getfield 51, 3) := by decide +kernel
theorem dX5_rule_7 : decode cX5_rule 7 = .ok (.ireturn, 1) := by decide +kernel
theorem dX5_recordedStates_0 : decode cX5_recordedStates 0 = .ok (.aload_n 0, 1) := by decide +kernel
theorem dX5_recordedStates_1 : decode cX5_recordedStates 1 = .ok (.getfield 25, 3) := by decide +kernel
theorem dX5_recordedStates_4 : decode cX5_recordedStates 4 = .ok (.getfield 139, 3) := by decide +kernel
theorem dX5_recordedStates_7 : decode cX5_recordedStates 7 = .ok (.ireturn, 1) := by decide +kernel
theorem dX5_snailNumbered_0 : decode cX5_snailNumbered 0 = .ok (.iload_n 1, 1) := by decide +kernel
theorem dX5_snailNumbered_1 : decode cX5_snailNumbered 1 = .ok (.ifCond .lt 8, 3) := by decide +kernel
theorem dX5_snailNumbered_4 : decode cX5_snailNumbered 4 = .ok (.iload_n 1, 1) := by decide +kernel
theorem dX5_snailNumbered_5 : decode cX5_snailNumbered 5 = .ok (.iconst 4, 1) := by decide +kernel
theorem dX5_snailNumbered_6 : decode cX5_snailNumbered 6 = .ok (.if_icmp .lt 13, 3) := by decide +kernel
theorem dX5_snailNumbered_9 : decode cX5_snailNumbered 9 = .ok (.new 188, 3) := by decide +kernel
theorem dX5_snailNumbered_12 : decode cX5_snailNumbered 12 = .ok (.dup, 1) := by decide +kernel
theorem dX5_snailNumbered_13 : decode cX5_snailNumbered 13 = .ok (.ldc 212, 2) := by decide +kernel
theorem dX5_snailNumbered_15 : decode cX5_snailNumbered 15 = .ok (.invokespecial 192, 3) := by decide +kernel
theorem dX5_snailNumbered_18 : decode cX5_snailNumbered 18 = .ok (.athrow, 1) := by decide +kernel
theorem dX5_snailNumbered_19 : decode cX5_snailNumbered 19 = .ok (.aload_n 0, 1) := by decide +kernel
theorem dX5_snailNumbered_20 : decode cX5_snailNumbered 20 = .ok (.getfield 10, 3) := by decide +kernel
theorem dX5_snailNumbered_23 : decode cX5_snailNumbered 23 = .ok (.iload_n 1, 1) := by decide +kernel
theorem dX5_snailNumbered_24 : decode cX5_snailNumbered 24 = .ok (.invokevirtual 178, 3) := by decide +kernel
theorem dX5_snailNumbered_27 : decode cX5_snailNumbered 27 = .ok (.areturn, 1) := by decide +kernel
theorem dX5_demandState_0 : decode cX5_demandState 0 = .ok (.iload_n 0, 1) := by decide +kernel
theorem dX5_demandState_1 : decode cX5_demandState 1 = .ok (.ifCond .lt 8, 3) := by decide +kernel
theorem dX5_demandState_4 : decode cX5_demandState 4 = .ok (.iload_n 0, 1) := by decide +kernel
theorem dX5_demandState_5 : decode cX5_demandState 5 = .ok (.iconst 4, 1) := by decide +kernel
theorem dX5_demandState_6 : decode cX5_demandState 6 = .ok (.if_icmp .lt 13, 3) := by decide +kernel
theorem dX5_demandState_9 : decode cX5_demandState 9 = .ok (.new 44, 3) := by decide +kernel
theorem dX5_demandState_12 : decode cX5_demandState 12 = .ok (.dup, 1) := by decide +kernel
theorem dX5_demandState_13 : decode cX5_demandState 13 = .ok (.ldc 214, 2) := by decide +kernel
theorem dX5_demandState_15 : decode cX5_demandState 15 = .ok (.invokespecial 48, 3) := by decide +kernel
theorem dX5_demandState_18 : decode cX5_demandState 18 = .ok (.athrow, 1) := by decide +kernel
theorem dX5_demandState_19 : decode cX5_demandState 19 = .ok (.return_, 1) := by decide +kernel
theorem dX5_demandRoom_0 : decode cX5_demandRoom 0 = .ok (.aload_n 0, 1) := by decide +kernel
theorem dX5_demandRoom_1 : decode cX5_demandRoom 1 = .ok (.iload_n 1, 1) := by decide +kernel
theorem dX5_demandRoom_2 : decode cX5_demandRoom 2 = .ok (.iload_n 2, 1) := by decide +kernel
theorem dX5_demandRoom_3 : decode cX5_demandRoom 3 = .ok (.invokevirtual 216, 3) := by decide +kernel
theorem dX5_demandRoom_6 : decode cX5_demandRoom 6 = .ok (.ifCond .ne 13, 3) := by decide +kernel
theorem dX5_demandRoom_9 : decode cX5_demandRoom 9 = .ok (.new 99, 3) := by decide +kernel
theorem dX5_demandRoom_12 : decode cX5_demandRoom 12 = .ok (.dup, 1) := by decide +kernel
theorem dX5_demandRoom_13 : decode cX5_demandRoom 13 = .ok (.ldc 220, 2) := by decide +kernel
theorem dX5_demandRoom_15 : decode cX5_demandRoom 15 = .ok (.invokespecial 103, 3) := by decide +kernel
theorem dX5_demandRoom_18 : decode cX5_demandRoom 18 = .ok (.athrow, 1) := by decide +kernel
theorem dX5_demandRoom_19 : decode cX5_demandRoom 19 = .ok (.return_, 1) := by decide +kernel
theorem dX5_demandValidText_0 : decode cX5_demandValidText 0 = .ok (.aload_n 0, 1) := by decide +kernel
theorem dX5_demandValidText_1 : decode cX5_demandValidText 1 = .ok (.getfield 32, 3) := by decide +kernel
theorem dX5_demandValidText_4 : decode cX5_demandValidText 4 = .ok (.invokevirtual 120, 3) := by decide +kernel
theorem dX5_demandValidText_7 : decode cX5_demandValidText 7 = .ok (.iconst (-1), 1) := by decide +kernel
theorem dX5_demandValidText_8 : decode cX5_demandValidText 8 = .ok (.if_icmp .eq 13, 3) := by decide +kernel
theorem dX5_demandValidText_11 : decode cX5_demandValidText 11 = .ok (.new 99, 3) := by decide +kernel
theorem dX5_demandValidText_14 : decode cX5_demandValidText 14 = .ok (.dup, 1) := by decide +kernel
theorem dX5_demandValidText_15 : decode cX5_demandValidText 15 = .ok (.ldc 222, 2) := by decide +kernel
theorem dX5_demandValidText_17 : decode cX5_demandValidText 17 = .ok (.invokespecial 103, 3) := by decide +kernel
theorem dX5_demandValidText_20 : decode cX5_demandValidText 20 = .ok (.athrow, 1) := by decide +kernel
theorem dX5_demandValidText_21 : decode cX5_demandValidText 21 = .ok (.return_, 1) := by decide +kernel
theorem dX5_firstFailing_0 : decode cX5_firstFailing 0 = .ok (.aload_n 0, 1) := by decide +kernel
theorem dX5_firstFailing_1 : decode cX5_firstFailing 1 = .ok (.getfield 32, 3) := by decide +kernel
theorem dX5_firstFailing_4 : decode cX5_firstFailing 4 = .ok (.invokevirtual 136, 3) := by decide +kernel
theorem dX5_firstFailing_7 : decode cX5_firstFailing 7 = .ok (.istore_n 2, 1) := by decide +kernel
theorem dX5_firstFailing_8 : decode cX5_firstFailing 8 = .ok (.iconst 0, 1) := by decide +kernel
theorem dX5_firstFailing_9 : decode cX5_firstFailing 9 = .ok (.istore_n 3, 1) := by decide +kernel
theorem dX5_firstFailing_10 : decode cX5_firstFailing 10 = .ok (.iconst 0, 1) := by decide +kernel
theorem dX5_firstFailing_11 : decode cX5_firstFailing 11 = .ok (.istore 4, 2) := by decide +kernel
theorem dX5_firstFailing_13 : decode cX5_firstFailing 13 = .ok (.iload 4, 2) := by decide +kernel
theorem dX5_firstFailing_15 : decode cX5_firstFailing 15 = .ok (.iload_n 2, 1) := by decide +kernel
theorem dX5_firstFailing_16 : decode cX5_firstFailing 16 = .ok (.if_icmp .ge 32, 3) := by decide +kernel
theorem dX5_firstFailing_19 : decode cX5_firstFailing 19 = .ok (.aload_n 0, 1) := by decide +kernel
theorem dX5_firstFailing_20 : decode cX5_firstFailing 20 = .ok (.aload_n 1, 1) := by decide +kernel
theorem dX5_firstFailing_21 : decode cX5_firstFailing 21 = .ok (.iload_n 3, 1) := by decide +kernel
theorem dX5_firstFailing_22 : decode cX5_firstFailing 22 = .ok (.invokevirtual 224, 3) := by decide +kernel
theorem dX5_firstFailing_25 : decode cX5_firstFailing 25 = .ok (.ifCond .ne 6, 3) := by decide +kernel
theorem dX5_firstFailing_28 : decode cX5_firstFailing 28 = .ok (.iload 4, 2) := by decide +kernel
theorem dX5_firstFailing_30 : decode cX5_firstFailing 30 = .ok (.ireturn, 1) := by decide +kernel
theorem dX5_firstFailing_31 : decode cX5_firstFailing 31 = .ok (.aload_n 0, 1) := by decide +kernel
theorem dX5_firstFailing_32 : decode cX5_firstFailing 32 = .ok (.getfield 32, 3) := by decide +kernel
theorem dX5_firstFailing_35 : decode cX5_firstFailing 35 = .ok (.iload_n 3, 1) := by decide +kernel
theorem dX5_firstFailing_36 : decode cX5_firstFailing 36 = .ok (.invokevirtual 228, 3) := by decide +kernel
theorem dX5_firstFailing_39 : decode cX5_firstFailing 39 = .ok (.iconst 1, 1) := by decide +kernel
theorem dX5_firstFailing_40 : decode cX5_firstFailing 40 = .ok (.iadd, 1) := by decide +kernel
theorem dX5_firstFailing_41 : decode cX5_firstFailing 41 = .ok (.istore_n 3, 1) := by decide +kernel
theorem dX5_firstFailing_42 : decode cX5_firstFailing 42 = .ok (.iinc 4 1, 3) := by decide +kernel
theorem dX5_firstFailing_45 : decode cX5_firstFailing 45 = .ok (.goto (-32), 3) := by decide +kernel
theorem dX5_firstFailing_48 : decode cX5_firstFailing 48 = .ok (.iconst (-1), 1) := by decide +kernel
theorem dX5_firstFailing_49 : decode cX5_firstFailing 49 = .ok (.ireturn, 1) := by decide +kernel
theorem dX5_follow_0 : decode cX5_follow 0 = .ok (.aload_n 1, 1) := by decide +kernel
theorem dX5_follow_1 : decode cX5_follow 1 = .ok (.aload_n 0, 1) := by decide +kernel
theorem dX5_follow_2 : decode cX5_follow 2 = .ok (.getfield 32, 3) := by decide +kernel
theorem dX5_follow_5 : decode cX5_follow 5 = .ok (.iload_n 2, 1) := by decide +kernel
theorem dX5_follow_6 : decode cX5_follow 6 = .ok (.invokevirtual 231, 3) := by decide +kernel
theorem dX5_follow_9 : decode cX5_follow 9 = .ok (.invokevirtual 178, 3) := by decide +kernel
theorem dX5_follow_12 : decode cX5_follow 12 = .ok (.astore_n 3, 1) := by decide +kernel
theorem dX5_follow_13 : decode cX5_follow 13 = .ok (.aload_n 0, 1) := by decide +kernel
theorem dX5_follow_14 : decode cX5_follow 14 = .ok (.getfield 32, 3) := by decide +kernel
theorem dX5_follow_17 : decode cX5_follow 17 = .ok (.iload_n 2, 1) := by decide +kernel
theorem dX5_follow_18 : decode cX5_follow 18 = .ok (.iconst 1, 1) := by decide +kernel
theorem dX5_follow_19 : decode cX5_follow 19 = .ok (.iadd, 1) := by decide +kernel
theorem dX5_follow_20 : decode cX5_follow 20 = .ok (.invokevirtual 234, 3) := by decide +kernel
theorem dX5_follow_23 : decode cX5_follow 23 = .ok (.istore 4, 2) := by decide +kernel
theorem dX5_follow_25 : decode cX5_follow 25 = .ok (.iload 4, 2) := by decide +kernel
theorem dX5_follow_27 : decode cX5_follow 27 = .ok (.bipush 109, 2) := by decide +kernel
theorem dX5_follow_29 : decode cX5_follow 29 = .ok (.if_icmp .ne 14, 3) := by decide +kernel
theorem dX5_follow_32 : decode cX5_follow 32 = .ok (.aload_n 3, 1) := by decide +kernel
theorem dX5_follow_33 : decode cX5_follow 33 = .ok (.aload_n 1, 1) := by decide +kernel
theorem dX5_follow_34 : decode cX5_follow 34 = .ok (.getfield 87, 3) := by decide +kernel
theorem dX5_follow_37 : decode cX5_follow 37 = .ok (.invokevirtual 90, 3) := by decide +kernel
theorem dX5_follow_40 : decode cX5_follow 40 = .ok (.pop, 1) := by decide +kernel
theorem dX5_follow_41 : decode cX5_follow 41 = .ok (.iconst 1, 1) := by decide +kernel
theorem dX5_follow_42 : decode cX5_follow 42 = .ok (.ireturn, 1) := by decide +kernel
theorem dX5_follow_43 : decode cX5_follow 43 = .ok (.iload 4, 2) := by decide +kernel
theorem dX5_follow_45 : decode cX5_follow 45 = .ok (.bipush 98, 2) := by decide +kernel
theorem dX5_follow_47 : decode cX5_follow 47 = .ok (.if_icmp .eq 24, 3) := by decide +kernel
theorem dX5_follow_50 : decode cX5_follow 50 = .ok (.aload_n 0, 1) := by decide +kernel
theorem dX5_follow_51 : decode cX5_follow 51 = .ok (.aload_n 3, 1) := by decide +kernel
theorem dX5_follow_52 : decode cX5_follow 52 = .ok (.aload_n 1, 1) := by decide +kernel
theorem dX5_follow_53 : decode cX5_follow 53 = .ok (.getfield 51, 3) := by decide +kernel
theorem dX5_follow_56 : decode cX5_follow 56 = .ok (.iload_n 2, 1) := by decide +kernel
theorem dX5_follow_57 : decode cX5_follow 57 = .ok (.iconst 2, 1) := by decide +kernel
theorem dX5_follow_58 : decode cX5_follow 58 = .ok (.iadd, 1) := by decide +kernel
theorem dX5_follow_59 : decode cX5_follow 59 = .ok (.aload_n 0, 1) := by decide +kernel
theorem dX5_follow_60 : decode cX5_follow 60 = .ok (.getfield 32, 3) := by decide +kernel
theorem dX5_follow_63 : decode cX5_follow 63 = .ok (.iload_n 2, 1) := by decide +kernel
theorem dX5_follow_64 : decode cX5_follow 64 = .ok (.invokevirtual 228, 3) := by decide +kernel
theorem dX5_follow_67 : decode cX5_follow 67 = .ok (.invokevirtual 238, 3) := by decide +kernel
theorem dX5_follow_70 : decode cX5_follow 70 = .ok (.ireturn, 1) := by decide +kernel
theorem dX5_follow_71 : decode cX5_follow 71 = .ok (.aload_n 0, 1) := by decide +kernel
theorem dX5_follow_72 : decode cX5_follow 72 = .ok (.getfield 32, 3) := by decide +kernel
theorem dX5_follow_75 : decode cX5_follow 75 = .ok (.iload_n 2, 1) := by decide +kernel
theorem dX5_follow_76 : decode cX5_follow 76 = .ok (.iconst 2, 1) := by decide +kernel
theorem dX5_follow_77 : decode cX5_follow 77 = .ok (.iadd, 1) := by decide +kernel
theorem dX5_follow_78 : decode cX5_follow 78 = .ok (.invokevirtual 242, 3) := by decide +kernel
theorem dX5_follow_81 : decode cX5_follow 81 = .ok (.istore 5, 2) := by decide +kernel
theorem dX5_follow_83 : decode cX5_follow 83 = .ok (.aload_n 3, 1) := by decide +kernel
theorem dX5_follow_84 : decode cX5_follow 84 = .ok (.iload 5, 2) := by decide +kernel
theorem dX5_follow_86 : decode cX5_follow 86 = .ok (.invokevirtual 95, 3) := by decide +kernel
theorem dX5_follow_89 : decode cX5_follow 89 = .ok (.ifCond .ne 5, 3) := by decide +kernel
theorem dX5_follow_92 : decode cX5_follow 92 = .ok (.iconst 0, 1) := by decide +kernel
theorem dX5_follow_93 : decode cX5_follow 93 = .ok (.ireturn, 1) := by decide +kernel
theorem dX5_follow_94 : decode cX5_follow 94 = .ok (.aload_n 3, 1) := by decide +kernel
theorem dX5_follow_95 : decode cX5_follow 95 = .ok (.iload 5, 2) := by decide +kernel
theorem dX5_follow_97 : decode cX5_follow 97 = .ok (.invokevirtual 104, 3) := by decide +kernel
theorem dX5_follow_100 : decode cX5_follow 100 = .ok (.iconst 1, 1) := by decide +kernel
theorem dX5_follow_101 : decode cX5_follow 101 = .ok (.ireturn, 1) := by decide +kernel
theorem dX5_feelAll_0 : decode cX5_feelAll 0 = .ok (.iload_n 3, 1) := by decide +kernel
theorem dX5_feelAll_1 : decode cX5_feelAll 1 = .ok (.istore 5, 2) := by decide +kernel
theorem dX5_feelAll_3 : decode cX5_feelAll 3 = .ok (.iload 5, 2) := by decide +kernel
theorem dX5_feelAll_5 : decode cX5_feelAll 5 = .ok (.iload 4, 2) := by decide +kernel
theorem dX5_feelAll_7 : decode cX5_feelAll 7 = .ok (.if_icmp .ge 53, 3) := by decide +kernel
theorem dX5_feelAll_10 : decode cX5_feelAll 10 = .ok (.aload_n 0, 1) := by decide +kernel
theorem dX5_feelAll_11 : decode cX5_feelAll 11 = .ok (.getfield 32, 3) := by decide +kernel
theorem dX5_feelAll_14 : decode cX5_feelAll 14 = .ok (.iload 5, 2) := by decide +kernel
theorem dX5_feelAll_16 : decode cX5_feelAll 16 = .ok (.invokevirtual 231, 3) := by decide +kernel
theorem dX5_feelAll_19 : decode cX5_feelAll 19 = .ok (.istore 6, 2) := by decide +kernel
theorem dX5_feelAll_21 : decode cX5_feelAll 21 = .ok (.aload_n 1, 1) := by decide +kernel
theorem dX5_feelAll_22 : decode cX5_feelAll 22 = .ok (.iload_n 2, 1) := by decide +kernel
theorem dX5_feelAll_23 : decode cX5_feelAll 23 = .ok (.iload 6, 2) := by decide +kernel
theorem dX5_feelAll_25 : decode cX5_feelAll 25 = .ok (.invokevirtual 55, 3) := by decide +kernel
theorem dX5_feelAll_28 : decode cX5_feelAll 28 = .ok (.istore 7, 2) := by decide +kernel
theorem dX5_feelAll_30 : decode cX5_feelAll 30 = .ok (.aload_n 1, 1) := by decide +kernel
theorem dX5_feelAll_31 : decode cX5_feelAll 31 = .ok (.iconst 1, 1) := by decide +kernel
theorem dX5_feelAll_32 : decode cX5_feelAll 32 = .ok (.iload 7, 2) := by decide +kernel
theorem dX5_feelAll_34 : decode cX5_feelAll 34 = .ok (.invokestatic 61, 3) := by decide +kernel
theorem dX5_feelAll_37 : decode cX5_feelAll 37 = .ok (.invokevirtual 216, 3) := by decide +kernel
theorem dX5_feelAll_40 : decode cX5_feelAll 40 = .ok (.ifCond .ne 5, 3) := by decide +kernel
theorem dX5_feelAll_43 : decode cX5_feelAll 43 = .ok (.iconst 0, 1) := by decide +kernel
theorem dX5_feelAll_44 : decode cX5_feelAll 44 = .ok (.ireturn, 1) := by decide +kernel
theorem dX5_feelAll_45 : decode cX5_feelAll 45 = .ok (.aload_n 1, 1) := by decide +kernel
theorem dX5_feelAll_46 : decode cX5_feelAll 46 = .ok (.iload 6, 2) := by decide +kernel
theorem dX5_feelAll_48 : decode cX5_feelAll 48 = .ok (.iload 7, 2) := by decide +kernel
theorem dX5_feelAll_50 : decode cX5_feelAll 50 = .ok (.iconst 1, 1) := by decide +kernel
theorem dX5_feelAll_51 : decode cX5_feelAll 51 = .ok (.invokevirtual 75, 3) := by decide +kernel
theorem dX5_feelAll_54 : decode cX5_feelAll 54 = .ok (.iinc 5 1, 3) := by decide +kernel
theorem dX5_feelAll_57 : decode cX5_feelAll 57 = .ok (.goto (-54), 3) := by decide +kernel
theorem dX5_feelAll_60 : decode cX5_feelAll 60 = .ok (.iconst 1, 1) := by decide +kernel
theorem dX5_feelAll_61 : decode cX5_feelAll 61 = .ok (.ireturn, 1) := by decide +kernel
