theorem dL_feel_0 : decode cL_feel 0 = .ok (.aload 4, 2) := by decide +kernel
theorem dL_feel_2 : decode cL_feel 2 = .ok (.iconst 0, 1) := by decide +kernel
theorem dL_feel_3 : decode cL_feel 3 = .ok (.aload_n 0, 1) := by decide +kernel
theorem dL_feel_4 : decode cL_feel 4 = .ok (.iload_n 1, 1) := by decide +kernel
theorem dL_feel_5 : decode cL_feel 5 = .ok (.iload_n 2, 1) := by decide +kernel
theorem dL_feel_6 : decode cL_feel 6 = .ok (.iload_n 3, 1) := by decide +kernel
theorem dL_feel_7 : decode cL_feel 7 = .ok (.invokevirtual 7, 3) := by decide +kernel
theorem dL_feel_10 : decode cL_feel 10 = .ok (.i2l, 1) := by decide +kernel
theorem dL_feel_11 : decode cL_feel 11 = .ok (.lastore, 1) := by decide +kernel
theorem dL_feel_12 : decode cL_feel 12 = .ok (.goto 15, 3) := by decide +kernel
theorem dL_feel_15 : decode cL_feel 15 = .ok (.astore 5, 2) := by decide +kernel
theorem dL_feel_17 : decode cL_feel 17 = .ok (.iconst 1, 1) := by decide +kernel
theorem dL_feel_18 : decode cL_feel 18 = .ok (.ireturn, 1) := by decide +kernel
theorem dL_feel_19 : decode cL_feel 19 = .ok (.astore 5, 2) := by decide +kernel
theorem dL_feel_21 : decode cL_feel 21 = .ok (.iconst 2, 1) := by decide +kernel
theorem dL_feel_22 : decode cL_feel 22 = .ok (.ireturn, 1) := by decide +kernel
theorem dL_feel_23 : decode cL_feel 23 = .ok (.astore 5, 2) := by decide +kernel
theorem dL_feel_25 : decode cL_feel 25 = .ok (.iconst 3, 1) := by decide +kernel
theorem dL_feel_26 : decode cL_feel 26 = .ok (.ireturn, 1) := by decide +kernel
theorem dL_feel_27 : decode cL_feel 27 = .ok (.iconst 0, 1) := by decide +kernel
theorem dL_feel_28 : decode cL_feel 28 = .ok (.ireturn, 1) := by decide +kernel
theorem dL_crawl_0 : decode cL_crawl 0 = .ok (.aload_n 3, 1) := by decide +kernel
theorem dL_crawl_1 : decode cL_crawl 1 = .ok (.iconst 0, 1) := by decide +kernel
theorem dL_crawl_2 : decode cL_crawl 2 = .ok (.aload_n 0, 1) := by decide +kernel
theorem dL_crawl_3 : decode cL_crawl 3 = .ok (.iload_n 1, 1) := by decide +kernel
theorem dL_crawl_4 : decode cL_crawl 4 = .ok (.iload_n 2, 1) := by decide +kernel
theorem dL_crawl_5 : decode cL_crawl 5 = .ok (.invokevirtual 19, 3) := by decide +kernel
theorem dL_crawl_8 : decode cL_crawl 8 = .ok (.i2l, 1) := by decide +kernel
theorem dL_crawl_9 : decode cL_crawl 9 = .ok (.lastore, 1) := by decide +kernel
theorem dL_crawl_10 : decode cL_crawl 10 = .ok (.goto 15, 3) := by decide +kernel
theorem dL_crawl_13 : decode cL_crawl 13 = .ok (.astore 4, 2) := by decide +kernel
theorem dL_crawl_15 : decode cL_crawl 15 = .ok (.iconst 1, 1) := by decide +kernel
theorem dL_crawl_16 : decode cL_crawl 16 = .ok (.ireturn, 1) := by decide +kernel
theorem dL_crawl_17 : decode cL_crawl 17 = .ok (.astore 4, 2) := by decide +kernel
theorem dL_crawl_19 : decode cL_crawl 19 = .ok (.iconst 2, 1) := by decide +kernel
theorem dL_crawl_20 : decode cL_crawl 20 = .ok (.ireturn, 1) := by decide +kernel
theorem dL_crawl_21 : decode cL_crawl 21 = .ok (.astore 4, 2) := by decide +kernel
theorem dL_crawl_23 : decode cL_crawl 23 = .ok (.iconst 3, 1) := by decide +kernel
theorem dL_crawl_24 : decode cL_crawl 24 = .ok (.ireturn, 1) := by decide +kernel
theorem dL_crawl_25 : decode cL_crawl 25 = .ok (.iconst 0, 1) := by decide +kernel
theorem dL_crawl_26 : decode cL_crawl 26 = .ok (.ireturn, 1) := by decide +kernel
theorem dL_meetMark_0 : decode cL_meetMark 0 = .ok (.aload_n 2, 1) := by decide +kernel
theorem dL_meetMark_1 : decode cL_meetMark 1 = .ok (.iconst 0, 1) := by decide +kernel
theorem dL_meetMark_2 : decode cL_meetMark 2 = .ok (.aload_n 0, 1) := by decide +kernel
theorem dL_meetMark_3 : decode cL_meetMark 3 = .ok (.iload_n 1, 1) := by decide +kernel
theorem dL_meetMark_4 : decode cL_meetMark 4 = .ok (.invokevirtual 23, 3) := by decide +kernel
theorem dL_meetMark_7 : decode cL_meetMark 7 = .ok (.i2l, 1) := by decide +kernel
theorem dL_meetMark_8 : decode cL_meetMark 8 = .ok (.lastore, 1) := by decide +kernel
theorem dL_meetMark_9 : decode cL_meetMark 9 = .ok (.goto 6, 3) := by decide +kernel
theorem dL_meetMark_12 : decode cL_meetMark 12 = .ok (.astore_n 3, 1) := by decide +kernel
theorem dL_meetMark_13 : decode cL_meetMark 13 = .ok (.iconst 1, 1) := by decide +kernel
theorem dL_meetMark_14 : decode cL_meetMark 14 = .ok (.ireturn, 1) := by decide +kernel
theorem dL_meetMark_15 : decode cL_meetMark 15 = .ok (.iconst 0, 1) := by decide +kernel
theorem dL_meetMark_16 : decode cL_meetMark 16 = .ok (.ireturn, 1) := by decide +kernel
theorem dL_goBack_0 : decode cL_goBack 0 = .ok (.aload_n 3, 1) := by decide +kernel
theorem dL_goBack_1 : decode cL_goBack 1 = .ok (.iconst 0, 1) := by decide +kernel
theorem dL_goBack_2 : decode cL_goBack 2 = .ok (.aload_n 0, 1) := by decide +kernel
theorem dL_goBack_3 : decode cL_goBack 3 = .ok (.iload_n 1, 1) := by decide +kernel
theorem dL_goBack_4 : decode cL_goBack 4 = .ok (.iload_n 2, 1) := by decide +kernel
theorem dL_goBack_5 : decode cL_goBack 5 = .ok (.invokevirtual 27, 3) := by decide +kernel
theorem dL_goBack_8 : decode cL_goBack 8 = .ok (.i2l, 1) := by decide +kernel
theorem dL_goBack_9 : decode cL_goBack 9 = .ok (.lastore, 1) := by decide +kernel
theorem dL_goBack_10 : decode cL_goBack 10 = .ok (.goto 15, 3) := by decide +kernel
theorem dL_goBack_13 : decode cL_goBack 13 = .ok (.astore 4, 2) := by decide +kernel
theorem dL_goBack_15 : decode cL_goBack 15 = .ok (.iconst 1, 1) := by decide +kernel
theorem dL_goBack_16 : decode cL_goBack 16 = .ok (.ireturn, 1) := by decide +kernel
theorem dL_goBack_17 : decode cL_goBack 17 = .ok (.astore 4, 2) := by decide +kernel
theorem dL_goBack_19 : decode cL_goBack 19 = .ok (.iconst 2, 1) := by decide +kernel
theorem dL_goBack_20 : decode cL_goBack 20 = .ok (.ireturn, 1) := by decide +kernel
theorem dL_goBack_21 : decode cL_goBack 21 = .ok (.astore 4, 2) := by decide +kernel
theorem dL_goBack_23 : decode cL_goBack 23 = .ok (.iconst 3, 1) := by decide +kernel
theorem dL_goBack_24 : decode cL_goBack 24 = .ok (.ireturn, 1) := by decide +kernel
theorem dL_goBack_25 : decode cL_goBack 25 = .ok (.iconst 0, 1) := by decide +kernel
theorem dL_goBack_26 : decode cL_goBack 26 = .ok (.ireturn, 1) := by decide +kernel
theorem dL_setRule_0 : decode cL_setRule 0 = .ok (.aload_n 2, 1) := by decide +kernel
theorem dL_setRule_1 : decode cL_setRule 1 = .ok (.iconst 0, 1) := by decide +kernel
theorem dL_setRule_2 : decode cL_setRule 2 = .ok (.aload_n 0, 1) := by decide +kernel
theorem dL_setRule_3 : decode cL_setRule 3 = .ok (.iload_n 1, 1) := by decide +kernel
theorem dL_setRule_4 : decode cL_setRule 4 = .ok (.invokevirtual 30, 3) := by decide +kernel
theorem dL_setRule_7 : decode cL_setRule 7 = .ok (.i2l, 1) := by decide +kernel
theorem dL_setRule_8 : decode cL_setRule 8 = .ok (.lastore, 1) := by decide +kernel
theorem dL_setRule_9 : decode cL_setRule 9 = .ok (.goto 6, 3) := by decide +kernel
theorem dL_setRule_12 : decode cL_setRule 12 = .ok (.astore_n 3, 1) := by decide +kernel
theorem dL_setRule_13 : decode cL_setRule 13 = .ok (.iconst 1, 1) := by decide +kernel
theorem dL_setRule_14 : decode cL_setRule 14 = .ok (.ireturn, 1) := by decide +kernel
theorem dL_setRule_15 : decode cL_setRule 15 = .ok (.iconst 0, 1) := by decide +kernel
theorem dL_setRule_16 : decode cL_setRule 16 = .ok (.ireturn, 1) := by decide +kernel
theorem dL_setCounts_0 : decode cL_setCounts 0 = .ok (.aload_n 2, 1) := by decide +kernel
theorem dL_setCounts_1 : decode cL_setCounts 1 = .ok (.iconst 0, 1) := by decide +kernel
theorem dL_setCounts_2 : decode cL_setCounts 2 = .ok (.aload_n 0, 1) := by decide +kernel
theorem dL_setCounts_3 : decode cL_setCounts 3 = .ok (.iload_n 1, 1) := by decide +kernel
theorem dL_setCounts_4 : decode cL_setCounts 4 = .ok (.invokevirtual 33, 3) := by decide +kernel
theorem dL_setCounts_7 : decode cL_setCounts 7 = .ok (.i2l, 1) := by decide +kernel
theorem dL_setCounts_8 : decode cL_setCounts 8 = .ok (.lastore, 1) := by decide +kernel
theorem dL_setCounts_9 : decode cL_setCounts 9 = .ok (.goto 6, 3) := by decide +kernel
theorem dL_setCounts_12 : decode cL_setCounts 12 = .ok (.astore_n 3, 1) := by decide +kernel
theorem dL_setCounts_13 : decode cL_setCounts 13 = .ok (.iconst 1, 1) := by decide +kernel
theorem dL_setCounts_14 : decode cL_setCounts 14 = .ok (.ireturn, 1) := by decide +kernel
theorem dL_setCounts_15 : decode cL_setCounts 15 = .ok (.iconst 0, 1) := by decide +kernel
theorem dL_setCounts_16 : decode cL_setCounts 16 = .ok (.ireturn, 1) := by decide +kernel
theorem dL_type_0 : decode cL_type 0 = .ok (.aload_n 2, 1) := by decide +kernel
theorem dL_type_1 : decode cL_type 1 = .ok (.iconst 0, 1) := by decide +kernel
theorem dL_type_2 : decode cL_type 2 = .ok (.aload_n 0, 1) := by decide +kernel
theorem dL_type_3 : decode cL_type 3 = .ok (.iload_n 1, 1) := by decide +kernel
theorem dL_type_4 : decode cL_type 4 = .ok (.invokevirtual 36, 3) := by decide +kernel
theorem dL_type_7 : decode cL_type 7 = .ok (.i2l, 1) := by decide +kernel
theorem dL_type_8 : decode cL_type 8 = .ok (.lastore, 1) := by decide +kernel
theorem dL_type_9 : decode cL_type 9 = .ok (.goto 6, 3) := by decide +kernel
theorem dL_type_12 : decode cL_type 12 = .ok (.astore_n 3, 1) := by decide +kernel
theorem dL_type_13 : decode cL_type 13 = .ok (.iconst 1, 1) := by decide +kernel
theorem dL_type_14 : decode cL_type 14 = .ok (.ireturn, 1) := by decide +kernel
theorem dL_type_15 : decode cL_type 15 = .ok (.iconst 0, 1) := by decide +kernel
theorem dL_type_16 : decode cL_type 16 = .ok (.ireturn, 1) := by decide +kernel
theorem dL_impossibleOrder_0 : decode cL_impossibleOrder 0 = .ok (.aload_n 1, 1) := by decide +kernel
theorem dL_impossibleOrder_1 : decode cL_impossibleOrder 1 = .ok (.iconst 0, 1) := by decide +kernel
theorem dL_impossibleOrder_2 : decode cL_impossibleOrder 2 = .ok (.aload_n 0, 1) := by decide +kernel
theorem dL_impossibleOrder_3 : decode cL_impossibleOrder 3 = .ok (.invokevirtual 40, 3) := by decide +kernel
theorem dL_impossibleOrder_6 : decode cL_impossibleOrder 6 = .ok (.i2l, 1) := by decide +kernel
theorem dL_impossibleOrder_7 : decode cL_impossibleOrder 7 = .ok (.lastore, 1) := by decide +kernel
theorem dL_impossibleOrder_8 : decode cL_impossibleOrder 8 = .ok (.goto 6, 3) := by decide +kernel
theorem dL_impossibleOrder_11 : decode cL_impossibleOrder 11 = .ok (.astore_n 2, 1) := by decide +kernel
theorem dL_impossibleOrder_12 : decode cL_impossibleOrder 12 = .ok (.iconst 1, 1) := by decide +kernel
theorem dL_impossibleOrder_13 : decode cL_impossibleOrder 13 = .ok (.ireturn, 1) := by decide +kernel
theorem dL_impossibleOrder_14 : decode cL_impossibleOrder 14 = .ok (.iconst 0, 1) := by decide +kernel
theorem dL_impossibleOrder_15 : decode cL_impossibleOrder 15 = .ok (.ireturn, 1) := by decide +kernel
theorem dL_carryOut_0 : decode cL_carryOut 0 = .ok (.aload_n 1, 1) := by decide +kernel
theorem dL_carryOut_1 : decode cL_carryOut 1 = .ok (.iconst 0, 1) := by decide +kernel
theorem dL_carryOut_2 : decode cL_carryOut 2 = .ok (.aload_n 0, 1) := by decide +kernel
theorem dL_carryOut_3 : decode cL_carryOut 3 = .ok (.invokevirtual 44, 3) := by decide +kernel
theorem dL_carryOut_6 : decode cL_carryOut 6 = .ok (.i2l, 1) := by decide +kernel
theorem dL_carryOut_7 : decode cL_carryOut 7 = .ok (.lastore, 1) := by decide +kernel
theorem dL_carryOut_8 : decode cL_carryOut 8 = .ok (.goto 6, 3) := by decide +kernel
theorem dL_carryOut_11 : decode cL_carryOut 11 = .ok (.astore_n 2, 1) := by decide +kernel
theorem dL_carryOut_12 : decode cL_carryOut 12 = .ok (.iconst 1, 1) := by decide +kernel
theorem dL_carryOut_13 : decode cL_carryOut 13 = .ok (.ireturn, 1) := by decide +kernel
theorem dL_carryOut_14 : decode cL_carryOut 14 = .ok (.iconst 0, 1) := by decide +kernel
theorem dL_carryOut_15 : decode cL_carryOut 15 = .ok (.ireturn, 1) := by decide +kernel
theorem dL_undo_0 : decode cL_undo 0 = .ok (.aload_n 1, 1) := by decide +kernel
theorem dL_undo_1 : decode cL_undo 1 = .ok (.iconst 0, 1) := by decide +kernel
theorem dL_undo_2 : decode cL_undo 2 = .ok (.aload_n 0, 1) := by decide +kernel
theorem dL_undo_3 : decode cL_undo 3 = .ok (.invokevirtual 47, 3) := by decide +kernel
theorem dL_undo_6 : decode cL_undo 6 = .ok (.i2l, 1) := by decide +kernel
theorem dL_undo_7 : decode cL_undo 7 = .ok (.lastore, 1) := by decide +kernel
theorem dL_undo_8 : decode cL_undo 8 = .ok (.goto 6, 3) := by decide +kernel
theorem dL_undo_11 : decode cL_undo 11 = .ok (.astore_n 2, 1) := by decide +kernel
theorem dL_undo_12 : decode cL_undo 12 = .ok (.iconst 1, 1) := by decide +kernel
theorem dL_undo_13 : decode cL_undo 13 = .ok (.ireturn, 1) := by decide +kernel
theorem dL_undo_14 : decode cL_undo 14 = .ok (.iconst 0, 1) := by decide +kernel
theorem dL_undo_15 : decode cL_undo 15 = .ok (.ireturn, 1) := by decide +kernel
theorem dL_restoreSnapshot_0 : decode cL_restoreSnapshot 0 = .ok (.aload_n 1, 1) := by decide +kernel
theorem dL_restoreSnapshot_1 : decode cL_restoreSnapshot 1 = .ok (.iconst 0, 1) := by decide +kernel
theorem dL_restoreSnapshot_2 : decode cL_restoreSnapshot 2 = .ok (.aload_n 0, 1) := by decide +kernel
theorem dL_restoreSnapshot_3 : decode cL_restoreSnapshot 3 = .ok (.invokevirtual 50, 3) := by decide +kernel
theorem dL_restoreSnapshot_6 : decode cL_restoreSnapshot 6 = .ok (.i2l, 1) := by decide +kernel
theorem dL_restoreSnapshot_7 : decode cL_restoreSnapshot 7 = .ok (.lastore, 1) := by decide +kernel
theorem dL_restoreSnapshot_8 : decode cL_restoreSnapshot 8 = .ok (.goto 6, 3) := by decide +kernel
theorem dL_restoreSnapshot_11 : decode cL_restoreSnapshot 11 = .ok (.astore_n 2, 1) := by decide +kernel
theorem dL_restoreSnapshot_12 : decode cL_restoreSnapshot 12 = .ok (.iconst 1, 1) := by decide +kernel
theorem dL_restoreSnapshot_13 : decode cL_restoreSnapshot 13 = .ok (.ireturn, 1) := by decide +kernel
theorem dL_restoreSnapshot_14 : decode cL_restoreSnapshot 14 = .ok (.iconst 0, 1) := by decide +kernel
theorem dL_restoreSnapshot_15 : decode cL_restoreSnapshot 15 = .ok (.ireturn, 1) := by decide +kernel
theorem dL_stateOf_0 : decode cL_stateOf 0 = .ok (.aload_n 2, 1) := by decide +kernel
theorem dL_stateOf_1 : decode cL_stateOf 1 = .ok (.iconst 0, 1) := by decide +kernel
theorem dL_stateOf_2 : decode cL_stateOf 2 = .ok (.aload_n 0, 1) := by decide +kernel
theorem dL_stateOf_3 : decode cL_stateOf 3 = .ok (.iload_n 1, 1) := by decide +kernel
theorem dL_stateOf_4 : decode cL_stateOf 4 = .ok (.invokevirtual 53, 3) := by decide +kernel
theorem dL_stateOf_7 : decode cL_stateOf 7 = .ok (.i2l, 1) := by decide +kernel
theorem dL_stateOf_8 : decode cL_stateOf 8 = .ok (.lastore, 1) := by decide +kernel
theorem dL_stateOf_9 : decode cL_stateOf 9 = .ok (.goto 6, 3) := by decide +kernel
theorem dL_stateOf_12 : decode cL_stateOf 12 = .ok (.astore_n 3, 1) := by decide +kernel
theorem dL_stateOf_13 : decode cL_stateOf 13 = .ok (.iconst 1, 1) := by decide +kernel
theorem dL_stateOf_14 : decode cL_stateOf 14 = .ok (.ireturn, 1) := by decide +kernel
theorem dL_stateOf_15 : decode cL_stateOf 15 = .ok (.iconst 0, 1) := by decide +kernel
theorem dL_stateOf_16 : decode cL_stateOf 16 = .ok (.ireturn, 1) := by decide +kernel
theorem dL_positionOf_0 : decode cL_positionOf 0 = .ok (.aload_n 2, 1) := by decide +kernel
theorem dL_positionOf_1 : decode cL_positionOf 1 = .ok (.iconst 0, 1) := by decide +kernel
theorem dL_positionOf_2 : decode cL_positionOf 2 = .ok (.aload_n 0, 1) := by decide +kernel
theorem dL_positionOf_3 : decode cL_positionOf 3 = .ok (.iload_n 1, 1) := by decide +kernel
theorem dL_positionOf_4 : decode cL_positionOf 4 = .ok (.invokevirtual 56, 3) := by decide +kernel
theorem dL_positionOf_7 : decode cL_positionOf 7 = .ok (.i2l, 1) := by decide +kernel
theorem dL_positionOf_8 : decode cL_positionOf 8 = .ok (.lastore, 1) := by decide +kernel
theorem dL_positionOf_9 : decode cL_positionOf 9 = .ok (.goto 6, 3) := by decide +kernel
theorem dL_positionOf_12 : decode cL_positionOf 12 = .ok (.astore_n 3, 1) := by decide +kernel
theorem dL_positionOf_13 : decode cL_positionOf 13 = .ok (.iconst 1, 1) := by decide +kernel
theorem dL_positionOf_14 : decode cL_positionOf 14 = .ok (.ireturn, 1) := by decide +kernel
theorem dL_positionOf_15 : decode cL_positionOf 15 = .ok (.iconst 0, 1) := by decide +kernel
theorem dL_positionOf_16 : decode cL_positionOf 16 = .ok (.ireturn, 1) := by decide +kernel
theorem dL_positionByTracks_0 : decode cL_positionByTracks 0 = .ok (.aload_n 2, 1) := by decide +kernel
theorem dL_positionByTracks_1 : decode cL_positionByTracks 1 = .ok (.iconst 0, 1) := by decide +kernel
theorem dL_positionByTracks_2 : decode cL_positionByTracks 2 = .ok (.aload_n 0, 1) := by decide +kernel
theorem dL_positionByTracks_3 : decode cL_positionByTracks 3 = .ok (.iload_n 1, 1) := by decide +kernel
theorem dL_positionByTracks_4 : decode cL_positionByTracks 4 = .ok (.invokevirtual 59, 3) := by decide +kernel
theorem dL_positionByTracks_7 : decode cL_positionByTracks 7 = .ok (.i2l, 1) := by decide +kernel
theorem dL_positionByTracks_8 : decode cL_positionByTracks 8 = .ok (.lastore, 1) := by decide +kernel
theorem dL_positionByTracks_9 : decode cL_positionByTracks 9 = .ok (.goto 6, 3) := by decide +kernel
theorem dL_positionByTracks_12 : decode cL_positionByTracks 12 = .ok (.astore_n 3, 1) := by decide +kernel
theorem dL_positionByTracks_13 : decode cL_positionByTracks 13 = .ok (.iconst 1, 1) := by decide +kernel
theorem dL_positionByTracks_14 : decode cL_positionByTracks 14 = .ok (.ireturn, 1) := by decide +kernel
theorem dL_positionByTracks_15 : decode cL_positionByTracks 15 = .ok (.iconst 0, 1) := by decide +kernel
theorem dL_positionByTracks_16 : decode cL_positionByTracks 16 = .ok (.ireturn, 1) := by decide +kernel
theorem dL_turnsOf_0 : decode cL_turnsOf 0 = .ok (.aload_n 2, 1) := by decide +kernel
theorem dL_turnsOf_1 : decode cL_turnsOf 1 = .ok (.iconst 0, 1) := by decide +kernel
theorem dL_turnsOf_2 : decode cL_turnsOf 2 = .ok (.aload_n 0, 1) := by decide +kernel
theorem dL_turnsOf_3 : decode cL_turnsOf 3 = .ok (.iload_n 1, 1) := by decide +kernel
theorem dL_turnsOf_4 : decode cL_turnsOf 4 = .ok (.invokevirtual 62, 3) := by decide +kernel
theorem dL_turnsOf_7 : decode cL_turnsOf 7 = .ok (.i2l, 1) := by decide +kernel
theorem dL_turnsOf_8 : decode cL_turnsOf 8 = .ok (.lastore, 1) := by decide +kernel
theorem dL_turnsOf_9 : decode cL_turnsOf 9 = .ok (.goto 6, 3) := by decide +kernel
theorem dL_turnsOf_12 : decode cL_turnsOf 12 = .ok (.astore_n 3, 1) := by decide +kernel
theorem dL_turnsOf_13 : decode cL_turnsOf 13 = .ok (.iconst 1, 1) := by decide +kernel
theorem dL_turnsOf_14 : decode cL_turnsOf 14 = .ok (.ireturn, 1) := by decide +kernel
theorem dL_turnsOf_15 : decode cL_turnsOf 15 = .ok (.iconst 0, 1) := by decide +kernel
theorem dL_turnsOf_16 : decode cL_turnsOf 16 = .ok (.ireturn, 1) := by decide +kernel
theorem dL_placeOf_0 : decode cL_placeOf 0 = .ok (.aload_n 2, 1) := by decide +kernel
theorem dL_placeOf_1 : decode cL_placeOf 1 = .ok (.iconst 0, 1) := by decide +kernel
theorem dL_placeOf_2 : decode cL_placeOf 2 = .ok (.aload_n 0, 1) := by decide +kernel
theorem dL_placeOf_3 : decode cL_placeOf 3 = .ok (.iload_n 1, 1) := by decide +kernel
theorem dL_placeOf_4 : decode cL_placeOf 4 = .ok (.invokevirtual 65, 3) := by decide +kernel
theorem dL_placeOf_7 : decode cL_placeOf 7 = .ok (.i2l, 1) := by decide +kernel
theorem dL_placeOf_8 : decode cL_placeOf 8 = .ok (.lastore, 1) := by decide +kernel
theorem dL_placeOf_9 : decode cL_placeOf 9 = .ok (.goto 6, 3) := by decide +kernel
theorem dL_placeOf_12 : decode cL_placeOf 12 = .ok (.astore_n 3, 1) := by decide +kernel
theorem dL_placeOf_13 : decode cL_placeOf 13 = .ok (.iconst 1, 1) := by decide +kernel
theorem dL_placeOf_14 : decode cL_placeOf 14 = .ok (.ireturn, 1) := by decide +kernel
theorem dL_placeOf_15 : decode cL_placeOf 15 = .ok (.iconst 0, 1) := by decide +kernel
theorem dL_placeOf_16 : decode cL_placeOf 16 = .ok (.ireturn, 1) := by decide +kernel
theorem dL_directionOf_0 : decode cL_directionOf 0 = .ok (.aload_n 2, 1) := by decide +kernel
theorem dL_directionOf_1 : decode cL_directionOf 1 = .ok (.iconst 0, 1) := by decide +kernel
theorem dL_directionOf_2 : decode cL_directionOf 2 = .ok (.aload_n 0, 1) := by decide +kernel
theorem dL_directionOf_3 : decode cL_directionOf 3 = .ok (.iload_n 1, 1) := by decide +kernel
theorem dL_directionOf_4 : decode cL_directionOf 4 = .ok (.invokevirtual 68, 3) := by decide +kernel
theorem dL_directionOf_7 : decode cL_directionOf 7 = .ok (.i2l, 1) := by decide +kernel
theorem dL_directionOf_8 : decode cL_directionOf 8 = .ok (.lastore, 1) := by decide +kernel
theorem dL_directionOf_9 : decode cL_directionOf 9 = .ok (.goto 6, 3) := by decide +kernel
theorem dL_directionOf_12 : decode cL_directionOf 12 = .ok (.astore_n 3, 1) := by decide +kernel
theorem dL_directionOf_13 : decode cL_directionOf 13 = .ok (.iconst 1, 1) := by decide +kernel
theorem dL_directionOf_14 : decode cL_directionOf 14 = .ok (.ireturn, 1) := by decide +kernel
theorem dL_directionOf_15 : decode cL_directionOf 15 = .ok (.iconst 0, 1) := by decide +kernel
theorem dL_directionOf_16 : decode cL_directionOf 16 = .ok (.ireturn, 1) := by decide +kernel
theorem dL_countOfA_0 : decode cL_countOfA 0 = .ok (.aload_n 2, 1) := by decide +kernel
theorem dL_countOfA_1 : decode cL_countOfA 1 = .ok (.iconst 0, 1) := by decide +kernel
theorem dL_countOfA_2 : decode cL_countOfA 2 = .ok (.aload_n 0, 1) := by decide +kernel
theorem dL_countOfA_3 : decode cL_countOfA 3 = .ok (.iload_n 1, 1) := by decide +kernel
theorem dL_countOfA_4 : decode cL_countOfA 4 = .ok (.invokevirtual 71, 3) := by decide +kernel
theorem dL_countOfA_7 : decode cL_countOfA 7 = .ok (.i2l, 1) := by decide +kernel
theorem dL_countOfA_8 : decode cL_countOfA 8 = .ok (.lastore, 1) := by decide +kernel
theorem dL_countOfA_9 : decode cL_countOfA 9 = .ok (.goto 6, 3) := by decide +kernel
theorem dL_countOfA_12 : decode cL_countOfA 12 = .ok (.astore_n 3, 1) := by decide +kernel
theorem dL_countOfA_13 : decode cL_countOfA 13 = .ok (.iconst 1, 1) := by decide +kernel
theorem dL_countOfA_14 : decode cL_countOfA 14 = .ok (.ireturn, 1) := by decide +kernel
theorem dL_countOfA_15 : decode cL_countOfA 15 = .ok (.iconst 0, 1) := by decide +kernel
theorem dL_countOfA_16 : decode cL_countOfA 16 = .ok (.ireturn, 1) := by decide +kernel
theorem dL_stepTo_0 : decode cL_stepTo 0 = .ok (.aload_n 3, 1) := by decide +kernel
theorem dL_stepTo_1 : decode cL_stepTo 1 = .ok (.iconst 0, 1) := by decide +kernel
theorem dL_stepTo_2 : decode cL_stepTo 2 = .ok (.aload_n 0, 1) := by decide +kernel
theorem dL_stepTo_3 : decode cL_stepTo 3 = .ok (.iload_n 1, 1) := by decide +kernel
theorem dL_stepTo_4 : decode cL_stepTo 4 = .ok (.iload_n 2, 1) := by decide +kernel
theorem dL_stepTo_5 : decode cL_stepTo 5 = .ok (.invokevirtual 74, 3) := by decide +kernel
theorem dL_stepTo_8 : decode cL_stepTo 8 = .ok (.i2l, 1) := by decide +kernel
theorem dL_stepTo_9 : decode cL_stepTo 9 = .ok (.lastore, 1) := by decide +kernel
theorem dL_stepTo_10 : decode cL_stepTo 10 = .ok (.goto 11, 3) := by decide +kernel
theorem dL_stepTo_13 : decode cL_stepTo 13 = .ok (.astore 4, 2) := by decide +kernel
theorem dL_stepTo_15 : decode cL_stepTo 15 = .ok (.iconst 1, 1) := by decide +kernel
theorem dL_stepTo_16 : decode cL_stepTo 16 = .ok (.ireturn, 1) := by decide +kernel
theorem dL_stepTo_17 : decode cL_stepTo 17 = .ok (.astore 4, 2) := by decide +kernel
theorem dL_stepTo_19 : decode cL_stepTo 19 = .ok (.iconst 2, 1) := by decide +kernel
theorem dL_stepTo_20 : decode cL_stepTo 20 = .ok (.ireturn, 1) := by decide +kernel
theorem dL_stepTo_21 : decode cL_stepTo 21 = .ok (.iconst 0, 1) := by decide +kernel
theorem dL_stepTo_22 : decode cL_stepTo 22 = .ok (.ireturn, 1) := by decide +kernel
theorem dL_logLength_0 : decode cL_logLength 0 = .ok (.aload_n 2, 1) := by decide +kernel
theorem dL_logLength_1 : decode cL_logLength 1 = .ok (.iconst 0, 1) := by decide +kernel
theorem dL_logLength_2 : decode cL_logLength 2 = .ok (.aload_n 0, 1) := by decide +kernel
theorem dL_logLength_3 : decode cL_logLength 3 = .ok (.iload_n 1, 1) := by decide +kernel
theorem dL_logLength_4 : decode cL_logLength 4 = .ok (.invokevirtual 77, 3) := by decide +kernel
theorem dL_logLength_7 : decode cL_logLength 7 = .ok (.i2l, 1) := by decide +kernel
theorem dL_logLength_8 : decode cL_logLength 8 = .ok (.lastore, 1) := by decide +kernel
theorem dL_logLength_9 : decode cL_logLength 9 = .ok (.goto 6, 3) := by decide +kernel
theorem dL_logLength_12 : decode cL_logLength 12 = .ok (.astore_n 3, 1) := by decide +kernel
theorem dL_logLength_13 : decode cL_logLength 13 = .ok (.iconst 1, 1) := by decide +kernel
theorem dL_logLength_14 : decode cL_logLength 14 = .ok (.ireturn, 1) := by decide +kernel
theorem dL_logLength_15 : decode cL_logLength 15 = .ok (.iconst 0, 1) := by decide +kernel
theorem dL_logLength_16 : decode cL_logLength 16 = .ok (.ireturn, 1) := by decide +kernel
theorem dL_loggedStep_0 : decode cL_loggedStep 0 = .ok (.aload_n 3, 1) := by decide +kernel
theorem dL_loggedStep_1 : decode cL_loggedStep 1 = .ok (.iconst 0, 1) := by decide +kernel
theorem dL_loggedStep_2 : decode cL_loggedStep 2 = .ok (.aload_n 0, 1) := by decide +kernel
theorem dL_loggedStep_3 : decode cL_loggedStep 3 = .ok (.iload_n 1, 1) := by decide +kernel
theorem dL_loggedStep_4 : decode cL_loggedStep 4 = .ok (.iload_n 2, 1) := by decide +kernel
theorem dL_loggedStep_5 : decode cL_loggedStep 5 = .ok (.invokevirtual 80, 3) := by decide +kernel
theorem dL_loggedStep_8 : decode cL_loggedStep 8 = .ok (.i2l, 1) := by decide +kernel
theorem dL_loggedStep_9 : decode cL_loggedStep 9 = .ok (.lastore, 1) := by decide +kernel
theorem dL_loggedStep_10 : decode cL_loggedStep 10 = .ok (.goto 7, 3) := by decide +kernel
theorem dL_loggedStep_13 : decode cL_loggedStep 13 = .ok (.astore 4, 2) := by decide +kernel
theorem dL_loggedStep_15 : decode cL_loggedStep 15 = .ok (.iconst 1, 1) := by decide +kernel
theorem dL_loggedStep_16 : decode cL_loggedStep 16 = .ok (.ireturn, 1) := by decide +kernel
theorem dL_loggedStep_17 : decode cL_loggedStep 17 = .ok (.iconst 0, 1) := by decide +kernel
theorem dL_loggedStep_18 : decode cL_loggedStep 18 = .ok (.ireturn, 1) := by decide +kernel
theorem dL_speedOf_0 : decode cL_speedOf 0 = .ok (.aload_n 2, 1) := by decide +kernel
theorem dL_speedOf_1 : decode cL_speedOf 1 = .ok (.iconst 0, 1) := by decide +kernel
theorem dL_speedOf_2 : decode cL_speedOf 2 = .ok (.aload_n 0, 1) := by decide +kernel
theorem dL_speedOf_3 : decode cL_speedOf 3 = .ok (.iload_n 1, 1) := by decide +kernel
theorem dL_speedOf_4 : decode cL_speedOf 4 = .ok (.invokevirtual 83, 3) := by decide +kernel
theorem dL_speedOf_7 : decode cL_speedOf 7 = .ok (.dastore, 1) := by decide +kernel
theorem dL_speedOf_8 : decode cL_speedOf 8 = .ok (.goto 6, 3) := by decide +kernel
theorem dL_speedOf_11 : decode cL_speedOf 11 = .ok (.astore_n 3, 1) := by decide +kernel
theorem dL_speedOf_12 : decode cL_speedOf 12 = .ok (.iconst 1, 1) := by decide +kernel
theorem dL_speedOf_13 : decode cL_speedOf 13 = .ok (.ireturn, 1) := by decide +kernel
theorem dL_speedOf_14 : decode cL_speedOf 14 = .ok (.iconst 0, 1) := by decide +kernel
theorem dL_speedOf_15 : decode cL_speedOf 15 = .ok (.ireturn, 1) := by decide +kernel
theorem dL_errorsOf_0 : decode cL_errorsOf 0 = .ok (.aload_n 2, 1) := by decide +kernel
theorem dL_errorsOf_1 : decode cL_errorsOf 1 = .ok (.iconst 0, 1) := by decide +kernel
theorem dL_errorsOf_2 : decode cL_errorsOf 2 = .ok (.aload_n 0, 1) := by decide +kernel
theorem dL_errorsOf_3 : decode cL_errorsOf 3 = .ok (.iload_n 1, 1) := by decide +kernel
theorem dL_errorsOf_4 : decode cL_errorsOf 4 = .ok (.invokevirtual 87, 3) := by decide +kernel
theorem dL_errorsOf_7 : decode cL_errorsOf 7 = .ok (.i2l, 1) := by decide +kernel
theorem dL_errorsOf_8 : decode cL_errorsOf 8 = .ok (.lastore, 1) := by decide +kernel
theorem dL_errorsOf_9 : decode cL_errorsOf 9 = .ok (.goto 6, 3) := by decide +kernel
theorem dL_errorsOf_12 : decode cL_errorsOf 12 = .ok (.astore_n 3, 1) := by decide +kernel
theorem dL_errorsOf_13 : decode cL_errorsOf 13 = .ok (.iconst 1, 1) := by decide +kernel
theorem dL_errorsOf_14 : decode cL_errorsOf 14 = .ok (.ireturn, 1) := by decide +kernel
theorem dL_errorsOf_15 : decode cL_errorsOf 15 = .ok (.iconst 0, 1) := by decide +kernel
theorem dL_errorsOf_16 : decode cL_errorsOf 16 = .ok (.ireturn, 1) := by decide +kernel
theorem dL_slipsOf_0 : decode cL_slipsOf 0 = .ok (.aload_n 2, 1) := by decide +kernel
theorem dL_slipsOf_1 : decode cL_slipsOf 1 = .ok (.iconst 0, 1) := by decide +kernel
theorem dL_slipsOf_2 : decode cL_slipsOf 2 = .ok (.aload_n 0, 1) := by decide +kernel
theorem dL_slipsOf_3 : decode cL_slipsOf 3 = .ok (.iload_n 1, 1) := by decide +kernel
theorem dL_slipsOf_4 : decode cL_slipsOf 4 = .ok (.invokevirtual 90, 3) := by decide +kernel
theorem dL_slipsOf_7 : decode cL_slipsOf 7 = .ok (.i2l, 1) := by decide +kernel
theorem dL_slipsOf_8 : decode cL_slipsOf 8 = .ok (.lastore, 1) := by decide +kernel
theorem dL_slipsOf_9 : decode cL_slipsOf 9 = .ok (.goto 6, 3) := by decide +kernel
theorem dL_slipsOf_12 : decode cL_slipsOf 12 = .ok (.astore_n 3, 1) := by decide +kernel
theorem dL_slipsOf_13 : decode cL_slipsOf 13 = .ok (.iconst 1, 1) := by decide +kernel
theorem dL_slipsOf_14 : decode cL_slipsOf 14 = .ok (.ireturn, 1) := by decide +kernel
theorem dL_slipsOf_15 : decode cL_slipsOf 15 = .ok (.iconst 0, 1) := by decide +kernel
theorem dL_slipsOf_16 : decode cL_slipsOf 16 = .ok (.ireturn, 1) := by decide +kernel
theorem dL_distanceOf_0 : decode cL_distanceOf 0 = .ok (.aload_n 2, 1) := by decide +kernel
theorem dL_distanceOf_1 : decode cL_distanceOf 1 = .ok (.iconst 0, 1) := by decide +kernel
theorem dL_distanceOf_2 : decode cL_distanceOf 2 = .ok (.aload_n 0, 1) := by decide +kernel
theorem dL_distanceOf_3 : decode cL_distanceOf 3 = .ok (.iload_n 1, 1) := by decide +kernel
theorem dL_distanceOf_4 : decode cL_distanceOf 4 = .ok (.invokevirtual 93, 3) := by decide +kernel
theorem dL_distanceOf_7 : decode cL_distanceOf 7 = .ok (.i2l, 1) := by decide +kernel
theorem dL_distanceOf_8 : decode cL_distanceOf 8 = .ok (.lastore, 1) := by decide +kernel
theorem dL_distanceOf_9 : decode cL_distanceOf 9 = .ok (.goto 6, 3) := by decide +kernel
theorem dL_distanceOf_12 : decode cL_distanceOf 12 = .ok (.astore_n 3, 1) := by decide +kernel
theorem dL_distanceOf_13 : decode cL_distanceOf 13 = .ok (.iconst 1, 1) := by decide +kernel
theorem dL_distanceOf_14 : decode cL_distanceOf 14 = .ok (.ireturn, 1) := by decide +kernel
theorem dL_distanceOf_15 : decode cL_distanceOf 15 = .ok (.iconst 0, 1) := by decide +kernel
theorem dL_distanceOf_16 : decode cL_distanceOf 16 = .ok (.ireturn, 1) := by decide +kernel
theorem dL_ticksOf_0 : decode cL_ticksOf 0 = .ok (.aload_n 2, 1) := by decide +kernel
theorem dL_ticksOf_1 : decode cL_ticksOf 1 = .ok (.iconst 0, 1) := by decide +kernel
theorem dL_ticksOf_2 : decode cL_ticksOf 2 = .ok (.aload_n 0, 1) := by decide +kernel
theorem dL_ticksOf_3 : decode cL_ticksOf 3 = .ok (.iload_n 1, 1) := by decide +kernel
theorem dL_ticksOf_4 : decode cL_ticksOf 4 = .ok (.invokevirtual 96, 3) := by decide +kernel
theorem dL_ticksOf_7 : decode cL_ticksOf 7 = .ok (.i2l, 1) := by decide +kernel
theorem dL_ticksOf_8 : decode cL_ticksOf 8 = .ok (.lastore, 1) := by decide +kernel
theorem dL_ticksOf_9 : decode cL_ticksOf 9 = .ok (.goto 6, 3) := by decide +kernel
theorem dL_ticksOf_12 : decode cL_ticksOf 12 = .ok (.astore_n 3, 1) := by decide +kernel
theorem dL_ticksOf_13 : decode cL_ticksOf 13 = .ok (.iconst 1, 1) := by decide +kernel
theorem dL_ticksOf_14 : decode cL_ticksOf 14 = .ok (.ireturn, 1) := by decide +kernel
theorem dL_ticksOf_15 : decode cL_ticksOf 15 = .ok (.iconst 0, 1) := by decide +kernel
theorem dL_ticksOf_16 : decode cL_ticksOf 16 = .ok (.ireturn, 1) := by decide +kernel
